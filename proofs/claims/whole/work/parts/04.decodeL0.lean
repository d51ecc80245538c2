theorem d_L_poke_0 : decode c_L_poke 0 = .ok (.aload_n 3, 1) := by decide +kernel
theorem d_L_poke_1 : decode c_L_poke 1 = .ok (.iconst 0, 1) := by decide +kernel
theorem d_L_poke_2 : decode c_L_poke 2 = .ok (.aload_n 0, 1) := by decide +kernel
theorem d_L_poke_3 : decode c_L_poke 3 = .ok (.iload_n 1, 1) := by decide +kernel
theorem d_L_poke_4 : decode c_L_poke 4 = .ok (.iload_n 2, 1) := by decide +kernel
theorem d_L_poke_5 : decode c_L_poke 5 = .ok (.invokevirtual 7, 3) := by decide +kernel
theorem d_L_poke_8 : decode c_L_poke 8 = .ok (.i2l, 1) := by decide +kernel
theorem d_L_poke_9 : decode c_L_poke 9 = .ok (.lastore, 1) := by decide +kernel
theorem d_L_poke_10 : decode c_L_poke 10 = .ok (.goto 11, 3) := by decide +kernel
theorem d_L_poke_13 : decode c_L_poke 13 = .ok (.astore 4, 2) := by decide +kernel
theorem d_L_poke_15 : decode c_L_poke 15 = .ok (.iconst 1, 1) := by decide +kernel
theorem d_L_poke_16 : decode c_L_poke 16 = .ok (.ireturn, 1) := by decide +kernel
theorem d_L_poke_17 : decode c_L_poke 17 = .ok (.astore 4, 2) := by decide +kernel
theorem d_L_poke_19 : decode c_L_poke 19 = .ok (.iconst 2, 1) := by decide +kernel
theorem d_L_poke_20 : decode c_L_poke 20 = .ok (.ireturn, 1) := by decide +kernel
theorem d_L_poke_21 : decode c_L_poke 21 = .ok (.iconst 0, 1) := by decide +kernel
theorem d_L_poke_22 : decode c_L_poke 22 = .ok (.ireturn, 1) := by decide +kernel
theorem d_L_pokeFour_0 : decode c_L_pokeFour 0 = .ok (.aload_n 3, 1) := by decide +kernel
theorem d_L_pokeFour_1 : decode c_L_pokeFour 1 = .ok (.iconst 0, 1) := by decide +kernel
theorem d_L_pokeFour_2 : decode c_L_pokeFour 2 = .ok (.aload_n 0, 1) := by decide +kernel
theorem d_L_pokeFour_3 : decode c_L_pokeFour 3 = .ok (.iload_n 1, 1) := by decide +kernel
theorem d_L_pokeFour_4 : decode c_L_pokeFour 4 = .ok (.iload_n 2, 1) := by decide +kernel
theorem d_L_pokeFour_5 : decode c_L_pokeFour 5 = .ok (.invokevirtual 17, 3) := by decide +kernel
theorem d_L_pokeFour_8 : decode c_L_pokeFour 8 = .ok (.i2l, 1) := by decide +kernel
theorem d_L_pokeFour_9 : decode c_L_pokeFour 9 = .ok (.lastore, 1) := by decide +kernel
theorem d_L_pokeFour_10 : decode c_L_pokeFour 10 = .ok (.goto 7, 3) := by decide +kernel
theorem d_L_pokeFour_13 : decode c_L_pokeFour 13 = .ok (.astore 4, 2) := by decide +kernel
theorem d_L_pokeFour_15 : decode c_L_pokeFour 15 = .ok (.iconst 1, 1) := by decide +kernel
theorem d_L_pokeFour_16 : decode c_L_pokeFour 16 = .ok (.ireturn, 1) := by decide +kernel
theorem d_L_pokeFour_17 : decode c_L_pokeFour 17 = .ok (.iconst 0, 1) := by decide +kernel
theorem d_L_pokeFour_18 : decode c_L_pokeFour 18 = .ok (.ireturn, 1) := by decide +kernel
theorem d_L_set_0 : decode c_L_set 0 = .ok (.aload_n 3, 1) := by decide +kernel
theorem d_L_set_1 : decode c_L_set 1 = .ok (.iconst 0, 1) := by decide +kernel
theorem d_L_set_2 : decode c_L_set 2 = .ok (.aload_n 0, 1) := by decide +kernel
theorem d_L_set_3 : decode c_L_set 3 = .ok (.iload_n 1, 1) := by decide +kernel
theorem d_L_set_4 : decode c_L_set 4 = .ok (.iload_n 2, 1) := by decide +kernel
theorem d_L_set_5 : decode c_L_set 5 = .ok (.invokevirtual 20, 3) := by decide +kernel
theorem d_L_set_8 : decode c_L_set 8 = .ok (.i2l, 1) := by decide +kernel
theorem d_L_set_9 : decode c_L_set 9 = .ok (.lastore, 1) := by decide +kernel
theorem d_L_set_10 : decode c_L_set 10 = .ok (.goto 7, 3) := by decide +kernel
theorem d_L_set_13 : decode c_L_set 13 = .ok (.astore 4, 2) := by decide +kernel
theorem d_L_set_15 : decode c_L_set 15 = .ok (.iconst 1, 1) := by decide +kernel
theorem d_L_set_16 : decode c_L_set 16 = .ok (.ireturn, 1) := by decide +kernel
theorem d_L_set_17 : decode c_L_set 17 = .ok (.iconst 0, 1) := by decide +kernel
theorem d_L_set_18 : decode c_L_set 18 = .ok (.ireturn, 1) := by decide +kernel
theorem d_L_go_0 : decode c_L_go 0 = .ok (.aload_n 2, 1) := by decide +kernel
theorem d_L_go_1 : decode c_L_go 1 = .ok (.iconst 0, 1) := by decide +kernel
theorem d_L_go_2 : decode c_L_go 2 = .ok (.aload_n 0, 1) := by decide +kernel
theorem d_L_go_3 : decode c_L_go 3 = .ok (.iload_n 1, 1) := by decide +kernel
theorem d_L_go_4 : decode c_L_go 4 = .ok (.invokevirtual 23, 3) := by decide +kernel
theorem d_L_go_7 : decode c_L_go 7 = .ok (.i2l, 1) := by decide +kernel
theorem d_L_go_8 : decode c_L_go 8 = .ok (.lastore, 1) := by decide +kernel
theorem d_L_go_9 : decode c_L_go 9 = .ok (.goto 6, 3) := by decide +kernel
theorem d_L_go_12 : decode c_L_go 12 = .ok (.astore_n 3, 1) := by decide +kernel
theorem d_L_go_13 : decode c_L_go 13 = .ok (.iconst 1, 1) := by decide +kernel
theorem d_L_go_14 : decode c_L_go 14 = .ok (.ireturn, 1) := by decide +kernel
theorem d_L_go_15 : decode c_L_go 15 = .ok (.iconst 0, 1) := by decide +kernel
theorem d_L_go_16 : decode c_L_go 16 = .ok (.ireturn, 1) := by decide +kernel
theorem d_L_run_0 : decode c_L_run 0 = .ok (.aload_n 2, 1) := by decide +kernel
theorem d_L_run_1 : decode c_L_run 1 = .ok (.iconst 0, 1) := by decide +kernel
theorem d_L_run_2 : decode c_L_run 2 = .ok (.aload_n 0, 1) := by decide +kernel
theorem d_L_run_3 : decode c_L_run 3 = .ok (.iload_n 1, 1) := by decide +kernel
theorem d_L_run_4 : decode c_L_run 4 = .ok (.invokevirtual 27, 3) := by decide +kernel
theorem d_L_run_7 : decode c_L_run 7 = .ok (.i2l, 1) := by decide +kernel
theorem d_L_run_8 : decode c_L_run 8 = .ok (.lastore, 1) := by decide +kernel
theorem d_L_run_9 : decode c_L_run 9 = .ok (.goto 6, 3) := by decide +kernel
theorem d_L_run_12 : decode c_L_run 12 = .ok (.astore_n 3, 1) := by decide +kernel
theorem d_L_run_13 : decode c_L_run 13 = .ok (.iconst 1, 1) := by decide +kernel
theorem d_L_run_14 : decode c_L_run 14 = .ok (.ireturn, 1) := by decide +kernel
theorem d_L_run_15 : decode c_L_run 15 = .ok (.iconst 0, 1) := by decide +kernel
theorem d_L_run_16 : decode c_L_run 16 = .ok (.ireturn, 1) := by decide +kernel
theorem d_L_memory_0 : decode c_L_memory 0 = .ok (.aload_n 2, 1) := by decide +kernel
theorem d_L_memory_1 : decode c_L_memory 1 = .ok (.iconst 0, 1) := by decide +kernel
theorem d_L_memory_2 : decode c_L_memory 2 = .ok (.aload_n 0, 1) := by decide +kernel
theorem d_L_memory_3 : decode c_L_memory 3 = .ok (.iload_n 1, 1) := by decide +kernel
theorem d_L_memory_4 : decode c_L_memory 4 = .ok (.invokevirtual 30, 3) := by decide +kernel
theorem d_L_memory_7 : decode c_L_memory 7 = .ok (.i2l, 1) := by decide +kernel
theorem d_L_memory_8 : decode c_L_memory 8 = .ok (.lastore, 1) := by decide +kernel
theorem d_L_memory_9 : decode c_L_memory 9 = .ok (.goto 6, 3) := by decide +kernel
theorem d_L_memory_12 : decode c_L_memory 12 = .ok (.astore_n 3, 1) := by decide +kernel
theorem d_L_memory_13 : decode c_L_memory 13 = .ok (.iconst 1, 1) := by decide +kernel
theorem d_L_memory_14 : decode c_L_memory 14 = .ok (.ireturn, 1) := by decide +kernel
theorem d_L_memory_15 : decode c_L_memory 15 = .ok (.iconst 0, 1) := by decide +kernel
theorem d_L_memory_16 : decode c_L_memory 16 = .ok (.ireturn, 1) := by decide +kernel
theorem d_L_register_0 : decode c_L_register 0 = .ok (.aload_n 2, 1) := by decide +kernel
theorem d_L_register_1 : decode c_L_register 1 = .ok (.iconst 0, 1) := by decide +kernel
theorem d_L_register_2 : decode c_L_register 2 = .ok (.aload_n 0, 1) := by decide +kernel
theorem d_L_register_3 : decode c_L_register 3 = .ok (.iload_n 1, 1) := by decide +kernel
theorem d_L_register_4 : decode c_L_register 4 = .ok (.invokevirtual 33, 3) := by decide +kernel
theorem d_L_register_7 : decode c_L_register 7 = .ok (.i2l, 1) := by decide +kernel
theorem d_L_register_8 : decode c_L_register 8 = .ok (.lastore, 1) := by decide +kernel
theorem d_L_register_9 : decode c_L_register 9 = .ok (.goto 6, 3) := by decide +kernel
theorem d_L_register_12 : decode c_L_register 12 = .ok (.astore_n 3, 1) := by decide +kernel
theorem d_L_register_13 : decode c_L_register 13 = .ok (.iconst 1, 1) := by decide +kernel
theorem d_L_register_14 : decode c_L_register 14 = .ok (.ireturn, 1) := by decide +kernel
theorem d_L_register_15 : decode c_L_register 15 = .ok (.iconst 0, 1) := by decide +kernel
theorem d_L_register_16 : decode c_L_register 16 = .ok (.ireturn, 1) := by decide +kernel
theorem d_L_row_0 : decode c_L_row 0 = .ok (.aload_n 3, 1) := by decide +kernel
theorem d_L_row_1 : decode c_L_row 1 = .ok (.iconst 0, 1) := by decide +kernel
theorem d_L_row_2 : decode c_L_row 2 = .ok (.aload_n 0, 1) := by decide +kernel
theorem d_L_row_3 : decode c_L_row 3 = .ok (.iload_n 1, 1) := by decide +kernel
theorem d_L_row_4 : decode c_L_row 4 = .ok (.iload_n 2, 1) := by decide +kernel
theorem d_L_row_5 : decode c_L_row 5 = .ok (.invokevirtual 36, 3) := by decide +kernel
theorem d_L_row_8 : decode c_L_row 8 = .ok (.i2l, 1) := by decide +kernel
theorem d_L_row_9 : decode c_L_row 9 = .ok (.lastore, 1) := by decide +kernel
theorem d_L_row_10 : decode c_L_row 10 = .ok (.goto 7, 3) := by decide +kernel
theorem d_L_row_13 : decode c_L_row 13 = .ok (.astore 4, 2) := by decide +kernel
theorem d_L_row_15 : decode c_L_row 15 = .ok (.iconst 1, 1) := by decide +kernel
theorem d_L_row_16 : decode c_L_row 16 = .ok (.ireturn, 1) := by decide +kernel
theorem d_L_row_17 : decode c_L_row 17 = .ok (.iconst 0, 1) := by decide +kernel
theorem d_L_row_18 : decode c_L_row 18 = .ok (.ireturn, 1) := by decide +kernel
theorem d_L_law_0 : decode c_L_law 0 = .ok (.new 8, 3) := by decide +kernel
theorem d_L_law_3 : decode c_L_law 3 = .ok (.dup, 1) := by decide +kernel
theorem d_L_law_4 : decode c_L_law 4 = .ok (.invokespecial 39, 3) := by decide +kernel
theorem d_L_law_7 : decode c_L_law 7 = .ok (.astore_n 1, 1) := by decide +kernel
theorem d_L_law_8 : decode c_L_law 8 = .ok (.new 40, 3) := by decide +kernel
theorem d_L_law_11 : decode c_L_law 11 = .ok (.dup, 1) := by decide +kernel
theorem d_L_law_12 : decode c_L_law 12 = .ok (.invokespecial 42, 3) := by decide +kernel
theorem d_L_law_15 : decode c_L_law 15 = .ok (.astore_n 2, 1) := by decide +kernel
theorem d_L_law_16 : decode c_L_law 16 = .ok (.iconst 1, 1) := by decide +kernel
theorem d_L_law_17 : decode c_L_law 17 = .ok (.newarray .long, 2) := by decide +kernel
theorem d_L_law_19 : decode c_L_law 19 = .ok (.astore_n 3, 1) := by decide +kernel
theorem d_L_law_20 : decode c_L_law 20 = .ok (.iconst 0, 1) := by decide +kernel
theorem d_L_law_21 : decode c_L_law 21 = .ok (.istore 4, 2) := by decide +kernel
theorem d_L_law_23 : decode c_L_law 23 = .ok (.iload 4, 2) := by decide +kernel
theorem d_L_law_25 : decode c_L_law 25 = .ok (.aload_n 0, 1) := by decide +kernel
theorem d_L_law_26 : decode c_L_law 26 = .ok (.arraylength, 1) := by decide +kernel
theorem d_L_law_27 : decode c_L_law 27 = .ok (.iconst 3, 1) := by decide +kernel
theorem d_L_law_28 : decode c_L_law 28 = .ok (.isub, 1) := by decide +kernel
theorem d_L_law_29 : decode c_L_law 29 = .ok (.if_icmp .gt 603, 3) := by decide +kernel
theorem d_L_law_32 : decode c_L_law 32 = .ok (.aload_n 0, 1) := by decide +kernel
theorem d_L_law_33 : decode c_L_law 33 = .ok (.iload 4, 2) := by decide +kernel
theorem d_L_law_35 : decode c_L_law 35 = .ok (.iaload, 1) := by decide +kernel
theorem d_L_law_36 : decode c_L_law 36 = .ok (.bipush 15, 2) := by decide +kernel
theorem d_L_law_38 : decode c_L_law 38 = .ok (.iand, 1) := by decide +kernel
theorem d_L_law_39 : decode c_L_law 39 = .ok (.tableswitch 587 0 9 #[53, 121, 189, 257, 313, 369, 425, 481, 549, 562], 53) := by decide +kernel
theorem d_L_law_92 : decode c_L_law 92 = .ok (.aload_n 1, 1) := by decide +kernel
theorem d_L_law_93 : decode c_L_law 93 = .ok (.aload_n 0, 1) := by decide +kernel
theorem d_L_law_94 : decode c_L_law 94 = .ok (.iload 4, 2) := by decide +kernel
theorem d_L_law_96 : decode c_L_law 96 = .ok (.iconst 1, 1) := by decide +kernel
theorem d_L_law_97 : decode c_L_law 97 = .ok (.iadd, 1) := by decide +kernel
theorem d_L_law_98 : decode c_L_law 98 = .ok (.iaload, 1) := by decide +kernel
theorem d_L_law_99 : decode c_L_law 99 = .ok (.aload_n 0, 1) := by decide +kernel
theorem d_L_law_100 : decode c_L_law 100 = .ok (.iload 4, 2) := by decide +kernel
theorem d_L_law_102 : decode c_L_law 102 = .ok (.iconst 2, 1) := by decide +kernel
theorem d_L_law_103 : decode c_L_law 103 = .ok (.iadd, 1) := by decide +kernel
theorem d_L_law_104 : decode c_L_law 104 = .ok (.iaload, 1) := by decide +kernel
theorem d_L_law_105 : decode c_L_law 105 = .ok (.aload_n 3, 1) := by decide +kernel
theorem d_L_law_106 : decode c_L_law 106 = .ok (.invokestatic 43, 3) := by decide +kernel
theorem d_L_law_109 : decode c_L_law 109 = .ok (.istore 5, 2) := by decide +kernel
theorem d_L_law_111 : decode c_L_law 111 = .ok (.aload_n 2, 1) := by decide +kernel
theorem d_L_law_112 : decode c_L_law 112 = .ok (.aload_n 0, 1) := by decide +kernel
theorem d_L_law_113 : decode c_L_law 113 = .ok (.iload 4, 2) := by decide +kernel
theorem d_L_law_115 : decode c_L_law 115 = .ok (.iconst 1, 1) := by decide +kernel
theorem d_L_law_116 : decode c_L_law 116 = .ok (.iadd, 1) := by decide +kernel
theorem d_L_law_117 : decode c_L_law 117 = .ok (.iaload, 1) := by decide +kernel
theorem d_L_law_118 : decode c_L_law 118 = .ok (.aload_n 0, 1) := by decide +kernel
theorem d_L_law_119 : decode c_L_law 119 = .ok (.iload 4, 2) := by decide +kernel
theorem d_L_law_121 : decode c_L_law 121 = .ok (.iconst 2, 1) := by decide +kernel
theorem d_L_law_122 : decode c_L_law 122 = .ok (.iadd, 1) := by decide +kernel
theorem d_L_law_123 : decode c_L_law 123 = .ok (.iaload, 1) := by decide +kernel
theorem d_L_law_124 : decode c_L_law 124 = .ok (.invokevirtual 48, 3) := by decide +kernel
theorem d_L_law_127 : decode c_L_law 127 = .ok (.istore 6, 2) := by decide +kernel
theorem d_L_law_129 : decode c_L_law 129 = .ok (.aload_n 2, 1) := by decide +kernel
theorem d_L_law_130 : decode c_L_law 130 = .ok (.invokevirtual 49, 3) := by decide +kernel
theorem d_L_law_133 : decode c_L_law 133 = .ok (.iload 5, 2) := by decide +kernel
theorem d_L_law_135 : decode c_L_law 135 = .ok (.if_icmp .eq 5, 3) := by decide +kernel
theorem d_L_law_138 : decode c_L_law 138 = .ok (.iconst 0, 1) := by decide +kernel
theorem d_L_law_139 : decode c_L_law 139 = .ok (.ireturn, 1) := by decide +kernel
theorem d_L_law_140 : decode c_L_law 140 = .ok (.iload 5, 2) := by decide +kernel
theorem d_L_law_142 : decode c_L_law 142 = .ok (.ifCond .ne 15, 3) := by decide +kernel
theorem d_L_law_145 : decode c_L_law 145 = .ok (.aload_n 3, 1) := by decide +kernel
theorem d_L_law_146 : decode c_L_law 146 = .ok (.iconst 0, 1) := by decide +kernel
theorem d_L_law_147 : decode c_L_law 147 = .ok (.laload, 1) := by decide +kernel
theorem d_L_law_148 : decode c_L_law 148 = .ok (.iload 6, 2) := by decide +kernel
theorem d_L_law_150 : decode c_L_law 150 = .ok (.i2l, 1) := by decide +kernel
theorem d_L_law_151 : decode c_L_law 151 = .ok (.lcmp, 1) := by decide +kernel
theorem d_L_law_152 : decode c_L_law 152 = .ok (.ifCond .eq 5, 3) := by decide +kernel
theorem d_L_law_155 : decode c_L_law 155 = .ok (.iconst 0, 1) := by decide +kernel
theorem d_L_law_156 : decode c_L_law 156 = .ok (.ireturn, 1) := by decide +kernel
theorem d_L_law_157 : decode c_L_law 157 = .ok (.goto 469, 3) := by decide +kernel
theorem d_L_law_160 : decode c_L_law 160 = .ok (.aload_n 1, 1) := by decide +kernel
theorem d_L_law_161 : decode c_L_law 161 = .ok (.aload_n 0, 1) := by decide +kernel
theorem d_L_law_162 : decode c_L_law 162 = .ok (.iload 4, 2) := by decide +kernel
theorem d_L_law_164 : decode c_L_law 164 = .ok (.iconst 1, 1) := by decide +kernel
theorem d_L_law_165 : decode c_L_law 165 = .ok (.iadd, 1) := by decide +kernel
theorem d_L_law_166 : decode c_L_law 166 = .ok (.iaload, 1) := by decide +kernel
theorem d_L_law_167 : decode c_L_law 167 = .ok (.aload_n 0, 1) := by decide +kernel
theorem d_L_law_168 : decode c_L_law 168 = .ok (.iload 4, 2) := by decide +kernel
theorem d_L_law_170 : decode c_L_law 170 = .ok (.iconst 2, 1) := by decide +kernel
theorem d_L_law_171 : decode c_L_law 171 = .ok (.iadd, 1) := by decide +kernel
theorem d_L_law_172 : decode c_L_law 172 = .ok (.iaload, 1) := by decide +kernel
theorem d_L_law_173 : decode c_L_law 173 = .ok (.aload_n 3, 1) := by decide +kernel
theorem d_L_law_174 : decode c_L_law 174 = .ok (.invokestatic 53, 3) := by decide +kernel
theorem d_L_law_177 : decode c_L_law 177 = .ok (.istore 5, 2) := by decide +kernel
theorem d_L_law_179 : decode c_L_law 179 = .ok (.aload_n 2, 1) := by decide +kernel
theorem d_L_law_180 : decode c_L_law 180 = .ok (.aload_n 0, 1) := by decide +kernel
theorem d_L_law_181 : decode c_L_law 181 = .ok (.iload 4, 2) := by decide +kernel
theorem d_L_law_183 : decode c_L_law 183 = .ok (.iconst 1, 1) := by decide +kernel
theorem d_L_law_184 : decode c_L_law 184 = .ok (.iadd, 1) := by decide +kernel
theorem d_L_law_185 : decode c_L_law 185 = .ok (.iaload, 1) := by decide +kernel
theorem d_L_law_186 : decode c_L_law 186 = .ok (.aload_n 0, 1) := by decide +kernel
theorem d_L_law_187 : decode c_L_law 187 = .ok (.iload 4, 2) := by decide +kernel
theorem d_L_law_189 : decode c_L_law 189 = .ok (.iconst 2, 1) := by decide +kernel
theorem d_L_law_190 : decode c_L_law 190 = .ok (.iadd, 1) := by decide +kernel
theorem d_L_law_191 : decode c_L_law 191 = .ok (.iaload, 1) := by decide +kernel
theorem d_L_law_192 : decode c_L_law 192 = .ok (.invokevirtual 55, 3) := by decide +kernel
theorem d_L_law_195 : decode c_L_law 195 = .ok (.istore 6, 2) := by decide +kernel
theorem d_L_law_197 : decode c_L_law 197 = .ok (.aload_n 2, 1) := by decide +kernel
theorem d_L_law_198 : decode c_L_law 198 = .ok (.invokevirtual 49, 3) := by decide +kernel
theorem d_L_law_201 : decode c_L_law 201 = .ok (.iload 5, 2) := by decide +kernel
theorem d_L_law_203 : decode c_L_law 203 = .ok (.if_icmp .eq 5, 3) := by decide +kernel
theorem d_L_law_206 : decode c_L_law 206 = .ok (.iconst 0, 1) := by decide +kernel
theorem d_L_law_207 : decode c_L_law 207 = .ok (.ireturn, 1) := by decide +kernel
theorem d_L_law_208 : decode c_L_law 208 = .ok (.iload 5, 2) := by decide +kernel
theorem d_L_law_210 : decode c_L_law 210 = .ok (.ifCond .ne 15, 3) := by decide +kernel
theorem d_L_law_213 : decode c_L_law 213 = .ok (.aload_n 3, 1) := by decide +kernel
theorem d_L_law_214 : decode c_L_law 214 = .ok (.iconst 0, 1) := by decide +kernel
theorem d_L_law_215 : decode c_L_law 215 = .ok (.laload, 1) := by decide +kernel
theorem d_L_law_216 : decode c_L_law 216 = .ok (.iload 6, 2) := by decide +kernel
theorem d_L_law_218 : decode c_L_law 218 = .ok (.i2l, 1) := by decide +kernel
theorem d_L_law_219 : decode c_L_law 219 = .ok (.lcmp, 1) := by decide +kernel
theorem d_L_law_220 : decode c_L_law 220 = .ok (.ifCond .eq 5, 3) := by decide +kernel
theorem d_L_law_223 : decode c_L_law 223 = .ok (.iconst 0, 1) := by decide +kernel
theorem d_L_law_224 : decode c_L_law 224 = .ok (.ireturn, 1) := by decide +kernel
theorem d_L_law_225 : decode c_L_law 225 = .ok (.goto 401, 3) := by decide +kernel
theorem d_L_law_228 : decode c_L_law 228 = .ok (.aload_n 1, 1) := by decide +kernel
theorem d_L_law_229 : decode c_L_law 229 = .ok (.aload_n 0, 1) := by decide +kernel
theorem d_L_law_230 : decode c_L_law 230 = .ok (.iload 4, 2) := by decide +kernel
theorem d_L_law_232 : decode c_L_law 232 = .ok (.iconst 1, 1) := by decide +kernel
theorem d_L_law_233 : decode c_L_law 233 = .ok (.iadd, 1) := by decide +kernel
theorem d_L_law_234 : decode c_L_law 234 = .ok (.iaload, 1) := by decide +kernel
theorem d_L_law_235 : decode c_L_law 235 = .ok (.aload_n 0, 1) := by decide +kernel
theorem d_L_law_236 : decode c_L_law 236 = .ok (.iload 4, 2) := by decide +kernel
theorem d_L_law_238 : decode c_L_law 238 = .ok (.iconst 2, 1) := by decide +kernel
theorem d_L_law_239 : decode c_L_law 239 = .ok (.iadd, 1) := by decide +kernel
theorem d_L_law_240 : decode c_L_law 240 = .ok (.iaload, 1) := by decide +kernel
theorem d_L_law_241 : decode c_L_law 241 = .ok (.aload_n 3, 1) := by decide +kernel
theorem d_L_law_242 : decode c_L_law 242 = .ok (.invokestatic 56, 3) := by decide +kernel
theorem d_L_law_245 : decode c_L_law 245 = .ok (.istore 5, 2) := by decide +kernel
theorem d_L_law_247 : decode c_L_law 247 = .ok (.aload_n 2, 1) := by decide +kernel
theorem d_L_law_248 : decode c_L_law 248 = .ok (.aload_n 0, 1) := by decide +kernel
theorem d_L_law_249 : decode c_L_law 249 = .ok (.iload 4, 2) := by decide +kernel
theorem d_L_law_251 : decode c_L_law 251 = .ok (.iconst 1, 1) := by decide +kernel
theorem d_L_law_252 : decode c_L_law 252 = .ok (.iadd, 1) := by decide +kernel
theorem d_L_law_253 : decode c_L_law 253 = .ok (.iaload, 1) := by decide +kernel
theorem d_L_law_254 : decode c_L_law 254 = .ok (.aload_n 0, 1) := by decide +kernel
theorem d_L_law_255 : decode c_L_law 255 = .ok (.iload 4, 2) := by decide +kernel
theorem d_L_law_257 : decode c_L_law 257 = .ok (.iconst 2, 1) := by decide +kernel
theorem d_L_law_258 : decode c_L_law 258 = .ok (.iadd, 1) := by decide +kernel
theorem d_L_law_259 : decode c_L_law 259 = .ok (.iaload, 1) := by decide +kernel
theorem d_L_law_260 : decode c_L_law 260 = .ok (.invokevirtual 58, 3) := by decide +kernel
theorem d_L_law_263 : decode c_L_law 263 = .ok (.istore 6, 2) := by decide +kernel
theorem d_L_law_265 : decode c_L_law 265 = .ok (.aload_n 2, 1) := by decide +kernel
theorem d_L_law_266 : decode c_L_law 266 = .ok (.invokevirtual 49, 3) := by decide +kernel
theorem d_L_law_269 : decode c_L_law 269 = .ok (.iload 5, 2) := by decide +kernel
theorem d_L_law_271 : decode c_L_law 271 = .ok (.if_icmp .eq 5, 3) := by decide +kernel
theorem d_L_law_274 : decode c_L_law 274 = .ok (.iconst 0, 1) := by decide +kernel
theorem d_L_law_275 : decode c_L_law 275 = .ok (.ireturn, 1) := by decide +kernel
theorem d_L_law_276 : decode c_L_law 276 = .ok (.iload 5, 2) := by decide +kernel
