theorem d_X_decode_127 : decode c_X_decode 127 = .ok (.iadd, 1) := by decide +kernel
theorem d_X_decode_128 : decode c_X_decode 128 = .ok (.putfield 113, 3) := by decide +kernel
theorem d_X_decode_131 : decode c_X_decode 131 = .ok (.return_, 1) := by decide +kernel
theorem d_X_wordAt_0 : decode c_X_wordAt 0 = .ok (.iload_n 1, 1) := by decide +kernel
theorem d_X_wordAt_1 : decode c_X_wordAt 1 = .ok (.invokestatic 33, 3) := by decide +kernel
theorem d_X_wordAt_4 : decode c_X_wordAt 4 = .ok (.ifCond .ne 6, 3) := by decide +kernel
theorem d_X_wordAt_7 : decode c_X_wordAt 7 = .ok (.ldc 152, 2) := by decide +kernel
theorem d_X_wordAt_9 : decode c_X_wordAt 9 = .ok (.ireturn, 1) := by decide +kernel
theorem d_X_wordAt_10 : decode c_X_wordAt 10 = .ok (.aload_n 0, 1) := by decide +kernel
theorem d_X_wordAt_11 : decode c_X_wordAt 11 = .ok (.getfield 9, 3) := by decide +kernel
theorem d_X_wordAt_14 : decode c_X_wordAt 14 = .ok (.iload_n 1, 1) := by decide +kernel
theorem d_X_wordAt_15 : decode c_X_wordAt 15 = .ok (.iaload, 1) := by decide +kernel
theorem d_X_wordAt_16 : decode c_X_wordAt 16 = .ok (.bipush 8, 2) := by decide +kernel
theorem d_X_wordAt_18 : decode c_X_wordAt 18 = .ok (.ishl, 1) := by decide +kernel
theorem d_X_wordAt_19 : decode c_X_wordAt 19 = .ok (.istore_n 2, 1) := by decide +kernel
theorem d_X_wordAt_20 : decode c_X_wordAt 20 = .ok (.iload_n 2, 1) := by decide +kernel
theorem d_X_wordAt_21 : decode c_X_wordAt 21 = .ok (.bipush 12, 2) := by decide +kernel
theorem d_X_wordAt_23 : decode c_X_wordAt 23 = .ok (.ishr, 1) := by decide +kernel
theorem d_X_wordAt_24 : decode c_X_wordAt 24 = .ok (.invokestatic 146, 3) := by decide +kernel
theorem d_X_wordAt_27 : decode c_X_wordAt 27 = .ok (.iconst 1, 1) := by decide +kernel
theorem d_X_wordAt_28 : decode c_X_wordAt 28 = .ok (.if_icmp .ne 5, 3) := by decide +kernel
theorem d_X_wordAt_31 : decode c_X_wordAt 31 = .ok (.iload_n 2, 1) := by decide +kernel
theorem d_X_wordAt_32 : decode c_X_wordAt 32 = .ok (.ireturn, 1) := by decide +kernel
theorem d_X_wordAt_33 : decode c_X_wordAt 33 = .ok (.iload_n 1, 1) := by decide +kernel
theorem d_X_wordAt_34 : decode c_X_wordAt 34 = .ok (.iconst 1, 1) := by decide +kernel
theorem d_X_wordAt_35 : decode c_X_wordAt 35 = .ok (.iadd, 1) := by decide +kernel
theorem d_X_wordAt_36 : decode c_X_wordAt 36 = .ok (.invokestatic 33, 3) := by decide +kernel
theorem d_X_wordAt_39 : decode c_X_wordAt 39 = .ok (.ifCond .ne 6, 3) := by decide +kernel
theorem d_X_wordAt_42 : decode c_X_wordAt 42 = .ok (.ldc 152, 2) := by decide +kernel
theorem d_X_wordAt_44 : decode c_X_wordAt 44 = .ok (.ireturn, 1) := by decide +kernel
theorem d_X_wordAt_45 : decode c_X_wordAt 45 = .ok (.iload_n 2, 1) := by decide +kernel
theorem d_X_wordAt_46 : decode c_X_wordAt 46 = .ok (.aload_n 0, 1) := by decide +kernel
theorem d_X_wordAt_47 : decode c_X_wordAt 47 = .ok (.getfield 9, 3) := by decide +kernel
theorem d_X_wordAt_50 : decode c_X_wordAt 50 = .ok (.iload_n 1, 1) := by decide +kernel
theorem d_X_wordAt_51 : decode c_X_wordAt 51 = .ok (.iconst 1, 1) := by decide +kernel
theorem d_X_wordAt_52 : decode c_X_wordAt 52 = .ok (.iadd, 1) := by decide +kernel
theorem d_X_wordAt_53 : decode c_X_wordAt 53 = .ok (.iaload, 1) := by decide +kernel
theorem d_X_wordAt_54 : decode c_X_wordAt 54 = .ok (.ior, 1) := by decide +kernel
theorem d_X_wordAt_55 : decode c_X_wordAt 55 = .ok (.ireturn, 1) := by decide +kernel
theorem d_X_bytesOfOutside_0 : decode c_X_bytesOfOutside 0 = .ok (.iload_n 0, 1) := by decide +kernel
theorem d_X_bytesOfOutside_1 : decode c_X_bytesOfOutside 1 = .ok (.invokestatic 33, 3) := by decide +kernel
theorem d_X_bytesOfOutside_4 : decode c_X_bytesOfOutside 4 = .ok (.ifCond .eq 7, 3) := by decide +kernel
theorem d_X_bytesOfOutside_7 : decode c_X_bytesOfOutside 7 = .ok (.iconst 1, 1) := by decide +kernel
theorem d_X_bytesOfOutside_8 : decode c_X_bytesOfOutside 8 = .ok (.goto 4, 3) := by decide +kernel
theorem d_X_bytesOfOutside_11 : decode c_X_bytesOfOutside 11 = .ok (.iconst 0, 1) := by decide +kernel
theorem d_X_bytesOfOutside_12 : decode c_X_bytesOfOutside 12 = .ok (.ireturn, 1) := by decide +kernel
theorem d_X_lengthOf_0 : decode c_X_lengthOf 0 = .ok (.iload_n 0, 1) := by decide +kernel
theorem d_X_lengthOf_1 : decode c_X_lengthOf 1 = .ok (.ifCond .eq 15, 3) := by decide +kernel
theorem d_X_lengthOf_4 : decode c_X_lengthOf 4 = .ok (.iload_n 0, 1) := by decide +kernel
theorem d_X_lengthOf_5 : decode c_X_lengthOf 5 = .ok (.bipush 10, 2) := by decide +kernel
theorem d_X_lengthOf_7 : decode c_X_lengthOf 7 = .ok (.if_icmp .eq 9, 3) := by decide +kernel
theorem d_X_lengthOf_10 : decode c_X_lengthOf 10 = .ok (.iload_n 0, 1) := by decide +kernel
theorem d_X_lengthOf_11 : decode c_X_lengthOf 11 = .ok (.bipush 12, 2) := by decide +kernel
theorem d_X_lengthOf_13 : decode c_X_lengthOf 13 = .ok (.if_icmp .lt 7, 3) := by decide +kernel
theorem d_X_lengthOf_16 : decode c_X_lengthOf 16 = .ok (.iconst 1, 1) := by decide +kernel
theorem d_X_lengthOf_17 : decode c_X_lengthOf 17 = .ok (.goto 4, 3) := by decide +kernel
theorem d_X_lengthOf_20 : decode c_X_lengthOf 20 = .ok (.iconst 2, 1) := by decide +kernel
theorem d_X_lengthOf_21 : decode c_X_lengthOf 21 = .ok (.ireturn, 1) := by decide +kernel
theorem d_X_endsBlock_0 : decode c_X_endsBlock 0 = .ok (.iload_n 0, 1) := by decide +kernel
theorem d_X_endsBlock_1 : decode c_X_endsBlock 1 = .ok (.ifCond .eq 15, 3) := by decide +kernel
theorem d_X_endsBlock_4 : decode c_X_endsBlock 4 = .ok (.iload_n 0, 1) := by decide +kernel
theorem d_X_endsBlock_5 : decode c_X_endsBlock 5 = .ok (.bipush 7, 2) := by decide +kernel
theorem d_X_endsBlock_7 : decode c_X_endsBlock 7 = .ok (.if_icmp .eq 9, 3) := by decide +kernel
theorem d_X_endsBlock_10 : decode c_X_endsBlock 10 = .ok (.iload_n 0, 1) := by decide +kernel
theorem d_X_endsBlock_11 : decode c_X_endsBlock 11 = .ok (.bipush 12, 2) := by decide +kernel
theorem d_X_endsBlock_13 : decode c_X_endsBlock 13 = .ok (.if_icmp .lt 7, 3) := by decide +kernel
theorem d_X_endsBlock_16 : decode c_X_endsBlock 16 = .ok (.iconst 1, 1) := by decide +kernel
theorem d_X_endsBlock_17 : decode c_X_endsBlock 17 = .ok (.goto 4, 3) := by decide +kernel
theorem d_X_endsBlock_20 : decode c_X_endsBlock 20 = .ok (.iconst 0, 1) := by decide +kernel
theorem d_X_endsBlock_21 : decode c_X_endsBlock 21 = .ok (.ireturn, 1) := by decide +kernel
theorem d_X_doWord_0 : decode c_X_doWord 0 = .ok (.iload_n 1, 1) := by decide +kernel
theorem d_X_doWord_1 : decode c_X_doWord 1 = .ok (.bipush 12, 2) := by decide +kernel
theorem d_X_doWord_3 : decode c_X_doWord 3 = .ok (.ishr, 1) := by decide +kernel
theorem d_X_doWord_4 : decode c_X_doWord 4 = .ok (.istore_n 2, 1) := by decide +kernel
theorem d_X_doWord_5 : decode c_X_doWord 5 = .ok (.iload_n 1, 1) := by decide +kernel
theorem d_X_doWord_6 : decode c_X_doWord 6 = .ok (.bipush 8, 2) := by decide +kernel
theorem d_X_doWord_8 : decode c_X_doWord 8 = .ok (.ishr, 1) := by decide +kernel
theorem d_X_doWord_9 : decode c_X_doWord 9 = .ok (.bipush 15, 2) := by decide +kernel
theorem d_X_doWord_11 : decode c_X_doWord 11 = .ok (.iand, 1) := by decide +kernel
theorem d_X_doWord_12 : decode c_X_doWord 12 = .ok (.istore_n 3, 1) := by decide +kernel
theorem d_X_doWord_13 : decode c_X_doWord 13 = .ok (.iload_n 1, 1) := by decide +kernel
theorem d_X_doWord_14 : decode c_X_doWord 14 = .ok (.sipush 255, 3) := by decide +kernel
theorem d_X_doWord_17 : decode c_X_doWord 17 = .ok (.iand, 1) := by decide +kernel
theorem d_X_doWord_18 : decode c_X_doWord 18 = .ok (.istore 4, 2) := by decide +kernel
theorem d_X_doWord_20 : decode c_X_doWord 20 = .ok (.aload_n 0, 1) := by decide +kernel
theorem d_X_doWord_21 : decode c_X_doWord 21 = .ok (.aload_n 0, 1) := by decide +kernel
theorem d_X_doWord_22 : decode c_X_doWord 22 = .ok (.iload_n 2, 1) := by decide +kernel
theorem d_X_doWord_23 : decode c_X_doWord 23 = .ok (.iload 4, 2) := by decide +kernel
theorem d_X_doWord_25 : decode c_X_doWord 25 = .ok (.bipush 7, 2) := by decide +kernel
theorem d_X_doWord_27 : decode c_X_doWord 27 = .ok (.iand, 1) := by decide +kernel
theorem d_X_doWord_28 : decode c_X_doWord 28 = .ok (.invokevirtual 153, 3) := by decide +kernel
theorem d_X_doWord_31 : decode c_X_doWord 31 = .ok (.putfield 26, 3) := by decide +kernel
theorem d_X_doWord_34 : decode c_X_doWord 34 = .ok (.aload_n 0, 1) := by decide +kernel
theorem d_X_doWord_35 : decode c_X_doWord 35 = .ok (.getfield 26, 3) := by decide +kernel
theorem d_X_doWord_38 : decode c_X_doWord 38 = .ok (.ifCond .eq 5, 3) := by decide +kernel
theorem d_X_doWord_41 : decode c_X_doWord 41 = .ok (.iconst 0, 1) := by decide +kernel
theorem d_X_doWord_42 : decode c_X_doWord 42 = .ok (.ireturn, 1) := by decide +kernel
theorem d_X_doWord_43 : decode c_X_doWord 43 = .ok (.aload_n 0, 1) := by decide +kernel
theorem d_X_doWord_44 : decode c_X_doWord 44 = .ok (.dup, 1) := by decide +kernel
theorem d_X_doWord_45 : decode c_X_doWord 45 = .ok (.getfield 22, 3) := by decide +kernel
theorem d_X_doWord_48 : decode c_X_doWord 48 = .ok (.iload_n 2, 1) := by decide +kernel
theorem d_X_doWord_49 : decode c_X_doWord 49 = .ok (.invokestatic 146, 3) := by decide +kernel
theorem d_X_doWord_52 : decode c_X_doWord 52 = .ok (.iadd, 1) := by decide +kernel
theorem d_X_doWord_53 : decode c_X_doWord 53 = .ok (.putfield 22, 3) := by decide +kernel
theorem d_X_doWord_56 : decode c_X_doWord 56 = .ok (.aload_n 0, 1) := by decide +kernel
theorem d_X_doWord_57 : decode c_X_doWord 57 = .ok (.iload_n 2, 1) := by decide +kernel
theorem d_X_doWord_58 : decode c_X_doWord 58 = .ok (.iload_n 3, 1) := by decide +kernel
theorem d_X_doWord_59 : decode c_X_doWord 59 = .ok (.iload 4, 2) := by decide +kernel
theorem d_X_doWord_61 : decode c_X_doWord 61 = .ok (.invokevirtual 156, 3) := by decide +kernel
theorem d_X_doWord_64 : decode c_X_doWord 64 = .ok (.aload_n 0, 1) := by decide +kernel
theorem d_X_doWord_65 : decode c_X_doWord 65 = .ok (.dup, 1) := by decide +kernel
theorem d_X_doWord_66 : decode c_X_doWord 66 = .ok (.getfield 94, 3) := by decide +kernel
theorem d_X_doWord_69 : decode c_X_doWord 69 = .ok (.iconst 1, 1) := by decide +kernel
theorem d_X_doWord_70 : decode c_X_doWord 70 = .ok (.iadd, 1) := by decide +kernel
theorem d_X_doWord_71 : decode c_X_doWord 71 = .ok (.putfield 94, 3) := by decide +kernel
theorem d_X_doWord_74 : decode c_X_doWord 74 = .ok (.iconst 1, 1) := by decide +kernel
theorem d_X_doWord_75 : decode c_X_doWord 75 = .ok (.ireturn, 1) := by decide +kernel
theorem d_X_stateBefore_0 : decode c_X_stateBefore 0 = .ok (.iload_n 1, 1) := by decide +kernel
theorem d_X_stateBefore_1 : decode c_X_stateBefore 1 = .ok (.ifCond .ne 5, 3) := by decide +kernel
theorem d_X_stateBefore_4 : decode c_X_stateBefore 4 = .ok (.iconst 1, 1) := by decide +kernel
theorem d_X_stateBefore_5 : decode c_X_stateBefore 5 = .ok (.ireturn, 1) := by decide +kernel
theorem d_X_stateBefore_6 : decode c_X_stateBefore 6 = .ok (.iload_n 1, 1) := by decide +kernel
theorem d_X_stateBefore_7 : decode c_X_stateBefore 7 = .ok (.bipush 16, 2) := by decide +kernel
theorem d_X_stateBefore_9 : decode c_X_stateBefore 9 = .ok (.if_icmp .ne 5, 3) := by decide +kernel
theorem d_X_stateBefore_12 : decode c_X_stateBefore 12 = .ok (.iconst 4, 1) := by decide +kernel
theorem d_X_stateBefore_13 : decode c_X_stateBefore 13 = .ok (.ireturn, 1) := by decide +kernel
theorem d_X_stateBefore_14 : decode c_X_stateBefore 14 = .ok (.iload_n 1, 1) := by decide +kernel
theorem d_X_stateBefore_15 : decode c_X_stateBefore 15 = .ok (.bipush 12, 2) := by decide +kernel
theorem d_X_stateBefore_17 : decode c_X_stateBefore 17 = .ok (.if_icmp .lt 5, 3) := by decide +kernel
theorem d_X_stateBefore_20 : decode c_X_stateBefore 20 = .ok (.iconst 3, 1) := by decide +kernel
theorem d_X_stateBefore_21 : decode c_X_stateBefore 21 = .ok (.ireturn, 1) := by decide +kernel
theorem d_X_stateBefore_22 : decode c_X_stateBefore 22 = .ok (.iload_n 1, 1) := by decide +kernel
theorem d_X_stateBefore_23 : decode c_X_stateBefore 23 = .ok (.iconst 4, 1) := by decide +kernel
theorem d_X_stateBefore_24 : decode c_X_stateBefore 24 = .ok (.if_icmp .eq 8, 3) := by decide +kernel
theorem d_X_stateBefore_27 : decode c_X_stateBefore 27 = .ok (.iload_n 1, 1) := by decide +kernel
theorem d_X_stateBefore_28 : decode c_X_stateBefore 28 = .ok (.iconst 5, 1) := by decide +kernel
theorem d_X_stateBefore_29 : decode c_X_stateBefore 29 = .ok (.if_icmp .ne 17, 3) := by decide +kernel
theorem d_X_stateBefore_32 : decode c_X_stateBefore 32 = .ok (.aload_n 0, 1) := by decide +kernel
theorem d_X_stateBefore_33 : decode c_X_stateBefore 33 = .ok (.getfield 13, 3) := by decide +kernel
theorem d_X_stateBefore_36 : decode c_X_stateBefore 36 = .ok (.iload_n 2, 1) := by decide +kernel
theorem d_X_stateBefore_37 : decode c_X_stateBefore 37 = .ok (.iaload, 1) := by decide +kernel
theorem d_X_stateBefore_38 : decode c_X_stateBefore 38 = .ok (.invokestatic 33, 3) := by decide +kernel
theorem d_X_stateBefore_41 : decode c_X_stateBefore 41 = .ok (.ifCond .ne 5, 3) := by decide +kernel
theorem d_X_stateBefore_44 : decode c_X_stateBefore 44 = .ok (.iconst 2, 1) := by decide +kernel
theorem d_X_stateBefore_45 : decode c_X_stateBefore 45 = .ok (.ireturn, 1) := by decide +kernel
theorem d_X_stateBefore_46 : decode c_X_stateBefore 46 = .ok (.iconst 0, 1) := by decide +kernel
theorem d_X_stateBefore_47 : decode c_X_stateBefore 47 = .ok (.ireturn, 1) := by decide +kernel
theorem d_X_perform_0 : decode c_X_perform 0 = .ok (.iload_n 2, 1) := by decide +kernel
theorem d_X_perform_1 : decode c_X_perform 1 = .ok (.bipush 7, 2) := by decide +kernel
theorem d_X_perform_3 : decode c_X_perform 3 = .ok (.iand, 1) := by decide +kernel
theorem d_X_perform_4 : decode c_X_perform 4 = .ok (.istore 4, 2) := by decide +kernel
theorem d_X_perform_6 : decode c_X_perform 6 = .ok (.iload_n 3, 1) := by decide +kernel
theorem d_X_perform_7 : decode c_X_perform 7 = .ok (.bipush 7, 2) := by decide +kernel
theorem d_X_perform_9 : decode c_X_perform 9 = .ok (.iand, 1) := by decide +kernel
theorem d_X_perform_10 : decode c_X_perform 10 = .ok (.istore 5, 2) := by decide +kernel
theorem d_X_perform_12 : decode c_X_perform 12 = .ok (.iload_n 1, 1) := by decide +kernel
theorem d_X_perform_13 : decode c_X_perform 13 = .ok (.tableswitch 193 1 11 #[59, 193, 193, 73, 95, 193, 130, 154, 193, 193, 171], 59) := by decide +kernel
theorem d_X_perform_72 : decode c_X_perform 72 = .ok (.aload_n 0, 1) := by decide +kernel
theorem d_X_perform_73 : decode c_X_perform 73 = .ok (.getfield 13, 3) := by decide +kernel
theorem d_X_perform_76 : decode c_X_perform 76 = .ok (.iload 4, 2) := by decide +kernel
theorem d_X_perform_78 : decode c_X_perform 78 = .ok (.iload_n 3, 1) := by decide +kernel
theorem d_X_perform_79 : decode c_X_perform 79 = .ok (.invokestatic 160, 3) := by decide +kernel
theorem d_X_perform_82 : decode c_X_perform 82 = .ok (.iastore, 1) := by decide +kernel
theorem d_X_perform_83 : decode c_X_perform 83 = .ok (.goto 156, 3) := by decide +kernel
theorem d_X_perform_86 : decode c_X_perform 86 = .ok (.aload_n 0, 1) := by decide +kernel
theorem d_X_perform_87 : decode c_X_perform 87 = .ok (.getfield 13, 3) := by decide +kernel
theorem d_X_perform_90 : decode c_X_perform 90 = .ok (.iload 4, 2) := by decide +kernel
theorem d_X_perform_92 : decode c_X_perform 92 = .ok (.aload_n 0, 1) := by decide +kernel
theorem d_X_perform_93 : decode c_X_perform 93 = .ok (.getfield 9, 3) := by decide +kernel
theorem d_X_perform_96 : decode c_X_perform 96 = .ok (.aload_n 0, 1) := by decide +kernel
theorem d_X_perform_97 : decode c_X_perform 97 = .ok (.getfield 13, 3) := by decide +kernel
theorem d_X_perform_100 : decode c_X_perform 100 = .ok (.iload 5, 2) := by decide +kernel
theorem d_X_perform_102 : decode c_X_perform 102 = .ok (.iaload, 1) := by decide +kernel
theorem d_X_perform_103 : decode c_X_perform 103 = .ok (.iaload, 1) := by decide +kernel
theorem d_X_perform_104 : decode c_X_perform 104 = .ok (.iastore, 1) := by decide +kernel
theorem d_X_perform_105 : decode c_X_perform 105 = .ok (.goto 134, 3) := by decide +kernel
theorem d_X_perform_108 : decode c_X_perform 108 = .ok (.aload_n 0, 1) := by decide +kernel
theorem d_X_perform_109 : decode c_X_perform 109 = .ok (.aload_n 0, 1) := by decide +kernel
theorem d_X_perform_110 : decode c_X_perform 110 = .ok (.getfield 13, 3) := by decide +kernel
theorem d_X_perform_113 : decode c_X_perform 113 = .ok (.iload 5, 2) := by decide +kernel
theorem d_X_perform_115 : decode c_X_perform 115 = .ok (.iaload, 1) := by decide +kernel
theorem d_X_perform_116 : decode c_X_perform 116 = .ok (.aload_n 0, 1) := by decide +kernel
theorem d_X_perform_117 : decode c_X_perform 117 = .ok (.getfield 13, 3) := by decide +kernel
theorem d_X_perform_120 : decode c_X_perform 120 = .ok (.iload 4, 2) := by decide +kernel
theorem d_X_perform_122 : decode c_X_perform 122 = .ok (.iaload, 1) := by decide +kernel
theorem d_X_perform_123 : decode c_X_perform 123 = .ok (.sipush 255, 3) := by decide +kernel
theorem d_X_perform_126 : decode c_X_perform 126 = .ok (.iand, 1) := by decide +kernel
theorem d_X_perform_127 : decode c_X_perform 127 = .ok (.invokevirtual 49, 3) := by decide +kernel
theorem d_X_perform_130 : decode c_X_perform 130 = .ok (.aload_n 0, 1) := by decide +kernel
theorem d_X_perform_131 : decode c_X_perform 131 = .ok (.dup, 1) := by decide +kernel
theorem d_X_perform_132 : decode c_X_perform 132 = .ok (.getfield 110, 3) := by decide +kernel
theorem d_X_perform_135 : decode c_X_perform 135 = .ok (.iconst 1, 1) := by decide +kernel
theorem d_X_perform_136 : decode c_X_perform 136 = .ok (.iadd, 1) := by decide +kernel
theorem d_X_perform_137 : decode c_X_perform 137 = .ok (.putfield 110, 3) := by decide +kernel
theorem d_X_perform_140 : decode c_X_perform 140 = .ok (.goto 99, 3) := by decide +kernel
theorem d_X_perform_143 : decode c_X_perform 143 = .ok (.aload_n 0, 1) := by decide +kernel
theorem d_X_perform_144 : decode c_X_perform 144 = .ok (.iload_n 2, 1) := by decide +kernel
theorem d_X_perform_145 : decode c_X_perform 145 = .ok (.invokevirtual 163, 3) := by decide +kernel
theorem d_X_perform_148 : decode c_X_perform 148 = .ok (.ifCond .eq 91, 3) := by decide +kernel
theorem d_X_perform_151 : decode c_X_perform 151 = .ok (.aload_n 0, 1) := by decide +kernel
theorem d_X_perform_152 : decode c_X_perform 152 = .ok (.dup, 1) := by decide +kernel
theorem d_X_perform_153 : decode c_X_perform 153 = .ok (.getfield 22, 3) := by decide +kernel
theorem d_X_perform_156 : decode c_X_perform 156 = .ok (.iload_n 3, 1) := by decide +kernel
theorem d_X_perform_157 : decode c_X_perform 157 = .ok (.invokestatic 160, 3) := by decide +kernel
theorem d_X_perform_160 : decode c_X_perform 160 = .ok (.iadd, 1) := by decide +kernel
theorem d_X_perform_161 : decode c_X_perform 161 = .ok (.putfield 22, 3) := by decide +kernel
theorem d_X_perform_164 : decode c_X_perform 164 = .ok (.goto 75, 3) := by decide +kernel
theorem d_X_perform_167 : decode c_X_perform 167 = .ok (.aload_n 0, 1) := by decide +kernel
theorem d_X_perform_168 : decode c_X_perform 168 = .ok (.getfield 13, 3) := by decide +kernel
theorem d_X_perform_171 : decode c_X_perform 171 = .ok (.iload 4, 2) := by decide +kernel
theorem d_X_perform_173 : decode c_X_perform 173 = .ok (.aload_n 0, 1) := by decide +kernel
theorem d_X_perform_174 : decode c_X_perform 174 = .ok (.getfield 13, 3) := by decide +kernel
theorem d_X_perform_177 : decode c_X_perform 177 = .ok (.iload 5, 2) := by decide +kernel
theorem d_X_perform_179 : decode c_X_perform 179 = .ok (.iaload, 1) := by decide +kernel
theorem d_X_perform_180 : decode c_X_perform 180 = .ok (.iastore, 1) := by decide +kernel
theorem d_X_perform_181 : decode c_X_perform 181 = .ok (.goto 58, 3) := by decide +kernel
theorem d_X_perform_184 : decode c_X_perform 184 = .ok (.aload_n 0, 1) := by decide +kernel
theorem d_X_perform_185 : decode c_X_perform 185 = .ok (.aload_n 0, 1) := by decide +kernel
theorem d_X_perform_186 : decode c_X_perform 186 = .ok (.getfield 13, 3) := by decide +kernel
theorem d_X_perform_189 : decode c_X_perform 189 = .ok (.iload 4, 2) := by decide +kernel
theorem d_X_perform_191 : decode c_X_perform 191 = .ok (.iaload, 1) := by decide +kernel
theorem d_X_perform_192 : decode c_X_perform 192 = .ok (.aload_n 0, 1) := by decide +kernel
theorem d_X_perform_193 : decode c_X_perform 193 = .ok (.getfield 13, 3) := by decide +kernel
theorem d_X_perform_196 : decode c_X_perform 196 = .ok (.iload 5, 2) := by decide +kernel
theorem d_X_perform_198 : decode c_X_perform 198 = .ok (.iaload, 1) := by decide +kernel
theorem d_X_perform_199 : decode c_X_perform 199 = .ok (.isub, 1) := by decide +kernel
theorem d_X_perform_200 : decode c_X_perform 200 = .ok (.putfield 29, 3) := by decide +kernel
theorem d_X_perform_203 : decode c_X_perform 203 = .ok (.goto 36, 3) := by decide +kernel
theorem d_X_perform_206 : decode c_X_perform 206 = .ok (.aload_n 0, 1) := by decide +kernel
theorem d_X_perform_207 : decode c_X_perform 207 = .ok (.iload_n 1, 1) := by decide +kernel
theorem d_X_perform_208 : decode c_X_perform 208 = .ok (.aload_n 0, 1) := by decide +kernel
theorem d_X_perform_209 : decode c_X_perform 209 = .ok (.getfield 13, 3) := by decide +kernel
theorem d_X_perform_212 : decode c_X_perform 212 = .ok (.iload 4, 2) := by decide +kernel
theorem d_X_perform_214 : decode c_X_perform 214 = .ok (.iaload, 1) := by decide +kernel
theorem d_X_perform_215 : decode c_X_perform 215 = .ok (.aload_n 0, 1) := by decide +kernel
theorem d_X_perform_216 : decode c_X_perform 216 = .ok (.getfield 13, 3) := by decide +kernel
theorem d_X_perform_219 : decode c_X_perform 219 = .ok (.iload 5, 2) := by decide +kernel
theorem d_X_perform_221 : decode c_X_perform 221 = .ok (.iaload, 1) := by decide +kernel
theorem d_X_perform_222 : decode c_X_perform 222 = .ok (.invokestatic 166, 3) := by decide +kernel
theorem d_X_perform_225 : decode c_X_perform 225 = .ok (.putfield 29, 3) := by decide +kernel
theorem d_X_perform_228 : decode c_X_perform 228 = .ok (.aload_n 0, 1) := by decide +kernel
theorem d_X_perform_229 : decode c_X_perform 229 = .ok (.getfield 13, 3) := by decide +kernel
theorem d_X_perform_232 : decode c_X_perform 232 = .ok (.iload 4, 2) := by decide +kernel
theorem d_X_perform_234 : decode c_X_perform 234 = .ok (.aload_n 0, 1) := by decide +kernel
theorem d_X_perform_235 : decode c_X_perform 235 = .ok (.getfield 29, 3) := by decide +kernel
theorem d_X_perform_238 : decode c_X_perform 238 = .ok (.iastore, 1) := by decide +kernel
theorem d_X_perform_239 : decode c_X_perform 239 = .ok (.return_, 1) := by decide +kernel
theorem d_X_worked_0 : decode c_X_worked 0 = .ok (.iload_n 0, 1) := by decide +kernel
theorem d_X_worked_1 : decode c_X_worked 1 = .ok (.tableswitch 63 2 9 #[47, 51, 63, 63, 55, 63, 63, 59], 47) := by decide +kernel
theorem d_X_worked_48 : decode c_X_worked 48 = .ok (.iload_n 1, 1) := by decide +kernel
theorem d_X_worked_49 : decode c_X_worked 49 = .ok (.iload_n 2, 1) := by decide +kernel
theorem d_X_worked_50 : decode c_X_worked 50 = .ok (.iadd, 1) := by decide +kernel
theorem d_X_worked_51 : decode c_X_worked 51 = .ok (.ireturn, 1) := by decide +kernel
theorem d_X_worked_52 : decode c_X_worked 52 = .ok (.iload_n 1, 1) := by decide +kernel
theorem d_X_worked_53 : decode c_X_worked 53 = .ok (.iload_n 2, 1) := by decide +kernel
theorem d_X_worked_54 : decode c_X_worked 54 = .ok (.isub, 1) := by decide +kernel
theorem d_X_worked_55 : decode c_X_worked 55 = .ok (.ireturn, 1) := by decide +kernel
theorem d_X_worked_56 : decode c_X_worked 56 = .ok (.iload_n 1, 1) := by decide +kernel
theorem d_X_worked_57 : decode c_X_worked 57 = .ok (.iload_n 2, 1) := by decide +kernel
theorem d_X_worked_58 : decode c_X_worked 58 = .ok (.iand, 1) := by decide +kernel
theorem d_X_worked_59 : decode c_X_worked 59 = .ok (.ireturn, 1) := by decide +kernel
theorem d_X_worked_60 : decode c_X_worked 60 = .ok (.iload_n 1, 1) := by decide +kernel
theorem d_X_worked_61 : decode c_X_worked 61 = .ok (.iload_n 2, 1) := by decide +kernel
theorem d_X_worked_62 : decode c_X_worked 62 = .ok (.imul, 1) := by decide +kernel
theorem d_X_worked_63 : decode c_X_worked 63 = .ok (.ireturn, 1) := by decide +kernel
theorem d_X_worked_64 : decode c_X_worked 64 = .ok (.iload_n 1, 1) := by decide +kernel
theorem d_X_worked_65 : decode c_X_worked 65 = .ok (.iconst 1, 1) := by decide +kernel
theorem d_X_worked_66 : decode c_X_worked 66 = .ok (.ishr, 1) := by decide +kernel
theorem d_X_worked_67 : decode c_X_worked 67 = .ok (.ireturn, 1) := by decide +kernel
theorem d_X_holds_0 : decode c_X_holds 0 = .ok (.iload_n 1, 1) := by decide +kernel
theorem d_X_holds_1 : decode c_X_holds 1 = .ok (.tableswitch 73 0 4 #[35, 37, 42, 55, 60], 35) := by decide +kernel
theorem d_X_holds_36 : decode c_X_holds 36 = .ok (.iconst 1, 1) := by decide +kernel
theorem d_X_holds_37 : decode c_X_holds 37 = .ok (.ireturn, 1) := by decide +kernel
theorem d_X_holds_38 : decode c_X_holds 38 = .ok (.aload_n 0, 1) := by decide +kernel
theorem d_X_holds_39 : decode c_X_holds 39 = .ok (.invokevirtual 69, 3) := by decide +kernel
theorem d_X_holds_42 : decode c_X_holds 42 = .ok (.ireturn, 1) := by decide +kernel
theorem d_X_holds_43 : decode c_X_holds 43 = .ok (.aload_n 0, 1) := by decide +kernel
theorem d_X_holds_44 : decode c_X_holds 44 = .ok (.invokevirtual 69, 3) := by decide +kernel
theorem d_X_holds_47 : decode c_X_holds 47 = .ok (.ifCond .ne 7, 3) := by decide +kernel
theorem d_X_holds_50 : decode c_X_holds 50 = .ok (.iconst 1, 1) := by decide +kernel
theorem d_X_holds_51 : decode c_X_holds 51 = .ok (.goto 4, 3) := by decide +kernel
theorem d_X_holds_54 : decode c_X_holds 54 = .ok (.iconst 0, 1) := by decide +kernel
theorem d_X_holds_55 : decode c_X_holds 55 = .ok (.ireturn, 1) := by decide +kernel
theorem d_X_holds_56 : decode c_X_holds 56 = .ok (.aload_n 0, 1) := by decide +kernel
theorem d_X_holds_57 : decode c_X_holds 57 = .ok (.invokevirtual 73, 3) := by decide +kernel
theorem d_X_holds_60 : decode c_X_holds 60 = .ok (.ireturn, 1) := by decide +kernel
theorem d_X_holds_61 : decode c_X_holds 61 = .ok (.aload_n 0, 1) := by decide +kernel
theorem d_X_holds_62 : decode c_X_holds 62 = .ok (.invokevirtual 73, 3) := by decide +kernel
theorem d_X_holds_65 : decode c_X_holds 65 = .ok (.ifCond .ne 7, 3) := by decide +kernel
theorem d_X_holds_68 : decode c_X_holds 68 = .ok (.iconst 1, 1) := by decide +kernel
theorem d_X_holds_69 : decode c_X_holds 69 = .ok (.goto 4, 3) := by decide +kernel
theorem d_X_holds_72 : decode c_X_holds 72 = .ok (.iconst 0, 1) := by decide +kernel
theorem d_X_holds_73 : decode c_X_holds 73 = .ok (.ireturn, 1) := by decide +kernel
theorem d_X_holds_74 : decode c_X_holds 74 = .ok (.iconst 0, 1) := by decide +kernel
theorem d_X_holds_75 : decode c_X_holds 75 = .ok (.ireturn, 1) := by decide +kernel
theorem d_X_belowZeroToo_0 : decode c_X_belowZeroToo 0 = .ok (.iload_n 0, 1) := by decide +kernel
theorem d_X_belowZeroToo_1 : decode c_X_belowZeroToo 1 = .ok (.sipush 128, 3) := by decide +kernel
theorem d_X_belowZeroToo_4 : decode c_X_belowZeroToo 4 = .ok (.if_icmp .ge 7, 3) := by decide +kernel
theorem d_X_belowZeroToo_7 : decode c_X_belowZeroToo 7 = .ok (.iload_n 0, 1) := by decide +kernel
theorem d_X_belowZeroToo_8 : decode c_X_belowZeroToo 8 = .ok (.goto 8, 3) := by decide +kernel
theorem d_X_belowZeroToo_11 : decode c_X_belowZeroToo 11 = .ok (.iload_n 0, 1) := by decide +kernel
theorem d_X_belowZeroToo_12 : decode c_X_belowZeroToo 12 = .ok (.sipush 256, 3) := by decide +kernel
theorem d_X_belowZeroToo_15 : decode c_X_belowZeroToo 15 = .ok (.isub, 1) := by decide +kernel
theorem d_X_belowZeroToo_16 : decode c_X_belowZeroToo 16 = .ok (.ireturn, 1) := by decide +kernel
