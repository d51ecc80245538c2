theorem d_M_init_0 : decode c_M_init 0 = .ok (.aload_n 0, 1) := by decide +kernel
theorem d_M_init_1 : decode c_M_init 1 = .ok (.invokespecial 1, 3) := by decide +kernel
theorem d_M_init_4 : decode c_M_init 4 = .ok (.aload_n 0, 1) := by decide +kernel
theorem d_M_init_5 : decode c_M_init 5 = .ok (.sipush 1024, 3) := by decide +kernel
theorem d_M_init_8 : decode c_M_init 8 = .ok (.newarray .int, 2) := by decide +kernel
theorem d_M_init_10 : decode c_M_init 10 = .ok (.putfield 7, 3) := by decide +kernel
theorem d_M_init_13 : decode c_M_init 13 = .ok (.aload_n 0, 1) := by decide +kernel
theorem d_M_init_14 : decode c_M_init 14 = .ok (.bipush 8, 2) := by decide +kernel
theorem d_M_init_16 : decode c_M_init 16 = .ok (.newarray .int, 2) := by decide +kernel
theorem d_M_init_18 : decode c_M_init 18 = .ok (.putfield 13, 3) := by decide +kernel
theorem d_M_init_21 : decode c_M_init 21 = .ok (.aload_n 0, 1) := by decide +kernel
theorem d_M_init_22 : decode c_M_init 22 = .ok (.bipush 32, 2) := by decide +kernel
theorem d_M_init_24 : decode c_M_init 24 = .ok (.newarray .boolean, 2) := by decide +kernel
theorem d_M_init_26 : decode c_M_init 26 = .ok (.putfield 16, 3) := by decide +kernel
theorem d_M_init_29 : decode c_M_init 29 = .ok (.aload_n 0, 1) := by decide +kernel
theorem d_M_init_30 : decode c_M_init 30 = .ok (.bipush 32, 2) := by decide +kernel
theorem d_M_init_32 : decode c_M_init 32 = .ok (.newarray .int, 2) := by decide +kernel
theorem d_M_init_34 : decode c_M_init 34 = .ok (.putfield 20, 3) := by decide +kernel
theorem d_M_init_37 : decode c_M_init 37 = .ok (.aload_n 0, 1) := by decide +kernel
theorem d_M_init_38 : decode c_M_init 38 = .ok (.bipush 32, 2) := by decide +kernel
theorem d_M_init_40 : decode c_M_init 40 = .ok (.newarray .int, 2) := by decide +kernel
theorem d_M_init_42 : decode c_M_init 42 = .ok (.putfield 23, 3) := by decide +kernel
theorem d_M_init_45 : decode c_M_init 45 = .ok (.aload_n 0, 1) := by decide +kernel
theorem d_M_init_46 : decode c_M_init 46 = .ok (.bipush 32, 2) := by decide +kernel
theorem d_M_init_48 : decode c_M_init 48 = .ok (.newarray .int, 2) := by decide +kernel
theorem d_M_init_50 : decode c_M_init 50 = .ok (.putfield 26, 3) := by decide +kernel
theorem d_M_init_53 : decode c_M_init 53 = .ok (.return_, 1) := by decide +kernel
theorem d_M_thrown_0 : decode c_M_thrown 0 = .ok (.aload_n 0, 1) := by decide +kernel
theorem d_M_thrown_1 : decode c_M_thrown 1 = .ok (.getfield 29, 3) := by decide +kernel
theorem d_M_thrown_4 : decode c_M_thrown 4 = .ok (.ireturn, 1) := by decide +kernel
theorem d_M_throwing_0 : decode c_M_throwing 0 = .ok (.aload_n 0, 1) := by decide +kernel
theorem d_M_throwing_1 : decode c_M_throwing 1 = .ok (.iload_n 1, 1) := by decide +kernel
theorem d_M_throwing_2 : decode c_M_throwing 2 = .ok (.ifCond .eq 7, 3) := by decide +kernel
theorem d_M_throwing_5 : decode c_M_throwing 5 = .ok (.iconst 1, 1) := by decide +kernel
theorem d_M_throwing_6 : decode c_M_throwing 6 = .ok (.goto 12, 3) := by decide +kernel
theorem d_M_throwing_9 : decode c_M_throwing 9 = .ok (.iload_n 2, 1) := by decide +kernel
theorem d_M_throwing_10 : decode c_M_throwing 10 = .ok (.ifCond .eq 7, 3) := by decide +kernel
theorem d_M_throwing_13 : decode c_M_throwing 13 = .ok (.iconst 2, 1) := by decide +kernel
theorem d_M_throwing_14 : decode c_M_throwing 14 = .ok (.goto 4, 3) := by decide +kernel
theorem d_M_throwing_17 : decode c_M_throwing 17 = .ok (.iconst 0, 1) := by decide +kernel
theorem d_M_throwing_18 : decode c_M_throwing 18 = .ok (.putfield 29, 3) := by decide +kernel
theorem d_M_throwing_21 : decode c_M_throwing 21 = .ok (.aload_n 0, 1) := by decide +kernel
theorem d_M_throwing_22 : decode c_M_throwing 22 = .ok (.getfield 29, 3) := by decide +kernel
theorem d_M_throwing_25 : decode c_M_throwing 25 = .ok (.ifCond .le 7, 3) := by decide +kernel
theorem d_M_throwing_28 : decode c_M_throwing 28 = .ok (.iconst 1, 1) := by decide +kernel
theorem d_M_throwing_29 : decode c_M_throwing 29 = .ok (.goto 4, 3) := by decide +kernel
theorem d_M_throwing_32 : decode c_M_throwing 32 = .ok (.iconst 0, 1) := by decide +kernel
theorem d_M_throwing_33 : decode c_M_throwing 33 = .ok (.ireturn, 1) := by decide +kernel
theorem d_M_in_0 : decode c_M_in 0 = .ok (.iload_n 0, 1) := by decide +kernel
theorem d_M_in_1 : decode c_M_in 1 = .ok (.iload_n 1, 1) := by decide +kernel
theorem d_M_in_2 : decode c_M_in 2 = .ok (.if_icmp .lt 12, 3) := by decide +kernel
theorem d_M_in_5 : decode c_M_in 5 = .ok (.iload_n 0, 1) := by decide +kernel
theorem d_M_in_6 : decode c_M_in 6 = .ok (.iload_n 2, 1) := by decide +kernel
theorem d_M_in_7 : decode c_M_in 7 = .ok (.if_icmp .gt 7, 3) := by decide +kernel
theorem d_M_in_10 : decode c_M_in 10 = .ok (.iconst 1, 1) := by decide +kernel
theorem d_M_in_11 : decode c_M_in 11 = .ok (.goto 4, 3) := by decide +kernel
theorem d_M_in_14 : decode c_M_in 14 = .ok (.iconst 0, 1) := by decide +kernel
theorem d_M_in_15 : decode c_M_in 15 = .ok (.ireturn, 1) := by decide +kernel
theorem d_M_isThere_0 : decode c_M_isThere 0 = .ok (.iload_n 0, 1) := by decide +kernel
theorem d_M_isThere_1 : decode c_M_isThere 1 = .ok (.iconst 0, 1) := by decide +kernel
theorem d_M_isThere_2 : decode c_M_isThere 2 = .ok (.sipush 1023, 3) := by decide +kernel
theorem d_M_isThere_5 : decode c_M_isThere 5 = .ok (.invokestatic 33, 3) := by decide +kernel
theorem d_M_isThere_8 : decode c_M_isThere 8 = .ok (.ireturn, 1) := by decide +kernel
theorem d_M_throwOut_0 : decode c_M_throwOut 0 = .ok (.aload_n 0, 1) := by decide +kernel
theorem d_M_throwOut_1 : decode c_M_throwOut 1 = .ok (.getfield 16, 3) := by decide +kernel
theorem d_M_throwOut_4 : decode c_M_throwOut 4 = .ok (.iload_n 1, 1) := by decide +kernel
theorem d_M_throwOut_5 : decode c_M_throwOut 5 = .ok (.iconst 0, 1) := by decide +kernel
theorem d_M_throwOut_6 : decode c_M_throwOut 6 = .ok (.bastore, 1) := by decide +kernel
theorem d_M_throwOut_7 : decode c_M_throwOut 7 = .ok (.aload_n 0, 1) := by decide +kernel
theorem d_M_throwOut_8 : decode c_M_throwOut 8 = .ok (.dup, 1) := by decide +kernel
theorem d_M_throwOut_9 : decode c_M_throwOut 9 = .ok (.getfield 37, 3) := by decide +kernel
theorem d_M_throwOut_12 : decode c_M_throwOut 12 = .ok (.iconst 1, 1) := by decide +kernel
theorem d_M_throwOut_13 : decode c_M_throwOut 13 = .ok (.iadd, 1) := by decide +kernel
theorem d_M_throwOut_14 : decode c_M_throwOut 14 = .ok (.putfield 37, 3) := by decide +kernel
theorem d_M_throwOut_17 : decode c_M_throwOut 17 = .ok (.return_, 1) := by decide +kernel
theorem d_M_write_0 : decode c_M_write 0 = .ok (.aload_n 0, 1) := by decide +kernel
theorem d_M_write_1 : decode c_M_write 1 = .ok (.getfield 7, 3) := by decide +kernel
theorem d_M_write_4 : decode c_M_write 4 = .ok (.iload_n 1, 1) := by decide +kernel
theorem d_M_write_5 : decode c_M_write 5 = .ok (.iload_n 2, 1) := by decide +kernel
theorem d_M_write_6 : decode c_M_write 6 = .ok (.iastore, 1) := by decide +kernel
theorem d_M_write_7 : decode c_M_write 7 = .ok (.iconst 0, 1) := by decide +kernel
theorem d_M_write_8 : decode c_M_write 8 = .ok (.istore_n 3, 1) := by decide +kernel
theorem d_M_write_9 : decode c_M_write 9 = .ok (.iload_n 3, 1) := by decide +kernel
theorem d_M_write_10 : decode c_M_write 10 = .ok (.bipush 32, 2) := by decide +kernel
theorem d_M_write_12 : decode c_M_write 12 = .ok (.if_icmp .ge 77, 3) := by decide +kernel
theorem d_M_write_15 : decode c_M_write 15 = .ok (.aload_n 0, 1) := by decide +kernel
theorem d_M_write_16 : decode c_M_write 16 = .ok (.getfield 16, 3) := by decide +kernel
theorem d_M_write_19 : decode c_M_write 19 = .ok (.iload_n 3, 1) := by decide +kernel
theorem d_M_write_20 : decode c_M_write 20 = .ok (.baload, 1) := by decide +kernel
theorem d_M_write_21 : decode c_M_write 21 = .ok (.ifCond .eq 62, 3) := by decide +kernel
theorem d_M_write_24 : decode c_M_write 24 = .ok (.iload_n 1, 1) := by decide +kernel
theorem d_M_write_25 : decode c_M_write 25 = .ok (.aload_n 0, 1) := by decide +kernel
theorem d_M_write_26 : decode c_M_write 26 = .ok (.getfield 20, 3) := by decide +kernel
theorem d_M_write_29 : decode c_M_write 29 = .ok (.iload_n 3, 1) := by decide +kernel
theorem d_M_write_30 : decode c_M_write 30 = .ok (.iaload, 1) := by decide +kernel
theorem d_M_write_31 : decode c_M_write 31 = .ok (.if_icmp .lt 52, 3) := by decide +kernel
theorem d_M_write_34 : decode c_M_write 34 = .ok (.iload_n 1, 1) := by decide +kernel
theorem d_M_write_35 : decode c_M_write 35 = .ok (.aload_n 0, 1) := by decide +kernel
theorem d_M_write_36 : decode c_M_write 36 = .ok (.getfield 20, 3) := by decide +kernel
theorem d_M_write_39 : decode c_M_write 39 = .ok (.iload_n 3, 1) := by decide +kernel
theorem d_M_write_40 : decode c_M_write 40 = .ok (.iaload, 1) := by decide +kernel
theorem d_M_write_41 : decode c_M_write 41 = .ok (.aload_n 0, 1) := by decide +kernel
theorem d_M_write_42 : decode c_M_write 42 = .ok (.getfield 26, 3) := by decide +kernel
theorem d_M_write_45 : decode c_M_write 45 = .ok (.iload_n 3, 1) := by decide +kernel
theorem d_M_write_46 : decode c_M_write 46 = .ok (.iaload, 1) := by decide +kernel
theorem d_M_write_47 : decode c_M_write 47 = .ok (.iadd, 1) := by decide +kernel
theorem d_M_write_48 : decode c_M_write 48 = .ok (.if_icmp .lt 6, 3) := by decide +kernel
theorem d_M_write_51 : decode c_M_write 51 = .ok (.goto 32, 3) := by decide +kernel
theorem d_M_write_54 : decode c_M_write 54 = .ok (.aload_n 0, 1) := by decide +kernel
theorem d_M_write_55 : decode c_M_write 55 = .ok (.iload_n 3, 1) := by decide +kernel
theorem d_M_write_56 : decode c_M_write 56 = .ok (.invokevirtual 40, 3) := by decide +kernel
theorem d_M_write_59 : decode c_M_write 59 = .ok (.aload_n 0, 1) := by decide +kernel
theorem d_M_write_60 : decode c_M_write 60 = .ok (.aload_n 0, 1) := by decide +kernel
theorem d_M_write_61 : decode c_M_write 61 = .ok (.getfield 44, 3) := by decide +kernel
theorem d_M_write_64 : decode c_M_write 64 = .ok (.ifCond .ne 11, 3) := by decide +kernel
theorem d_M_write_67 : decode c_M_write 67 = .ok (.iload_n 3, 1) := by decide +kernel
theorem d_M_write_68 : decode c_M_write 68 = .ok (.aload_n 0, 1) := by decide +kernel
theorem d_M_write_69 : decode c_M_write 69 = .ok (.getfield 48, 3) := by decide +kernel
theorem d_M_write_72 : decode c_M_write 72 = .ok (.if_icmp .ne 7, 3) := by decide +kernel
theorem d_M_write_75 : decode c_M_write 75 = .ok (.iconst 1, 1) := by decide +kernel
theorem d_M_write_76 : decode c_M_write 76 = .ok (.goto 4, 3) := by decide +kernel
theorem d_M_write_79 : decode c_M_write 79 = .ok (.iconst 0, 1) := by decide +kernel
theorem d_M_write_80 : decode c_M_write 80 = .ok (.putfield 44, 3) := by decide +kernel
theorem d_M_write_83 : decode c_M_write 83 = .ok (.iinc 3 1, 3) := by decide +kernel
theorem d_M_write_86 : decode c_M_write 86 = .ok (.goto (-77), 3) := by decide +kernel
theorem d_M_write_89 : decode c_M_write 89 = .ok (.return_, 1) := by decide +kernel
theorem d_M_poke_0 : decode c_M_poke 0 = .ok (.aload_n 0, 1) := by decide +kernel
theorem d_M_poke_1 : decode c_M_poke 1 = .ok (.iload_n 1, 1) := by decide +kernel
theorem d_M_poke_2 : decode c_M_poke 2 = .ok (.invokestatic 51, 3) := by decide +kernel
theorem d_M_poke_5 : decode c_M_poke 5 = .ok (.ifCond .ne 7, 3) := by decide +kernel
theorem d_M_poke_8 : decode c_M_poke 8 = .ok (.iconst 1, 1) := by decide +kernel
theorem d_M_poke_9 : decode c_M_poke 9 = .ok (.goto 4, 3) := by decide +kernel
theorem d_M_poke_12 : decode c_M_poke 12 = .ok (.iconst 0, 1) := by decide +kernel
theorem d_M_poke_13 : decode c_M_poke 13 = .ok (.iload_n 2, 1) := by decide +kernel
theorem d_M_poke_14 : decode c_M_poke 14 = .ok (.iconst 0, 1) := by decide +kernel
theorem d_M_poke_15 : decode c_M_poke 15 = .ok (.sipush 255, 3) := by decide +kernel
theorem d_M_poke_18 : decode c_M_poke 18 = .ok (.invokestatic 33, 3) := by decide +kernel
theorem d_M_poke_21 : decode c_M_poke 21 = .ok (.ifCond .ne 7, 3) := by decide +kernel
theorem d_M_poke_24 : decode c_M_poke 24 = .ok (.iconst 1, 1) := by decide +kernel
theorem d_M_poke_25 : decode c_M_poke 25 = .ok (.goto 4, 3) := by decide +kernel
theorem d_M_poke_28 : decode c_M_poke 28 = .ok (.iconst 0, 1) := by decide +kernel
theorem d_M_poke_29 : decode c_M_poke 29 = .ok (.invokevirtual 55, 3) := by decide +kernel
theorem d_M_poke_32 : decode c_M_poke 32 = .ok (.ifCond .eq 5, 3) := by decide +kernel
theorem d_M_poke_35 : decode c_M_poke 35 = .ok (.iconst 0, 1) := by decide +kernel
theorem d_M_poke_36 : decode c_M_poke 36 = .ok (.ireturn, 1) := by decide +kernel
theorem d_M_poke_37 : decode c_M_poke 37 = .ok (.aload_n 0, 1) := by decide +kernel
theorem d_M_poke_38 : decode c_M_poke 38 = .ok (.getfield 7, 3) := by decide +kernel
theorem d_M_poke_41 : decode c_M_poke 41 = .ok (.iload_n 1, 1) := by decide +kernel
theorem d_M_poke_42 : decode c_M_poke 42 = .ok (.iaload, 1) := by decide +kernel
theorem d_M_poke_43 : decode c_M_poke 43 = .ok (.istore_n 3, 1) := by decide +kernel
theorem d_M_poke_44 : decode c_M_poke 44 = .ok (.aload_n 0, 1) := by decide +kernel
theorem d_M_poke_45 : decode c_M_poke 45 = .ok (.iload_n 1, 1) := by decide +kernel
theorem d_M_poke_46 : decode c_M_poke 46 = .ok (.iload_n 2, 1) := by decide +kernel
theorem d_M_poke_47 : decode c_M_poke 47 = .ok (.invokevirtual 59, 3) := by decide +kernel
theorem d_M_poke_50 : decode c_M_poke 50 = .ok (.iload_n 3, 1) := by decide +kernel
theorem d_M_poke_51 : decode c_M_poke 51 = .ok (.ireturn, 1) := by decide +kernel
theorem d_M_pokeFour_0 : decode c_M_pokeFour 0 = .ok (.aload_n 0, 1) := by decide +kernel
theorem d_M_pokeFour_1 : decode c_M_pokeFour 1 = .ok (.iload_n 1, 1) := by decide +kernel
theorem d_M_pokeFour_2 : decode c_M_pokeFour 2 = .ok (.invokestatic 51, 3) := by decide +kernel
theorem d_M_pokeFour_5 : decode c_M_pokeFour 5 = .ok (.ifCond .ne 7, 3) := by decide +kernel
theorem d_M_pokeFour_8 : decode c_M_pokeFour 8 = .ok (.iconst 1, 1) := by decide +kernel
theorem d_M_pokeFour_9 : decode c_M_pokeFour 9 = .ok (.goto 4, 3) := by decide +kernel
theorem d_M_pokeFour_12 : decode c_M_pokeFour 12 = .ok (.iconst 0, 1) := by decide +kernel
theorem d_M_pokeFour_13 : decode c_M_pokeFour 13 = .ok (.iconst 0, 1) := by decide +kernel
theorem d_M_pokeFour_14 : decode c_M_pokeFour 14 = .ok (.invokevirtual 55, 3) := by decide +kernel
theorem d_M_pokeFour_17 : decode c_M_pokeFour 17 = .ok (.ifCond .eq 5, 3) := by decide +kernel
theorem d_M_pokeFour_20 : decode c_M_pokeFour 20 = .ok (.iconst 0, 1) := by decide +kernel
theorem d_M_pokeFour_21 : decode c_M_pokeFour 21 = .ok (.ireturn, 1) := by decide +kernel
theorem d_M_pokeFour_22 : decode c_M_pokeFour 22 = .ok (.iconst 0, 1) := by decide +kernel
theorem d_M_pokeFour_23 : decode c_M_pokeFour 23 = .ok (.istore_n 3, 1) := by decide +kernel
theorem d_M_pokeFour_24 : decode c_M_pokeFour 24 = .ok (.iconst 0, 1) := by decide +kernel
theorem d_M_pokeFour_25 : decode c_M_pokeFour 25 = .ok (.istore 4, 2) := by decide +kernel
theorem d_M_pokeFour_27 : decode c_M_pokeFour 27 = .ok (.iload 4, 2) := by decide +kernel
theorem d_M_pokeFour_29 : decode c_M_pokeFour 29 = .ok (.iconst 4, 1) := by decide +kernel
theorem d_M_pokeFour_30 : decode c_M_pokeFour 30 = .ok (.if_icmp .ge 44, 3) := by decide +kernel
theorem d_M_pokeFour_33 : decode c_M_pokeFour 33 = .ok (.iload_n 1, 1) := by decide +kernel
theorem d_M_pokeFour_34 : decode c_M_pokeFour 34 = .ok (.iload 4, 2) := by decide +kernel
theorem d_M_pokeFour_36 : decode c_M_pokeFour 36 = .ok (.iadd, 1) := by decide +kernel
theorem d_M_pokeFour_37 : decode c_M_pokeFour 37 = .ok (.invokestatic 51, 3) := by decide +kernel
theorem d_M_pokeFour_40 : decode c_M_pokeFour 40 = .ok (.ifCond .eq 34, 3) := by decide +kernel
theorem d_M_pokeFour_43 : decode c_M_pokeFour 43 = .ok (.aload_n 0, 1) := by decide +kernel
theorem d_M_pokeFour_44 : decode c_M_pokeFour 44 = .ok (.iload_n 1, 1) := by decide +kernel
theorem d_M_pokeFour_45 : decode c_M_pokeFour 45 = .ok (.iload 4, 2) := by decide +kernel
theorem d_M_pokeFour_47 : decode c_M_pokeFour 47 = .ok (.iadd, 1) := by decide +kernel
theorem d_M_pokeFour_48 : decode c_M_pokeFour 48 = .ok (.iload_n 2, 1) := by decide +kernel
theorem d_M_pokeFour_49 : decode c_M_pokeFour 49 = .ok (.bipush 24, 2) := by decide +kernel
theorem d_M_pokeFour_51 : decode c_M_pokeFour 51 = .ok (.bipush 8, 2) := by decide +kernel
theorem d_M_pokeFour_53 : decode c_M_pokeFour 53 = .ok (.iload 4, 2) := by decide +kernel
theorem d_M_pokeFour_55 : decode c_M_pokeFour 55 = .ok (.imul, 1) := by decide +kernel
theorem d_M_pokeFour_56 : decode c_M_pokeFour 56 = .ok (.isub, 1) := by decide +kernel
theorem d_M_pokeFour_57 : decode c_M_pokeFour 57 = .ok (.ishr, 1) := by decide +kernel
theorem d_M_pokeFour_58 : decode c_M_pokeFour 58 = .ok (.sipush 255, 3) := by decide +kernel
theorem d_M_pokeFour_61 : decode c_M_pokeFour 61 = .ok (.iand, 1) := by decide +kernel
theorem d_M_pokeFour_62 : decode c_M_pokeFour 62 = .ok (.invokevirtual 59, 3) := by decide +kernel
theorem d_M_pokeFour_65 : decode c_M_pokeFour 65 = .ok (.iinc 3 1, 3) := by decide +kernel
theorem d_M_pokeFour_68 : decode c_M_pokeFour 68 = .ok (.iinc 4 1, 3) := by decide +kernel
theorem d_M_pokeFour_71 : decode c_M_pokeFour 71 = .ok (.goto (-44), 3) := by decide +kernel
theorem d_M_pokeFour_74 : decode c_M_pokeFour 74 = .ok (.iload_n 3, 1) := by decide +kernel
theorem d_M_pokeFour_75 : decode c_M_pokeFour 75 = .ok (.ireturn, 1) := by decide +kernel
theorem d_M_set_0 : decode c_M_set 0 = .ok (.aload_n 0, 1) := by decide +kernel
theorem d_M_set_1 : decode c_M_set 1 = .ok (.iload_n 1, 1) := by decide +kernel
theorem d_M_set_2 : decode c_M_set 2 = .ok (.iconst 0, 1) := by decide +kernel
theorem d_M_set_3 : decode c_M_set 3 = .ok (.bipush 7, 2) := by decide +kernel
theorem d_M_set_5 : decode c_M_set 5 = .ok (.invokestatic 33, 3) := by decide +kernel
theorem d_M_set_8 : decode c_M_set 8 = .ok (.ifCond .ne 7, 3) := by decide +kernel
theorem d_M_set_11 : decode c_M_set 11 = .ok (.iconst 1, 1) := by decide +kernel
theorem d_M_set_12 : decode c_M_set 12 = .ok (.goto 4, 3) := by decide +kernel
theorem d_M_set_15 : decode c_M_set 15 = .ok (.iconst 0, 1) := by decide +kernel
theorem d_M_set_16 : decode c_M_set 16 = .ok (.iconst 0, 1) := by decide +kernel
theorem d_M_set_17 : decode c_M_set 17 = .ok (.invokevirtual 55, 3) := by decide +kernel
theorem d_M_set_20 : decode c_M_set 20 = .ok (.ifCond .eq 5, 3) := by decide +kernel
theorem d_M_set_23 : decode c_M_set 23 = .ok (.iconst 0, 1) := by decide +kernel
theorem d_M_set_24 : decode c_M_set 24 = .ok (.ireturn, 1) := by decide +kernel
theorem d_M_set_25 : decode c_M_set 25 = .ok (.aload_n 0, 1) := by decide +kernel
theorem d_M_set_26 : decode c_M_set 26 = .ok (.getfield 13, 3) := by decide +kernel
theorem d_M_set_29 : decode c_M_set 29 = .ok (.iload_n 1, 1) := by decide +kernel
theorem d_M_set_30 : decode c_M_set 30 = .ok (.iaload, 1) := by decide +kernel
theorem d_M_set_31 : decode c_M_set 31 = .ok (.istore_n 3, 1) := by decide +kernel
theorem d_M_set_32 : decode c_M_set 32 = .ok (.aload_n 0, 1) := by decide +kernel
theorem d_M_set_33 : decode c_M_set 33 = .ok (.getfield 13, 3) := by decide +kernel
theorem d_M_set_36 : decode c_M_set 36 = .ok (.iload_n 1, 1) := by decide +kernel
theorem d_M_set_37 : decode c_M_set 37 = .ok (.iload_n 2, 1) := by decide +kernel
theorem d_M_set_38 : decode c_M_set 38 = .ok (.iastore, 1) := by decide +kernel
theorem d_M_set_39 : decode c_M_set 39 = .ok (.iload_n 3, 1) := by decide +kernel
theorem d_M_set_40 : decode c_M_set 40 = .ok (.ireturn, 1) := by decide +kernel
theorem d_M_go_0 : decode c_M_go 0 = .ok (.aload_n 0, 1) := by decide +kernel
theorem d_M_go_1 : decode c_M_go 1 = .ok (.iload_n 1, 1) := by decide +kernel
theorem d_M_go_2 : decode c_M_go 2 = .ok (.invokestatic 51, 3) := by decide +kernel
theorem d_M_go_5 : decode c_M_go 5 = .ok (.ifCond .ne 7, 3) := by decide +kernel
theorem d_M_go_8 : decode c_M_go 8 = .ok (.iconst 1, 1) := by decide +kernel
theorem d_M_go_9 : decode c_M_go 9 = .ok (.goto 4, 3) := by decide +kernel
theorem d_M_go_12 : decode c_M_go 12 = .ok (.iconst 0, 1) := by decide +kernel
theorem d_M_go_13 : decode c_M_go 13 = .ok (.iconst 0, 1) := by decide +kernel
theorem d_M_go_14 : decode c_M_go 14 = .ok (.invokevirtual 55, 3) := by decide +kernel
theorem d_M_go_17 : decode c_M_go 17 = .ok (.ifCond .eq 5, 3) := by decide +kernel
theorem d_M_go_20 : decode c_M_go 20 = .ok (.iconst 0, 1) := by decide +kernel
theorem d_M_go_21 : decode c_M_go 21 = .ok (.ireturn, 1) := by decide +kernel
theorem d_M_go_22 : decode c_M_go 22 = .ok (.aload_n 0, 1) := by decide +kernel
theorem d_M_go_23 : decode c_M_go 23 = .ok (.getfield 63, 3) := by decide +kernel
theorem d_M_go_26 : decode c_M_go 26 = .ok (.istore_n 2, 1) := by decide +kernel
theorem d_M_go_27 : decode c_M_go 27 = .ok (.aload_n 0, 1) := by decide +kernel
theorem d_M_go_28 : decode c_M_go 28 = .ok (.iload_n 1, 1) := by decide +kernel
theorem d_M_go_29 : decode c_M_go 29 = .ok (.putfield 63, 3) := by decide +kernel
theorem d_M_go_32 : decode c_M_go 32 = .ok (.aload_n 0, 1) := by decide +kernel
theorem d_M_go_33 : decode c_M_go 33 = .ok (.iconst 0, 1) := by decide +kernel
theorem d_M_go_34 : decode c_M_go 34 = .ok (.putfield 66, 3) := by decide +kernel
theorem d_M_go_37 : decode c_M_go 37 = .ok (.iload_n 2, 1) := by decide +kernel
theorem d_M_go_38 : decode c_M_go 38 = .ok (.ireturn, 1) := by decide +kernel
theorem d_M_sizeOf_0 : decode c_M_sizeOf 0 = .ok (.iload_n 0, 1) := by decide +kernel
theorem d_M_sizeOf_1 : decode c_M_sizeOf 1 = .ok (.ifCond .eq 15, 3) := by decide +kernel
theorem d_M_sizeOf_4 : decode c_M_sizeOf 4 = .ok (.iload_n 0, 1) := by decide +kernel
theorem d_M_sizeOf_5 : decode c_M_sizeOf 5 = .ok (.bipush 10, 2) := by decide +kernel
theorem d_M_sizeOf_7 : decode c_M_sizeOf 7 = .ok (.if_icmp .eq 9, 3) := by decide +kernel
theorem d_M_sizeOf_10 : decode c_M_sizeOf 10 = .ok (.iload_n 0, 1) := by decide +kernel
theorem d_M_sizeOf_11 : decode c_M_sizeOf 11 = .ok (.bipush 11, 2) := by decide +kernel
theorem d_M_sizeOf_13 : decode c_M_sizeOf 13 = .ok (.if_icmp .le 7, 3) := by decide +kernel
theorem d_M_sizeOf_16 : decode c_M_sizeOf 16 = .ok (.iconst 1, 1) := by decide +kernel
theorem d_M_sizeOf_17 : decode c_M_sizeOf 17 = .ok (.goto 4, 3) := by decide +kernel
theorem d_M_sizeOf_20 : decode c_M_sizeOf 20 = .ok (.iconst 2, 1) := by decide +kernel
theorem d_M_sizeOf_21 : decode c_M_sizeOf 21 = .ok (.ireturn, 1) := by decide +kernel
theorem d_M_kindAt_0 : decode c_M_kindAt 0 = .ok (.iload_n 1, 1) := by decide +kernel
theorem d_M_kindAt_1 : decode c_M_kindAt 1 = .ok (.invokestatic 51, 3) := by decide +kernel
theorem d_M_kindAt_4 : decode c_M_kindAt 4 = .ok (.ifCond .eq 14, 3) := by decide +kernel
theorem d_M_kindAt_7 : decode c_M_kindAt 7 = .ok (.aload_n 0, 1) := by decide +kernel
theorem d_M_kindAt_8 : decode c_M_kindAt 8 = .ok (.getfield 7, 3) := by decide +kernel
theorem d_M_kindAt_11 : decode c_M_kindAt 11 = .ok (.iload_n 1, 1) := by decide +kernel
theorem d_M_kindAt_12 : decode c_M_kindAt 12 = .ok (.iaload, 1) := by decide +kernel
theorem d_M_kindAt_13 : decode c_M_kindAt 13 = .ok (.iconst 4, 1) := by decide +kernel
theorem d_M_kindAt_14 : decode c_M_kindAt 14 = .ok (.ishr, 1) := by decide +kernel
theorem d_M_kindAt_15 : decode c_M_kindAt 15 = .ok (.goto 4, 3) := by decide +kernel
theorem d_M_kindAt_18 : decode c_M_kindAt 18 = .ok (.iconst (-1), 1) := by decide +kernel
theorem d_M_kindAt_19 : decode c_M_kindAt 19 = .ok (.ireturn, 1) := by decide +kernel
theorem d_M_faultAt_0 : decode c_M_faultAt 0 = .ok (.aload_n 0, 1) := by decide +kernel
theorem d_M_faultAt_1 : decode c_M_faultAt 1 = .ok (.iload_n 1, 1) := by decide +kernel
theorem d_M_faultAt_2 : decode c_M_faultAt 2 = .ok (.invokevirtual 69, 3) := by decide +kernel
theorem d_M_faultAt_5 : decode c_M_faultAt 5 = .ok (.istore_n 2, 1) := by decide +kernel
theorem d_M_faultAt_6 : decode c_M_faultAt 6 = .ok (.iload_n 2, 1) := by decide +kernel
theorem d_M_faultAt_7 : decode c_M_faultAt 7 = .ok (.ifCond .ge 5, 3) := by decide +kernel
theorem d_M_faultAt_10 : decode c_M_faultAt 10 = .ok (.iconst 3, 1) := by decide +kernel
theorem d_M_faultAt_11 : decode c_M_faultAt 11 = .ok (.ireturn, 1) := by decide +kernel
theorem d_M_faultAt_12 : decode c_M_faultAt 12 = .ok (.iload_n 2, 1) := by decide +kernel
theorem d_M_faultAt_13 : decode c_M_faultAt 13 = .ok (.bipush 11, 2) := by decide +kernel
theorem d_M_faultAt_15 : decode c_M_faultAt 15 = .ok (.if_icmp .le 5, 3) := by decide +kernel
theorem d_M_faultAt_18 : decode c_M_faultAt 18 = .ok (.iconst 2, 1) := by decide +kernel
theorem d_M_faultAt_19 : decode c_M_faultAt 19 = .ok (.ireturn, 1) := by decide +kernel
theorem d_M_faultAt_20 : decode c_M_faultAt 20 = .ok (.iload_n 1, 1) := by decide +kernel
theorem d_M_faultAt_21 : decode c_M_faultAt 21 = .ok (.iload_n 2, 1) := by decide +kernel
theorem d_M_faultAt_22 : decode c_M_faultAt 22 = .ok (.invokestatic 73, 3) := by decide +kernel
theorem d_M_faultAt_25 : decode c_M_faultAt 25 = .ok (.iadd, 1) := by decide +kernel
theorem d_M_faultAt_26 : decode c_M_faultAt 26 = .ok (.iconst 1, 1) := by decide +kernel
theorem d_M_faultAt_27 : decode c_M_faultAt 27 = .ok (.isub, 1) := by decide +kernel
theorem d_M_faultAt_28 : decode c_M_faultAt 28 = .ok (.invokestatic 51, 3) := by decide +kernel
theorem d_M_faultAt_31 : decode c_M_faultAt 31 = .ok (.ifCond .eq 7, 3) := by decide +kernel
theorem d_M_faultAt_34 : decode c_M_faultAt 34 = .ok (.iconst 0, 1) := by decide +kernel
theorem d_M_faultAt_35 : decode c_M_faultAt 35 = .ok (.goto 4, 3) := by decide +kernel
theorem d_M_faultAt_38 : decode c_M_faultAt 38 = .ok (.iconst 3, 1) := by decide +kernel
theorem d_M_faultAt_39 : decode c_M_faultAt 39 = .ok (.ireturn, 1) := by decide +kernel
theorem d_M_make_0 : decode c_M_make 0 = .ok (.aload_n 0, 1) := by decide +kernel
theorem d_M_make_1 : decode c_M_make 1 = .ok (.getfield 63, 3) := by decide +kernel
theorem d_M_make_4 : decode c_M_make 4 = .ok (.istore_n 2, 1) := by decide +kernel
theorem d_M_make_5 : decode c_M_make 5 = .ok (.iconst 0, 1) := by decide +kernel
theorem d_M_make_6 : decode c_M_make 6 = .ok (.istore_n 3, 1) := by decide +kernel
theorem d_M_make_7 : decode c_M_make 7 = .ok (.iconst 1, 1) := by decide +kernel
theorem d_M_make_8 : decode c_M_make 8 = .ok (.istore 4, 2) := by decide +kernel
theorem d_M_make_10 : decode c_M_make 10 = .ok (.iload 4, 2) := by decide +kernel
theorem d_M_make_12 : decode c_M_make 12 = .ok (.ifCond .eq 66, 3) := by decide +kernel
theorem d_M_make_15 : decode c_M_make 15 = .ok (.iinc 3 1, 3) := by decide +kernel
theorem d_M_make_18 : decode c_M_make 18 = .ok (.aload_n 0, 1) := by decide +kernel
theorem d_M_make_19 : decode c_M_make 19 = .ok (.iload_n 2, 1) := by decide +kernel
theorem d_M_make_20 : decode c_M_make 20 = .ok (.invokevirtual 69, 3) := by decide +kernel
theorem d_M_make_23 : decode c_M_make 23 = .ok (.istore 5, 2) := by decide +kernel
theorem d_M_make_25 : decode c_M_make 25 = .ok (.iload_n 3, 1) := by decide +kernel
theorem d_M_make_26 : decode c_M_make 26 = .ok (.bipush 12, 2) := by decide +kernel
theorem d_M_make_28 : decode c_M_make 28 = .ok (.if_icmp .ge 27, 3) := by decide +kernel
theorem d_M_make_31 : decode c_M_make 31 = .ok (.iload 5, 2) := by decide +kernel
theorem d_M_make_33 : decode c_M_make 33 = .ok (.ifCond .eq 22, 3) := by decide +kernel
theorem d_M_make_36 : decode c_M_make 36 = .ok (.iload 5, 2) := by decide +kernel
theorem d_M_make_38 : decode c_M_make 38 = .ok (.bipush 7, 2) := by decide +kernel
theorem d_M_make_40 : decode c_M_make 40 = .ok (.if_icmp .eq 15, 3) := by decide +kernel
theorem d_M_make_43 : decode c_M_make 43 = .ok (.aload_n 0, 1) := by decide +kernel
theorem d_M_make_44 : decode c_M_make 44 = .ok (.iload_n 2, 1) := by decide +kernel
theorem d_M_make_45 : decode c_M_make 45 = .ok (.invokevirtual 76, 3) := by decide +kernel
theorem d_M_make_48 : decode c_M_make 48 = .ok (.ifCond .ne 7, 3) := by decide +kernel
theorem d_M_make_51 : decode c_M_make 51 = .ok (.iconst 1, 1) := by decide +kernel
theorem d_M_make_52 : decode c_M_make 52 = .ok (.goto 4, 3) := by decide +kernel
theorem d_M_make_55 : decode c_M_make 55 = .ok (.iconst 0, 1) := by decide +kernel
theorem d_M_make_56 : decode c_M_make 56 = .ok (.istore 4, 2) := by decide +kernel
theorem d_M_make_58 : decode c_M_make 58 = .ok (.iload_n 2, 1) := by decide +kernel
theorem d_M_make_59 : decode c_M_make 59 = .ok (.iload 5, 2) := by decide +kernel
theorem d_M_make_61 : decode c_M_make 61 = .ok (.ifCond .ge 7, 3) := by decide +kernel
theorem d_M_make_64 : decode c_M_make 64 = .ok (.iconst 0, 1) := by decide +kernel
theorem d_M_make_65 : decode c_M_make 65 = .ok (.goto 8, 3) := by decide +kernel
theorem d_M_make_68 : decode c_M_make 68 = .ok (.iload 5, 2) := by decide +kernel
theorem d_M_make_70 : decode c_M_make 70 = .ok (.invokestatic 73, 3) := by decide +kernel
theorem d_M_make_73 : decode c_M_make 73 = .ok (.iadd, 1) := by decide +kernel
theorem d_M_make_74 : decode c_M_make 74 = .ok (.istore_n 2, 1) := by decide +kernel
theorem d_M_make_75 : decode c_M_make 75 = .ok (.goto (-65), 3) := by decide +kernel
theorem d_M_make_78 : decode c_M_make 78 = .ok (.aload_n 0, 1) := by decide +kernel
theorem d_M_make_79 : decode c_M_make 79 = .ok (.getfield 16, 3) := by decide +kernel
theorem d_M_make_82 : decode c_M_make 82 = .ok (.iload_n 1, 1) := by decide +kernel
theorem d_M_make_83 : decode c_M_make 83 = .ok (.iconst 1, 1) := by decide +kernel
theorem d_M_make_84 : decode c_M_make 84 = .ok (.bastore, 1) := by decide +kernel
theorem d_M_make_85 : decode c_M_make 85 = .ok (.aload_n 0, 1) := by decide +kernel
theorem d_M_make_86 : decode c_M_make 86 = .ok (.getfield 20, 3) := by decide +kernel
theorem d_M_make_89 : decode c_M_make 89 = .ok (.iload_n 1, 1) := by decide +kernel
theorem d_M_make_90 : decode c_M_make 90 = .ok (.aload_n 0, 1) := by decide +kernel
theorem d_M_make_91 : decode c_M_make 91 = .ok (.getfield 63, 3) := by decide +kernel
theorem d_M_make_94 : decode c_M_make 94 = .ok (.iastore, 1) := by decide +kernel
theorem d_M_make_95 : decode c_M_make 95 = .ok (.aload_n 0, 1) := by decide +kernel
theorem d_M_make_96 : decode c_M_make 96 = .ok (.getfield 23, 3) := by decide +kernel
theorem d_M_make_99 : decode c_M_make 99 = .ok (.iload_n 1, 1) := by decide +kernel
theorem d_M_make_100 : decode c_M_make 100 = .ok (.iload_n 3, 1) := by decide +kernel
theorem d_M_make_101 : decode c_M_make 101 = .ok (.iastore, 1) := by decide +kernel
theorem d_M_make_102 : decode c_M_make 102 = .ok (.aload_n 0, 1) := by decide +kernel
theorem d_M_make_103 : decode c_M_make 103 = .ok (.getfield 26, 3) := by decide +kernel
theorem d_M_make_106 : decode c_M_make 106 = .ok (.iload_n 1, 1) := by decide +kernel
theorem d_M_make_107 : decode c_M_make 107 = .ok (.iload_n 2, 1) := by decide +kernel
theorem d_M_make_108 : decode c_M_make 108 = .ok (.sipush 1024, 3) := by decide +kernel
theorem d_M_make_111 : decode c_M_make 111 = .ok (.if_icmp .le 9, 3) := by decide +kernel
theorem d_M_make_114 : decode c_M_make 114 = .ok (.sipush 1024, 3) := by decide +kernel
theorem d_M_make_117 : decode c_M_make 117 = .ok (.goto 4, 3) := by decide +kernel
theorem d_M_make_120 : decode c_M_make 120 = .ok (.iload_n 2, 1) := by decide +kernel
theorem d_M_make_121 : decode c_M_make 121 = .ok (.aload_n 0, 1) := by decide +kernel
theorem d_M_make_122 : decode c_M_make 122 = .ok (.getfield 63, 3) := by decide +kernel
theorem d_M_make_125 : decode c_M_make 125 = .ok (.isub, 1) := by decide +kernel
theorem d_M_make_126 : decode c_M_make 126 = .ok (.iastore, 1) := by decide +kernel
theorem d_M_make_127 : decode c_M_make 127 = .ok (.aload_n 0, 1) := by decide +kernel
theorem d_M_make_128 : decode c_M_make 128 = .ok (.getfield 63, 3) := by decide +kernel
theorem d_M_make_131 : decode c_M_make 131 = .ok (.invokestatic 51, 3) := by decide +kernel
theorem d_M_make_134 : decode c_M_make 134 = .ok (.ifCond .ne 10, 3) := by decide +kernel
theorem d_M_make_137 : decode c_M_make 137 = .ok (.aload_n 0, 1) := by decide +kernel
theorem d_M_make_138 : decode c_M_make 138 = .ok (.getfield 26, 3) := by decide +kernel
theorem d_M_make_141 : decode c_M_make 141 = .ok (.iload_n 1, 1) := by decide +kernel
theorem d_M_make_142 : decode c_M_make 142 = .ok (.iconst 0, 1) := by decide +kernel
theorem d_M_make_143 : decode c_M_make 143 = .ok (.iastore, 1) := by decide +kernel
theorem d_M_make_144 : decode c_M_make 144 = .ok (.aload_n 0, 1) := by decide +kernel
theorem d_M_make_145 : decode c_M_make 145 = .ok (.dup, 1) := by decide +kernel
theorem d_M_make_146 : decode c_M_make 146 = .ok (.getfield 79, 3) := by decide +kernel
theorem d_M_make_149 : decode c_M_make 149 = .ok (.iconst 1, 1) := by decide +kernel
theorem d_M_make_150 : decode c_M_make 150 = .ok (.iadd, 1) := by decide +kernel
theorem d_M_make_151 : decode c_M_make 151 = .ok (.putfield 79, 3) := by decide +kernel
theorem d_M_make_154 : decode c_M_make 154 = .ok (.aload_n 0, 1) := by decide +kernel
theorem d_M_make_155 : decode c_M_make 155 = .ok (.dup, 1) := by decide +kernel
theorem d_M_make_156 : decode c_M_make 156 = .ok (.getfield 82, 3) := by decide +kernel
theorem d_M_make_159 : decode c_M_make 159 = .ok (.iload_n 3, 1) := by decide +kernel
theorem d_M_make_160 : decode c_M_make 160 = .ok (.iadd, 1) := by decide +kernel
theorem d_M_make_161 : decode c_M_make 161 = .ok (.putfield 82, 3) := by decide +kernel
theorem d_M_make_164 : decode c_M_make 164 = .ok (.return_, 1) := by decide +kernel
theorem d_M_find_0 : decode c_M_find 0 = .ok (.aload_n 0, 1) := by decide +kernel
theorem d_M_find_1 : decode c_M_find 1 = .ok (.aload_n 0, 1) := by decide +kernel
theorem d_M_find_2 : decode c_M_find 2 = .ok (.getfield 63, 3) := by decide +kernel
theorem d_M_find_5 : decode c_M_find 5 = .ok (.bipush 31, 2) := by decide +kernel
theorem d_M_find_7 : decode c_M_find 7 = .ok (.iand, 1) := by decide +kernel
theorem d_M_find_8 : decode c_M_find 8 = .ok (.putfield 48, 3) := by decide +kernel
theorem d_M_find_11 : decode c_M_find 11 = .ok (.aload_n 0, 1) := by decide +kernel
theorem d_M_find_12 : decode c_M_find 12 = .ok (.getfield 16, 3) := by decide +kernel
theorem d_M_find_15 : decode c_M_find 15 = .ok (.aload_n 0, 1) := by decide +kernel
theorem d_M_find_16 : decode c_M_find 16 = .ok (.getfield 48, 3) := by decide +kernel
theorem d_M_find_19 : decode c_M_find 19 = .ok (.baload, 1) := by decide +kernel
theorem d_M_find_20 : decode c_M_find 20 = .ok (.ifCond .eq 32, 3) := by decide +kernel
theorem d_M_find_23 : decode c_M_find 23 = .ok (.aload_n 0, 1) := by decide +kernel
theorem d_M_find_24 : decode c_M_find 24 = .ok (.getfield 20, 3) := by decide +kernel
theorem d_M_find_27 : decode c_M_find 27 = .ok (.aload_n 0, 1) := by decide +kernel
theorem d_M_find_28 : decode c_M_find 28 = .ok (.getfield 48, 3) := by decide +kernel
theorem d_M_find_31 : decode c_M_find 31 = .ok (.iaload, 1) := by decide +kernel
theorem d_M_find_32 : decode c_M_find 32 = .ok (.aload_n 0, 1) := by decide +kernel
theorem d_M_find_33 : decode c_M_find 33 = .ok (.getfield 63, 3) := by decide +kernel
theorem d_M_find_36 : decode c_M_find 36 = .ok (.if_icmp .ne 16, 3) := by decide +kernel
theorem d_M_find_39 : decode c_M_find 39 = .ok (.aload_n 0, 1) := by decide +kernel
theorem d_M_find_40 : decode c_M_find 40 = .ok (.dup, 1) := by decide +kernel
theorem d_M_find_41 : decode c_M_find 41 = .ok (.getfield 85, 3) := by decide +kernel
theorem d_M_find_44 : decode c_M_find 44 = .ok (.iconst 1, 1) := by decide +kernel
theorem d_M_find_45 : decode c_M_find 45 = .ok (.iadd, 1) := by decide +kernel
theorem d_M_find_46 : decode c_M_find 46 = .ok (.putfield 85, 3) := by decide +kernel
theorem d_M_find_49 : decode c_M_find 49 = .ok (.goto 11, 3) := by decide +kernel
theorem d_M_find_52 : decode c_M_find 52 = .ok (.aload_n 0, 1) := by decide +kernel
theorem d_M_find_53 : decode c_M_find 53 = .ok (.aload_n 0, 1) := by decide +kernel
theorem d_M_find_54 : decode c_M_find 54 = .ok (.getfield 48, 3) := by decide +kernel
theorem d_M_find_57 : decode c_M_find 57 = .ok (.invokevirtual 88, 3) := by decide +kernel
theorem d_M_find_60 : decode c_M_find 60 = .ok (.return_, 1) := by decide +kernel
theorem d_M_become_0 : decode c_M_become 0 = .ok (.aload_n 0, 1) := by decide +kernel
theorem d_M_become_1 : decode c_M_become 1 = .ok (.getfield 13, 3) := by decide +kernel
theorem d_M_become_4 : decode c_M_become 4 = .ok (.iload_n 1, 1) := by decide +kernel
theorem d_M_become_5 : decode c_M_become 5 = .ok (.iload_n 2, 1) := by decide +kernel
theorem d_M_become_6 : decode c_M_become 6 = .ok (.iastore, 1) := by decide +kernel
theorem d_M_become_7 : decode c_M_become 7 = .ok (.aload_n 0, 1) := by decide +kernel
theorem d_M_become_8 : decode c_M_become 8 = .ok (.iload_n 2, 1) := by decide +kernel
theorem d_M_become_9 : decode c_M_become 9 = .ok (.ifCond .ne 7, 3) := by decide +kernel
theorem d_M_become_12 : decode c_M_become 12 = .ok (.iconst 1, 1) := by decide +kernel
theorem d_M_become_13 : decode c_M_become 13 = .ok (.goto 4, 3) := by decide +kernel
theorem d_M_become_16 : decode c_M_become 16 = .ok (.iconst 0, 1) := by decide +kernel
theorem d_M_become_17 : decode c_M_become 17 = .ok (.putfield 91, 3) := by decide +kernel
theorem d_M_become_20 : decode c_M_become 20 = .ok (.aload_n 0, 1) := by decide +kernel
theorem d_M_become_21 : decode c_M_become 21 = .ok (.iload_n 2, 1) := by decide +kernel
theorem d_M_become_22 : decode c_M_become 22 = .ok (.ifCond .ge 7, 3) := by decide +kernel
theorem d_M_become_25 : decode c_M_become 25 = .ok (.iconst 1, 1) := by decide +kernel
theorem d_M_become_26 : decode c_M_become 26 = .ok (.goto 4, 3) := by decide +kernel
theorem d_M_become_29 : decode c_M_become 29 = .ok (.iconst 0, 1) := by decide +kernel
theorem d_M_become_30 : decode c_M_become 30 = .ok (.putfield 94, 3) := by decide +kernel
theorem d_M_become_33 : decode c_M_become 33 = .ok (.return_, 1) := by decide +kernel
theorem d_M_holds_0 : decode c_M_holds 0 = .ok (.iload_n 1, 1) := by decide +kernel
theorem d_M_holds_1 : decode c_M_holds 1 = .ok (.tableswitch 73 0 4 #[35, 37, 42, 55, 60], 35) := by decide +kernel
theorem d_M_holds_36 : decode c_M_holds 36 = .ok (.iconst 1, 1) := by decide +kernel
theorem d_M_holds_37 : decode c_M_holds 37 = .ok (.ireturn, 1) := by decide +kernel
theorem d_M_holds_38 : decode c_M_holds 38 = .ok (.aload_n 0, 1) := by decide +kernel
theorem d_M_holds_39 : decode c_M_holds 39 = .ok (.getfield 91, 3) := by decide +kernel
theorem d_M_holds_42 : decode c_M_holds 42 = .ok (.ireturn, 1) := by decide +kernel
theorem d_M_holds_43 : decode c_M_holds 43 = .ok (.aload_n 0, 1) := by decide +kernel
theorem d_M_holds_44 : decode c_M_holds 44 = .ok (.getfield 91, 3) := by decide +kernel
theorem d_M_holds_47 : decode c_M_holds 47 = .ok (.ifCond .ne 7, 3) := by decide +kernel
theorem d_M_holds_50 : decode c_M_holds 50 = .ok (.iconst 1, 1) := by decide +kernel
theorem d_M_holds_51 : decode c_M_holds 51 = .ok (.goto 4, 3) := by decide +kernel
theorem d_M_holds_54 : decode c_M_holds 54 = .ok (.iconst 0, 1) := by decide +kernel
theorem d_M_holds_55 : decode c_M_holds 55 = .ok (.ireturn, 1) := by decide +kernel
theorem d_M_holds_56 : decode c_M_holds 56 = .ok (.aload_n 0, 1) := by decide +kernel
theorem d_M_holds_57 : decode c_M_holds 57 = .ok (.getfield 94, 3) := by decide +kernel
theorem d_M_holds_60 : decode c_M_holds 60 = .ok (.ireturn, 1) := by decide +kernel
theorem d_M_holds_61 : decode c_M_holds 61 = .ok (.aload_n 0, 1) := by decide +kernel
theorem d_M_holds_62 : decode c_M_holds 62 = .ok (.getfield 94, 3) := by decide +kernel
theorem d_M_holds_65 : decode c_M_holds 65 = .ok (.ifCond .ne 7, 3) := by decide +kernel
theorem d_M_holds_68 : decode c_M_holds 68 = .ok (.iconst 1, 1) := by decide +kernel
theorem d_M_holds_69 : decode c_M_holds 69 = .ok (.goto 4, 3) := by decide +kernel
theorem d_M_holds_72 : decode c_M_holds 72 = .ok (.iconst 0, 1) := by decide +kernel
theorem d_M_holds_73 : decode c_M_holds 73 = .ok (.ireturn, 1) := by decide +kernel
theorem d_M_holds_74 : decode c_M_holds 74 = .ok (.iconst 0, 1) := by decide +kernel
theorem d_M_holds_75 : decode c_M_holds 75 = .ok (.ireturn, 1) := by decide +kernel
theorem d_M_fault_0 : decode c_M_fault 0 = .ok (.aload_n 0, 1) := by decide +kernel
theorem d_M_fault_1 : decode c_M_fault 1 = .ok (.iconst 1, 1) := by decide +kernel
theorem d_M_fault_2 : decode c_M_fault 2 = .ok (.iload_n 1, 1) := by decide +kernel
theorem d_M_fault_3 : decode c_M_fault 3 = .ok (.iadd, 1) := by decide +kernel
theorem d_M_fault_4 : decode c_M_fault 4 = .ok (.putfield 66, 3) := by decide +kernel
theorem d_M_fault_7 : decode c_M_fault 7 = .ok (.return_, 1) := by decide +kernel
theorem d_M_does_0 : decode c_M_does 0 = .ok (.aload_n 0, 1) := by decide +kernel
theorem d_M_does_1 : decode c_M_does 1 = .ok (.aload_n 0, 1) := by decide +kernel
theorem d_M_does_2 : decode c_M_does 2 = .ok (.getfield 63, 3) := by decide +kernel
theorem d_M_does_5 : decode c_M_does 5 = .ok (.invokevirtual 76, 3) := by decide +kernel
theorem d_M_does_8 : decode c_M_does 8 = .ok (.istore_n 1, 1) := by decide +kernel
theorem d_M_does_9 : decode c_M_does 9 = .ok (.iload_n 1, 1) := by decide +kernel
theorem d_M_does_10 : decode c_M_does 10 = .ok (.ifCond .le 10, 3) := by decide +kernel
theorem d_M_does_13 : decode c_M_does 13 = .ok (.aload_n 0, 1) := by decide +kernel
theorem d_M_does_14 : decode c_M_does 14 = .ok (.iload_n 1, 1) := by decide +kernel
theorem d_M_does_15 : decode c_M_does 15 = .ok (.invokevirtual 97, 3) := by decide +kernel
theorem d_M_does_18 : decode c_M_does 18 = .ok (.iconst 0, 1) := by decide +kernel
theorem d_M_does_19 : decode c_M_does 19 = .ok (.ireturn, 1) := by decide +kernel
theorem d_M_does_20 : decode c_M_does 20 = .ok (.aload_n 0, 1) := by decide +kernel
theorem d_M_does_21 : decode c_M_does 21 = .ok (.aload_n 0, 1) := by decide +kernel
theorem d_M_does_22 : decode c_M_does 22 = .ok (.getfield 63, 3) := by decide +kernel
theorem d_M_does_25 : decode c_M_does 25 = .ok (.invokevirtual 69, 3) := by decide +kernel
theorem d_M_does_28 : decode c_M_does 28 = .ok (.istore_n 2, 1) := by decide +kernel
theorem d_M_does_29 : decode c_M_does 29 = .ok (.aload_n 0, 1) := by decide +kernel
theorem d_M_does_30 : decode c_M_does 30 = .ok (.getfield 7, 3) := by decide +kernel
theorem d_M_does_33 : decode c_M_does 33 = .ok (.aload_n 0, 1) := by decide +kernel
theorem d_M_does_34 : decode c_M_does 34 = .ok (.getfield 63, 3) := by decide +kernel
theorem d_M_does_37 : decode c_M_does 37 = .ok (.iaload, 1) := by decide +kernel
theorem d_M_does_38 : decode c_M_does 38 = .ok (.bipush 7, 2) := by decide +kernel
theorem d_M_does_40 : decode c_M_does 40 = .ok (.iand, 1) := by decide +kernel
theorem d_M_does_41 : decode c_M_does 41 = .ok (.istore_n 3, 1) := by decide +kernel
theorem d_M_does_42 : decode c_M_does 42 = .ok (.iload_n 2, 1) := by decide +kernel
theorem d_M_does_43 : decode c_M_does 43 = .ok (.invokestatic 73, 3) := by decide +kernel
theorem d_M_does_46 : decode c_M_does 46 = .ok (.iconst 2, 1) := by decide +kernel
theorem d_M_does_47 : decode c_M_does 47 = .ok (.if_icmp .ne 17, 3) := by decide +kernel
theorem d_M_does_50 : decode c_M_does 50 = .ok (.aload_n 0, 1) := by decide +kernel
theorem d_M_does_51 : decode c_M_does 51 = .ok (.getfield 7, 3) := by decide +kernel
theorem d_M_does_54 : decode c_M_does 54 = .ok (.aload_n 0, 1) := by decide +kernel
theorem d_M_does_55 : decode c_M_does 55 = .ok (.getfield 63, 3) := by decide +kernel
theorem d_M_does_58 : decode c_M_does 58 = .ok (.iconst 1, 1) := by decide +kernel
theorem d_M_does_59 : decode c_M_does 59 = .ok (.iadd, 1) := by decide +kernel
theorem d_M_does_60 : decode c_M_does 60 = .ok (.iaload, 1) := by decide +kernel
theorem d_M_does_61 : decode c_M_does 61 = .ok (.goto 4, 3) := by decide +kernel
theorem d_M_does_64 : decode c_M_does 64 = .ok (.iconst 0, 1) := by decide +kernel
theorem d_M_does_65 : decode c_M_does 65 = .ok (.istore 4, 2) := by decide +kernel
theorem d_M_does_67 : decode c_M_does 67 = .ok (.aload_n 0, 1) := by decide +kernel
theorem d_M_does_68 : decode c_M_does 68 = .ok (.getfield 13, 3) := by decide +kernel
theorem d_M_does_71 : decode c_M_does 71 = .ok (.iload 4, 2) := by decide +kernel
theorem d_M_does_73 : decode c_M_does 73 = .ok (.bipush 7, 2) := by decide +kernel
theorem d_M_does_75 : decode c_M_does 75 = .ok (.iand, 1) := by decide +kernel
theorem d_M_does_76 : decode c_M_does 76 = .ok (.iaload, 1) := by decide +kernel
theorem d_M_does_77 : decode c_M_does 77 = .ok (.istore 5, 2) := by decide +kernel
theorem d_M_does_79 : decode c_M_does 79 = .ok (.iload_n 2, 1) := by decide +kernel
theorem d_M_does_80 : decode c_M_does 80 = .ok (.ifCond .ne 10, 3) := by decide +kernel
