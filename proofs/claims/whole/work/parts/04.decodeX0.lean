theorem d_X_init_0 : decode c_X_init 0 = .ok (.aload_n 0, 1) := by decide +kernel
theorem d_X_init_1 : decode c_X_init 1 = .ok (.invokespecial 1, 3) := by decide +kernel
theorem d_X_init_4 : decode c_X_init 4 = .ok (.aload_n 0, 1) := by decide +kernel
theorem d_X_init_5 : decode c_X_init 5 = .ok (.sipush 1024, 3) := by decide +kernel
theorem d_X_init_8 : decode c_X_init 8 = .ok (.newarray .int, 2) := by decide +kernel
theorem d_X_init_10 : decode c_X_init 10 = .ok (.putfield 9, 3) := by decide +kernel
theorem d_X_init_13 : decode c_X_init 13 = .ok (.aload_n 0, 1) := by decide +kernel
theorem d_X_init_14 : decode c_X_init 14 = .ok (.bipush 8, 2) := by decide +kernel
theorem d_X_init_16 : decode c_X_init 16 = .ok (.newarray .int, 2) := by decide +kernel
theorem d_X_init_18 : decode c_X_init 18 = .ok (.putfield 13, 3) := by decide +kernel
theorem d_X_init_21 : decode c_X_init 21 = .ok (.aload_n 0, 1) := by decide +kernel
theorem d_X_init_22 : decode c_X_init 22 = .ok (.bipush 32, 2) := by decide +kernel
theorem d_X_init_24 : decode c_X_init 24 = .ok (.anewarray 16, 3) := by decide +kernel
theorem d_X_init_27 : decode c_X_init 27 = .ok (.putfield 18, 3) := by decide +kernel
theorem d_X_init_30 : decode c_X_init 30 = .ok (.aload_n 0, 1) := by decide +kernel
theorem d_X_init_31 : decode c_X_init 31 = .ok (.iconst 0, 1) := by decide +kernel
theorem d_X_init_32 : decode c_X_init 32 = .ok (.putfield 22, 3) := by decide +kernel
theorem d_X_init_35 : decode c_X_init 35 = .ok (.aload_n 0, 1) := by decide +kernel
theorem d_X_init_36 : decode c_X_init 36 = .ok (.iconst 0, 1) := by decide +kernel
theorem d_X_init_37 : decode c_X_init 37 = .ok (.putfield 26, 3) := by decide +kernel
theorem d_X_init_40 : decode c_X_init 40 = .ok (.aload_n 0, 1) := by decide +kernel
theorem d_X_init_41 : decode c_X_init 41 = .ok (.iconst 1, 1) := by decide +kernel
theorem d_X_init_42 : decode c_X_init 42 = .ok (.putfield 29, 3) := by decide +kernel
theorem d_X_init_45 : decode c_X_init 45 = .ok (.iconst 0, 1) := by decide +kernel
theorem d_X_init_46 : decode c_X_init 46 = .ok (.istore_n 1, 1) := by decide +kernel
theorem d_X_init_47 : decode c_X_init 47 = .ok (.iload_n 1, 1) := by decide +kernel
theorem d_X_init_48 : decode c_X_init 48 = .ok (.bipush 32, 2) := by decide +kernel
theorem d_X_init_50 : decode c_X_init 50 = .ok (.if_icmp .ge 22, 3) := by decide +kernel
theorem d_X_init_53 : decode c_X_init 53 = .ok (.aload_n 0, 1) := by decide +kernel
theorem d_X_init_54 : decode c_X_init 54 = .ok (.getfield 18, 3) := by decide +kernel
theorem d_X_init_57 : decode c_X_init 57 = .ok (.iload_n 1, 1) := by decide +kernel
theorem d_X_init_58 : decode c_X_init 58 = .ok (.new 16, 3) := by decide +kernel
theorem d_X_init_61 : decode c_X_init 61 = .ok (.dup, 1) := by decide +kernel
theorem d_X_init_62 : decode c_X_init 62 = .ok (.invokespecial 32, 3) := by decide +kernel
theorem d_X_init_65 : decode c_X_init 65 = .ok (.aastore, 1) := by decide +kernel
theorem d_X_init_66 : decode c_X_init 66 = .ok (.iinc 1 1, 3) := by decide +kernel
theorem d_X_init_69 : decode c_X_init 69 = .ok (.goto (-22), 3) := by decide +kernel
theorem d_X_init_72 : decode c_X_init 72 = .ok (.return_, 1) := by decide +kernel
theorem d_X_poke_0 : decode c_X_poke 0 = .ok (.iload_n 1, 1) := by decide +kernel
theorem d_X_poke_1 : decode c_X_poke 1 = .ok (.invokestatic 33, 3) := by decide +kernel
theorem d_X_poke_4 : decode c_X_poke 4 = .ok (.ifCond .ne 13, 3) := by decide +kernel
theorem d_X_poke_7 : decode c_X_poke 7 = .ok (.new 37, 3) := by decide +kernel
theorem d_X_poke_10 : decode c_X_poke 10 = .ok (.dup, 1) := by decide +kernel
theorem d_X_poke_11 : decode c_X_poke 11 = .ok (.ldc 39, 2) := by decide +kernel
theorem d_X_poke_13 : decode c_X_poke 13 = .ok (.invokespecial 41, 3) := by decide +kernel
theorem d_X_poke_16 : decode c_X_poke 16 = .ok (.athrow, 1) := by decide +kernel
theorem d_X_poke_17 : decode c_X_poke 17 = .ok (.iload_n 2, 1) := by decide +kernel
theorem d_X_poke_18 : decode c_X_poke 18 = .ok (.ifCond .lt 10, 3) := by decide +kernel
theorem d_X_poke_21 : decode c_X_poke 21 = .ok (.iload_n 2, 1) := by decide +kernel
theorem d_X_poke_22 : decode c_X_poke 22 = .ok (.sipush 255, 3) := by decide +kernel
theorem d_X_poke_25 : decode c_X_poke 25 = .ok (.if_icmp .le 13, 3) := by decide +kernel
theorem d_X_poke_28 : decode c_X_poke 28 = .ok (.new 44, 3) := by decide +kernel
theorem d_X_poke_31 : decode c_X_poke 31 = .ok (.dup, 1) := by decide +kernel
theorem d_X_poke_32 : decode c_X_poke 32 = .ok (.ldc 46, 2) := by decide +kernel
theorem d_X_poke_34 : decode c_X_poke 34 = .ok (.invokespecial 48, 3) := by decide +kernel
theorem d_X_poke_37 : decode c_X_poke 37 = .ok (.athrow, 1) := by decide +kernel
theorem d_X_poke_38 : decode c_X_poke 38 = .ok (.aload_n 0, 1) := by decide +kernel
theorem d_X_poke_39 : decode c_X_poke 39 = .ok (.getfield 9, 3) := by decide +kernel
theorem d_X_poke_42 : decode c_X_poke 42 = .ok (.iload_n 1, 1) := by decide +kernel
theorem d_X_poke_43 : decode c_X_poke 43 = .ok (.iaload, 1) := by decide +kernel
theorem d_X_poke_44 : decode c_X_poke 44 = .ok (.istore_n 3, 1) := by decide +kernel
theorem d_X_poke_45 : decode c_X_poke 45 = .ok (.aload_n 0, 1) := by decide +kernel
theorem d_X_poke_46 : decode c_X_poke 46 = .ok (.iload_n 1, 1) := by decide +kernel
theorem d_X_poke_47 : decode c_X_poke 47 = .ok (.iload_n 2, 1) := by decide +kernel
theorem d_X_poke_48 : decode c_X_poke 48 = .ok (.invokevirtual 49, 3) := by decide +kernel
theorem d_X_poke_51 : decode c_X_poke 51 = .ok (.iload_n 3, 1) := by decide +kernel
theorem d_X_poke_52 : decode c_X_poke 52 = .ok (.ireturn, 1) := by decide +kernel
theorem d_X_pokeFour_0 : decode c_X_pokeFour 0 = .ok (.iload_n 1, 1) := by decide +kernel
theorem d_X_pokeFour_1 : decode c_X_pokeFour 1 = .ok (.invokestatic 33, 3) := by decide +kernel
theorem d_X_pokeFour_4 : decode c_X_pokeFour 4 = .ok (.ifCond .ne 13, 3) := by decide +kernel
theorem d_X_pokeFour_7 : decode c_X_pokeFour 7 = .ok (.new 37, 3) := by decide +kernel
theorem d_X_pokeFour_10 : decode c_X_pokeFour 10 = .ok (.dup, 1) := by decide +kernel
theorem d_X_pokeFour_11 : decode c_X_pokeFour 11 = .ok (.ldc 53, 2) := by decide +kernel
theorem d_X_pokeFour_13 : decode c_X_pokeFour 13 = .ok (.invokespecial 41, 3) := by decide +kernel
theorem d_X_pokeFour_16 : decode c_X_pokeFour 16 = .ok (.athrow, 1) := by decide +kernel
theorem d_X_pokeFour_17 : decode c_X_pokeFour 17 = .ok (.iconst 4, 1) := by decide +kernel
theorem d_X_pokeFour_18 : decode c_X_pokeFour 18 = .ok (.sipush 1024, 3) := by decide +kernel
theorem d_X_pokeFour_21 : decode c_X_pokeFour 21 = .ok (.iload_n 1, 1) := by decide +kernel
theorem d_X_pokeFour_22 : decode c_X_pokeFour 22 = .ok (.isub, 1) := by decide +kernel
theorem d_X_pokeFour_23 : decode c_X_pokeFour 23 = .ok (.invokestatic 55, 3) := by decide +kernel
theorem d_X_pokeFour_26 : decode c_X_pokeFour 26 = .ok (.istore_n 3, 1) := by decide +kernel
theorem d_X_pokeFour_27 : decode c_X_pokeFour 27 = .ok (.iconst 0, 1) := by decide +kernel
theorem d_X_pokeFour_28 : decode c_X_pokeFour 28 = .ok (.istore 4, 2) := by decide +kernel
theorem d_X_pokeFour_30 : decode c_X_pokeFour 30 = .ok (.iload 4, 2) := by decide +kernel
theorem d_X_pokeFour_32 : decode c_X_pokeFour 32 = .ok (.iload_n 3, 1) := by decide +kernel
theorem d_X_pokeFour_33 : decode c_X_pokeFour 33 = .ok (.if_icmp .ge 31, 3) := by decide +kernel
theorem d_X_pokeFour_36 : decode c_X_pokeFour 36 = .ok (.aload_n 0, 1) := by decide +kernel
theorem d_X_pokeFour_37 : decode c_X_pokeFour 37 = .ok (.iload_n 1, 1) := by decide +kernel
theorem d_X_pokeFour_38 : decode c_X_pokeFour 38 = .ok (.iload 4, 2) := by decide +kernel
theorem d_X_pokeFour_40 : decode c_X_pokeFour 40 = .ok (.iadd, 1) := by decide +kernel
theorem d_X_pokeFour_41 : decode c_X_pokeFour 41 = .ok (.iload_n 2, 1) := by decide +kernel
theorem d_X_pokeFour_42 : decode c_X_pokeFour 42 = .ok (.bipush 24, 2) := by decide +kernel
theorem d_X_pokeFour_44 : decode c_X_pokeFour 44 = .ok (.bipush 8, 2) := by decide +kernel
theorem d_X_pokeFour_46 : decode c_X_pokeFour 46 = .ok (.iload 4, 2) := by decide +kernel
theorem d_X_pokeFour_48 : decode c_X_pokeFour 48 = .ok (.imul, 1) := by decide +kernel
theorem d_X_pokeFour_49 : decode c_X_pokeFour 49 = .ok (.isub, 1) := by decide +kernel
theorem d_X_pokeFour_50 : decode c_X_pokeFour 50 = .ok (.iushr, 1) := by decide +kernel
theorem d_X_pokeFour_51 : decode c_X_pokeFour 51 = .ok (.sipush 255, 3) := by decide +kernel
theorem d_X_pokeFour_54 : decode c_X_pokeFour 54 = .ok (.iand, 1) := by decide +kernel
theorem d_X_pokeFour_55 : decode c_X_pokeFour 55 = .ok (.invokevirtual 49, 3) := by decide +kernel
theorem d_X_pokeFour_58 : decode c_X_pokeFour 58 = .ok (.iinc 4 1, 3) := by decide +kernel
theorem d_X_pokeFour_61 : decode c_X_pokeFour 61 = .ok (.goto (-31), 3) := by decide +kernel
theorem d_X_pokeFour_64 : decode c_X_pokeFour 64 = .ok (.iload_n 3, 1) := by decide +kernel
theorem d_X_pokeFour_65 : decode c_X_pokeFour 65 = .ok (.ireturn, 1) := by decide +kernel
theorem d_X_set_0 : decode c_X_set 0 = .ok (.iload_n 1, 1) := by decide +kernel
theorem d_X_set_1 : decode c_X_set 1 = .ok (.ifCond .lt 9, 3) := by decide +kernel
theorem d_X_set_4 : decode c_X_set 4 = .ok (.iload_n 1, 1) := by decide +kernel
theorem d_X_set_5 : decode c_X_set 5 = .ok (.bipush 8, 2) := by decide +kernel
theorem d_X_set_7 : decode c_X_set 7 = .ok (.if_icmp .lt 13, 3) := by decide +kernel
theorem d_X_set_10 : decode c_X_set 10 = .ok (.new 37, 3) := by decide +kernel
theorem d_X_set_13 : decode c_X_set 13 = .ok (.dup, 1) := by decide +kernel
theorem d_X_set_14 : decode c_X_set 14 = .ok (.ldc 61, 2) := by decide +kernel
theorem d_X_set_16 : decode c_X_set 16 = .ok (.invokespecial 41, 3) := by decide +kernel
theorem d_X_set_19 : decode c_X_set 19 = .ok (.athrow, 1) := by decide +kernel
theorem d_X_set_20 : decode c_X_set 20 = .ok (.aload_n 0, 1) := by decide +kernel
theorem d_X_set_21 : decode c_X_set 21 = .ok (.getfield 13, 3) := by decide +kernel
theorem d_X_set_24 : decode c_X_set 24 = .ok (.iload_n 1, 1) := by decide +kernel
theorem d_X_set_25 : decode c_X_set 25 = .ok (.iaload, 1) := by decide +kernel
theorem d_X_set_26 : decode c_X_set 26 = .ok (.istore_n 3, 1) := by decide +kernel
theorem d_X_set_27 : decode c_X_set 27 = .ok (.aload_n 0, 1) := by decide +kernel
theorem d_X_set_28 : decode c_X_set 28 = .ok (.getfield 13, 3) := by decide +kernel
theorem d_X_set_31 : decode c_X_set 31 = .ok (.iload_n 1, 1) := by decide +kernel
theorem d_X_set_32 : decode c_X_set 32 = .ok (.iload_n 2, 1) := by decide +kernel
theorem d_X_set_33 : decode c_X_set 33 = .ok (.iastore, 1) := by decide +kernel
theorem d_X_set_34 : decode c_X_set 34 = .ok (.iload_n 3, 1) := by decide +kernel
theorem d_X_set_35 : decode c_X_set 35 = .ok (.ireturn, 1) := by decide +kernel
theorem d_X_go_0 : decode c_X_go 0 = .ok (.iload_n 1, 1) := by decide +kernel
theorem d_X_go_1 : decode c_X_go 1 = .ok (.invokestatic 33, 3) := by decide +kernel
theorem d_X_go_4 : decode c_X_go 4 = .ok (.ifCond .ne 13, 3) := by decide +kernel
theorem d_X_go_7 : decode c_X_go 7 = .ok (.new 37, 3) := by decide +kernel
theorem d_X_go_10 : decode c_X_go 10 = .ok (.dup, 1) := by decide +kernel
theorem d_X_go_11 : decode c_X_go 11 = .ok (.ldc 53, 2) := by decide +kernel
theorem d_X_go_13 : decode c_X_go 13 = .ok (.invokespecial 41, 3) := by decide +kernel
theorem d_X_go_16 : decode c_X_go 16 = .ok (.athrow, 1) := by decide +kernel
theorem d_X_go_17 : decode c_X_go 17 = .ok (.aload_n 0, 1) := by decide +kernel
theorem d_X_go_18 : decode c_X_go 18 = .ok (.getfield 22, 3) := by decide +kernel
theorem d_X_go_21 : decode c_X_go 21 = .ok (.istore_n 2, 1) := by decide +kernel
theorem d_X_go_22 : decode c_X_go 22 = .ok (.aload_n 0, 1) := by decide +kernel
theorem d_X_go_23 : decode c_X_go 23 = .ok (.iload_n 1, 1) := by decide +kernel
theorem d_X_go_24 : decode c_X_go 24 = .ok (.putfield 22, 3) := by decide +kernel
theorem d_X_go_27 : decode c_X_go 27 = .ok (.aload_n 0, 1) := by decide +kernel
theorem d_X_go_28 : decode c_X_go 28 = .ok (.iconst 0, 1) := by decide +kernel
theorem d_X_go_29 : decode c_X_go 29 = .ok (.putfield 26, 3) := by decide +kernel
theorem d_X_go_32 : decode c_X_go 32 = .ok (.iload_n 2, 1) := by decide +kernel
theorem d_X_go_33 : decode c_X_go 33 = .ok (.ireturn, 1) := by decide +kernel
theorem d_X_run_0 : decode c_X_run 0 = .ok (.iload_n 1, 1) := by decide +kernel
theorem d_X_run_1 : decode c_X_run 1 = .ok (.iconst 1, 1) := by decide +kernel
theorem d_X_run_2 : decode c_X_run 2 = .ok (.if_icmp .lt 9, 3) := by decide +kernel
theorem d_X_run_5 : decode c_X_run 5 = .ok (.iload_n 1, 1) := by decide +kernel
theorem d_X_run_6 : decode c_X_run 6 = .ok (.bipush 100, 2) := by decide +kernel
theorem d_X_run_8 : decode c_X_run 8 = .ok (.if_icmp .le 13, 3) := by decide +kernel
theorem d_X_run_11 : decode c_X_run 11 = .ok (.new 44, 3) := by decide +kernel
theorem d_X_run_14 : decode c_X_run 14 = .ok (.dup, 1) := by decide +kernel
theorem d_X_run_15 : decode c_X_run 15 = .ok (.ldc 63, 2) := by decide +kernel
theorem d_X_run_17 : decode c_X_run 17 = .ok (.invokespecial 48, 3) := by decide +kernel
theorem d_X_run_20 : decode c_X_run 20 = .ok (.athrow, 1) := by decide +kernel
theorem d_X_run_21 : decode c_X_run 21 = .ok (.iconst 0, 1) := by decide +kernel
theorem d_X_run_22 : decode c_X_run 22 = .ok (.istore_n 2, 1) := by decide +kernel
theorem d_X_run_23 : decode c_X_run 23 = .ok (.iconst 0, 1) := by decide +kernel
theorem d_X_run_24 : decode c_X_run 24 = .ok (.istore_n 3, 1) := by decide +kernel
theorem d_X_run_25 : decode c_X_run 25 = .ok (.iload_n 3, 1) := by decide +kernel
theorem d_X_run_26 : decode c_X_run 26 = .ok (.iload_n 1, 1) := by decide +kernel
theorem d_X_run_27 : decode c_X_run 27 = .ok (.if_icmp .ge 31, 3) := by decide +kernel
theorem d_X_run_30 : decode c_X_run 30 = .ok (.iload_n 2, 1) := by decide +kernel
theorem d_X_run_31 : decode c_X_run 31 = .ok (.iload_n 1, 1) := by decide +kernel
theorem d_X_run_32 : decode c_X_run 32 = .ok (.if_icmp .ge 26, 3) := by decide +kernel
theorem d_X_run_35 : decode c_X_run 35 = .ok (.aload_n 0, 1) := by decide +kernel
theorem d_X_run_36 : decode c_X_run 36 = .ok (.getfield 26, 3) := by decide +kernel
theorem d_X_run_39 : decode c_X_run 39 = .ok (.ifCond .ne 19, 3) := by decide +kernel
theorem d_X_run_42 : decode c_X_run 42 = .ok (.iload_n 2, 1) := by decide +kernel
theorem d_X_run_43 : decode c_X_run 43 = .ok (.aload_n 0, 1) := by decide +kernel
theorem d_X_run_44 : decode c_X_run 44 = .ok (.iload_n 1, 1) := by decide +kernel
theorem d_X_run_45 : decode c_X_run 45 = .ok (.iload_n 2, 1) := by decide +kernel
theorem d_X_run_46 : decode c_X_run 46 = .ok (.isub, 1) := by decide +kernel
theorem d_X_run_47 : decode c_X_run 47 = .ok (.invokevirtual 65, 3) := by decide +kernel
theorem d_X_run_50 : decode c_X_run 50 = .ok (.iadd, 1) := by decide +kernel
theorem d_X_run_51 : decode c_X_run 51 = .ok (.istore_n 2, 1) := by decide +kernel
theorem d_X_run_52 : decode c_X_run 52 = .ok (.iinc 3 1, 3) := by decide +kernel
theorem d_X_run_55 : decode c_X_run 55 = .ok (.goto (-30), 3) := by decide +kernel
theorem d_X_run_58 : decode c_X_run 58 = .ok (.iload_n 2, 1) := by decide +kernel
theorem d_X_run_59 : decode c_X_run 59 = .ok (.ireturn, 1) := by decide +kernel
theorem d_X_memory_0 : decode c_X_memory 0 = .ok (.iload_n 1, 1) := by decide +kernel
theorem d_X_memory_1 : decode c_X_memory 1 = .ok (.invokestatic 33, 3) := by decide +kernel
theorem d_X_memory_4 : decode c_X_memory 4 = .ok (.ifCond .ne 13, 3) := by decide +kernel
theorem d_X_memory_7 : decode c_X_memory 7 = .ok (.new 37, 3) := by decide +kernel
theorem d_X_memory_10 : decode c_X_memory 10 = .ok (.dup, 1) := by decide +kernel
theorem d_X_memory_11 : decode c_X_memory 11 = .ok (.ldc 39, 2) := by decide +kernel
theorem d_X_memory_13 : decode c_X_memory 13 = .ok (.invokespecial 41, 3) := by decide +kernel
theorem d_X_memory_16 : decode c_X_memory 16 = .ok (.athrow, 1) := by decide +kernel
theorem d_X_memory_17 : decode c_X_memory 17 = .ok (.aload_n 0, 1) := by decide +kernel
theorem d_X_memory_18 : decode c_X_memory 18 = .ok (.getfield 9, 3) := by decide +kernel
theorem d_X_memory_21 : decode c_X_memory 21 = .ok (.iload_n 1, 1) := by decide +kernel
theorem d_X_memory_22 : decode c_X_memory 22 = .ok (.iaload, 1) := by decide +kernel
theorem d_X_memory_23 : decode c_X_memory 23 = .ok (.ireturn, 1) := by decide +kernel
theorem d_X_register_0 : decode c_X_register 0 = .ok (.iload_n 1, 1) := by decide +kernel
theorem d_X_register_1 : decode c_X_register 1 = .ok (.ifCond .lt 9, 3) := by decide +kernel
theorem d_X_register_4 : decode c_X_register 4 = .ok (.iload_n 1, 1) := by decide +kernel
theorem d_X_register_5 : decode c_X_register 5 = .ok (.bipush 11, 2) := by decide +kernel
theorem d_X_register_7 : decode c_X_register 7 = .ok (.if_icmp .le 13, 3) := by decide +kernel
theorem d_X_register_10 : decode c_X_register 10 = .ok (.new 37, 3) := by decide +kernel
theorem d_X_register_13 : decode c_X_register 13 = .ok (.dup, 1) := by decide +kernel
theorem d_X_register_14 : decode c_X_register 14 = .ok (.ldc 61, 2) := by decide +kernel
theorem d_X_register_16 : decode c_X_register 16 = .ok (.invokespecial 41, 3) := by decide +kernel
theorem d_X_register_19 : decode c_X_register 19 = .ok (.athrow, 1) := by decide +kernel
theorem d_X_register_20 : decode c_X_register 20 = .ok (.iload_n 1, 1) := by decide +kernel
theorem d_X_register_21 : decode c_X_register 21 = .ok (.tableswitch 67 8 11 #[31, 36, 49, 62], 31) := by decide +kernel
theorem d_X_register_52 : decode c_X_register 52 = .ok (.aload_n 0, 1) := by decide +kernel
theorem d_X_register_53 : decode c_X_register 53 = .ok (.getfield 22, 3) := by decide +kernel
theorem d_X_register_56 : decode c_X_register 56 = .ok (.ireturn, 1) := by decide +kernel
theorem d_X_register_57 : decode c_X_register 57 = .ok (.aload_n 0, 1) := by decide +kernel
theorem d_X_register_58 : decode c_X_register 58 = .ok (.invokevirtual 69, 3) := by decide +kernel
theorem d_X_register_61 : decode c_X_register 61 = .ok (.ifCond .eq 7, 3) := by decide +kernel
theorem d_X_register_64 : decode c_X_register 64 = .ok (.iconst 1, 1) := by decide +kernel
theorem d_X_register_65 : decode c_X_register 65 = .ok (.goto 4, 3) := by decide +kernel
theorem d_X_register_68 : decode c_X_register 68 = .ok (.iconst 0, 1) := by decide +kernel
theorem d_X_register_69 : decode c_X_register 69 = .ok (.ireturn, 1) := by decide +kernel
theorem d_X_register_70 : decode c_X_register 70 = .ok (.aload_n 0, 1) := by decide +kernel
theorem d_X_register_71 : decode c_X_register 71 = .ok (.invokevirtual 73, 3) := by decide +kernel
theorem d_X_register_74 : decode c_X_register 74 = .ok (.ifCond .eq 7, 3) := by decide +kernel
theorem d_X_register_77 : decode c_X_register 77 = .ok (.iconst 1, 1) := by decide +kernel
theorem d_X_register_78 : decode c_X_register 78 = .ok (.goto 4, 3) := by decide +kernel
theorem d_X_register_81 : decode c_X_register 81 = .ok (.iconst 0, 1) := by decide +kernel
theorem d_X_register_82 : decode c_X_register 82 = .ok (.ireturn, 1) := by decide +kernel
theorem d_X_register_83 : decode c_X_register 83 = .ok (.aload_n 0, 1) := by decide +kernel
theorem d_X_register_84 : decode c_X_register 84 = .ok (.getfield 26, 3) := by decide +kernel
theorem d_X_register_87 : decode c_X_register 87 = .ok (.ireturn, 1) := by decide +kernel
theorem d_X_register_88 : decode c_X_register 88 = .ok (.aload_n 0, 1) := by decide +kernel
theorem d_X_register_89 : decode c_X_register 89 = .ok (.getfield 13, 3) := by decide +kernel
theorem d_X_register_92 : decode c_X_register 92 = .ok (.iload_n 1, 1) := by decide +kernel
theorem d_X_register_93 : decode c_X_register 93 = .ok (.bipush 7, 2) := by decide +kernel
theorem d_X_register_95 : decode c_X_register 95 = .ok (.iand, 1) := by decide +kernel
theorem d_X_register_96 : decode c_X_register 96 = .ok (.iaload, 1) := by decide +kernel
theorem d_X_register_97 : decode c_X_register 97 = .ok (.ireturn, 1) := by decide +kernel
theorem d_X_row_0 : decode c_X_row 0 = .ok (.iload_n 1, 1) := by decide +kernel
theorem d_X_row_1 : decode c_X_row 1 = .ok (.ifCond .lt 18, 3) := by decide +kernel
theorem d_X_row_4 : decode c_X_row 4 = .ok (.iload_n 1, 1) := by decide +kernel
theorem d_X_row_5 : decode c_X_row 5 = .ok (.bipush 32, 2) := by decide +kernel
theorem d_X_row_7 : decode c_X_row 7 = .ok (.if_icmp .ge 12, 3) := by decide +kernel
theorem d_X_row_10 : decode c_X_row 10 = .ok (.iload_n 2, 1) := by decide +kernel
theorem d_X_row_11 : decode c_X_row 11 = .ok (.ifCond .lt 8, 3) := by decide +kernel
theorem d_X_row_14 : decode c_X_row 14 = .ok (.iload_n 2, 1) := by decide +kernel
theorem d_X_row_15 : decode c_X_row 15 = .ok (.iconst 2, 1) := by decide +kernel
theorem d_X_row_16 : decode c_X_row 16 = .ok (.if_icmp .le 13, 3) := by decide +kernel
theorem d_X_row_19 : decode c_X_row 19 = .ok (.new 37, 3) := by decide +kernel
theorem d_X_row_22 : decode c_X_row 22 = .ok (.dup, 1) := by decide +kernel
theorem d_X_row_23 : decode c_X_row 23 = .ok (.ldc 76, 2) := by decide +kernel
theorem d_X_row_25 : decode c_X_row 25 = .ok (.invokespecial 41, 3) := by decide +kernel
theorem d_X_row_28 : decode c_X_row 28 = .ok (.athrow, 1) := by decide +kernel
theorem d_X_row_29 : decode c_X_row 29 = .ok (.aload_n 0, 1) := by decide +kernel
theorem d_X_row_30 : decode c_X_row 30 = .ok (.getfield 18, 3) := by decide +kernel
theorem d_X_row_33 : decode c_X_row 33 = .ok (.iload_n 1, 1) := by decide +kernel
theorem d_X_row_34 : decode c_X_row 34 = .ok (.aaload, 1) := by decide +kernel
theorem d_X_row_35 : decode c_X_row 35 = .ok (.astore_n 3, 1) := by decide +kernel
theorem d_X_row_36 : decode c_X_row 36 = .ok (.iload_n 2, 1) := by decide +kernel
theorem d_X_row_37 : decode c_X_row 37 = .ok (.lookupswitch 48 #[(0, 27), (1, 43)], 27) := by decide +kernel
theorem d_X_row_64 : decode c_X_row 64 = .ok (.aload_n 3, 1) := by decide +kernel
theorem d_X_row_65 : decode c_X_row 65 = .ok (.invokevirtual 78, 3) := by decide +kernel
theorem d_X_row_68 : decode c_X_row 68 = .ok (.ifCond .eq 10, 3) := by decide +kernel
theorem d_X_row_71 : decode c_X_row 71 = .ok (.aload_n 3, 1) := by decide +kernel
theorem d_X_row_72 : decode c_X_row 72 = .ok (.getfield 81, 3) := by decide +kernel
theorem d_X_row_75 : decode c_X_row 75 = .ok (.goto 4, 3) := by decide +kernel
theorem d_X_row_78 : decode c_X_row 78 = .ok (.iconst (-1), 1) := by decide +kernel
theorem d_X_row_79 : decode c_X_row 79 = .ok (.ireturn, 1) := by decide +kernel
theorem d_X_row_80 : decode c_X_row 80 = .ok (.aload_n 3, 1) := by decide +kernel
theorem d_X_row_81 : decode c_X_row 81 = .ok (.getfield 84, 3) := by decide +kernel
theorem d_X_row_84 : decode c_X_row 84 = .ok (.ireturn, 1) := by decide +kernel
theorem d_X_row_85 : decode c_X_row 85 = .ok (.aload_n 3, 1) := by decide +kernel
theorem d_X_row_86 : decode c_X_row 86 = .ok (.getfield 87, 3) := by decide +kernel
theorem d_X_row_89 : decode c_X_row 89 = .ok (.ireturn, 1) := by decide +kernel
theorem d_X_forget_0 : decode c_X_forget 0 = .ok (.iconst 0, 1) := by decide +kernel
theorem d_X_forget_1 : decode c_X_forget 1 = .ok (.istore_n 1, 1) := by decide +kernel
theorem d_X_forget_2 : decode c_X_forget 2 = .ok (.iconst 0, 1) := by decide +kernel
theorem d_X_forget_3 : decode c_X_forget 3 = .ok (.istore_n 2, 1) := by decide +kernel
theorem d_X_forget_4 : decode c_X_forget 4 = .ok (.iload_n 2, 1) := by decide +kernel
theorem d_X_forget_5 : decode c_X_forget 5 = .ok (.bipush 32, 2) := by decide +kernel
theorem d_X_forget_7 : decode c_X_forget 7 = .ok (.if_icmp .ge 34, 3) := by decide +kernel
theorem d_X_forget_10 : decode c_X_forget 10 = .ok (.aload_n 0, 1) := by decide +kernel
theorem d_X_forget_11 : decode c_X_forget 11 = .ok (.getfield 18, 3) := by decide +kernel
theorem d_X_forget_14 : decode c_X_forget 14 = .ok (.iload_n 2, 1) := by decide +kernel
theorem d_X_forget_15 : decode c_X_forget 15 = .ok (.aaload, 1) := by decide +kernel
theorem d_X_forget_16 : decode c_X_forget 16 = .ok (.invokevirtual 78, 3) := by decide +kernel
theorem d_X_forget_19 : decode c_X_forget 19 = .ok (.ifCond .eq 16, 3) := by decide +kernel
theorem d_X_forget_22 : decode c_X_forget 22 = .ok (.aload_n 0, 1) := by decide +kernel
theorem d_X_forget_23 : decode c_X_forget 23 = .ok (.aload_n 0, 1) := by decide +kernel
theorem d_X_forget_24 : decode c_X_forget 24 = .ok (.getfield 18, 3) := by decide +kernel
theorem d_X_forget_27 : decode c_X_forget 27 = .ok (.iload_n 2, 1) := by decide +kernel
theorem d_X_forget_28 : decode c_X_forget 28 = .ok (.aaload, 1) := by decide +kernel
theorem d_X_forget_29 : decode c_X_forget 29 = .ok (.invokevirtual 90, 3) := by decide +kernel
theorem d_X_forget_32 : decode c_X_forget 32 = .ok (.iinc 1 1, 3) := by decide +kernel
theorem d_X_forget_35 : decode c_X_forget 35 = .ok (.iinc 2 1, 3) := by decide +kernel
theorem d_X_forget_38 : decode c_X_forget 38 = .ok (.goto (-34), 3) := by decide +kernel
theorem d_X_forget_41 : decode c_X_forget 41 = .ok (.iload_n 1, 1) := by decide +kernel
theorem d_X_forget_42 : decode c_X_forget 42 = .ok (.ireturn, 1) := by decide +kernel
theorem d_X_count_0 : decode c_X_count 0 = .ok (.iload_n 1, 1) := by decide +kernel
theorem d_X_count_1 : decode c_X_count 1 = .ok (.tableswitch 78 0 6 #[43, 48, 53, 58, 63, 68, 73], 43) := by decide +kernel
theorem d_X_count_44 : decode c_X_count 44 = .ok (.aload_n 0, 1) := by decide +kernel
theorem d_X_count_45 : decode c_X_count 45 = .ok (.getfield 94, 3) := by decide +kernel
theorem d_X_count_48 : decode c_X_count 48 = .ok (.ireturn, 1) := by decide +kernel
theorem d_X_count_49 : decode c_X_count 49 = .ok (.aload_n 0, 1) := by decide +kernel
theorem d_X_count_50 : decode c_X_count 50 = .ok (.getfield 97, 3) := by decide +kernel
theorem d_X_count_53 : decode c_X_count 53 = .ok (.ireturn, 1) := by decide +kernel
theorem d_X_count_54 : decode c_X_count 54 = .ok (.aload_n 0, 1) := by decide +kernel
theorem d_X_count_55 : decode c_X_count 55 = .ok (.getfield 100, 3) := by decide +kernel
theorem d_X_count_58 : decode c_X_count 58 = .ok (.ireturn, 1) := by decide +kernel
theorem d_X_count_59 : decode c_X_count 59 = .ok (.aload_n 0, 1) := by decide +kernel
theorem d_X_count_60 : decode c_X_count 60 = .ok (.getfield 103, 3) := by decide +kernel
theorem d_X_count_63 : decode c_X_count 63 = .ok (.ireturn, 1) := by decide +kernel
theorem d_X_count_64 : decode c_X_count 64 = .ok (.aload_n 0, 1) := by decide +kernel
theorem d_X_count_65 : decode c_X_count 65 = .ok (.invokevirtual 106, 3) := by decide +kernel
theorem d_X_count_68 : decode c_X_count 68 = .ok (.ireturn, 1) := by decide +kernel
theorem d_X_count_69 : decode c_X_count 69 = .ok (.aload_n 0, 1) := by decide +kernel
theorem d_X_count_70 : decode c_X_count 70 = .ok (.getfield 110, 3) := by decide +kernel
theorem d_X_count_73 : decode c_X_count 73 = .ok (.ireturn, 1) := by decide +kernel
theorem d_X_count_74 : decode c_X_count 74 = .ok (.aload_n 0, 1) := by decide +kernel
theorem d_X_count_75 : decode c_X_count 75 = .ok (.getfield 113, 3) := by decide +kernel
theorem d_X_count_78 : decode c_X_count 78 = .ok (.ireturn, 1) := by decide +kernel
theorem d_X_count_79 : decode c_X_count 79 = .ok (.iconst (-1), 1) := by decide +kernel
theorem d_X_count_80 : decode c_X_count 80 = .ok (.ireturn, 1) := by decide +kernel
theorem d_X_inMemory_0 : decode c_X_inMemory 0 = .ok (.iload_n 0, 1) := by decide +kernel
theorem d_X_inMemory_1 : decode c_X_inMemory 1 = .ok (.ifCond .lt 14, 3) := by decide +kernel
theorem d_X_inMemory_4 : decode c_X_inMemory 4 = .ok (.iload_n 0, 1) := by decide +kernel
theorem d_X_inMemory_5 : decode c_X_inMemory 5 = .ok (.sipush 1024, 3) := by decide +kernel
theorem d_X_inMemory_8 : decode c_X_inMemory 8 = .ok (.if_icmp .ge 7, 3) := by decide +kernel
theorem d_X_inMemory_11 : decode c_X_inMemory 11 = .ok (.iconst 1, 1) := by decide +kernel
theorem d_X_inMemory_12 : decode c_X_inMemory 12 = .ok (.goto 4, 3) := by decide +kernel
theorem d_X_inMemory_15 : decode c_X_inMemory 15 = .ok (.iconst 0, 1) := by decide +kernel
theorem d_X_inMemory_16 : decode c_X_inMemory 16 = .ok (.ireturn, 1) := by decide +kernel
theorem d_X_isZero_0 : decode c_X_isZero 0 = .ok (.aload_n 0, 1) := by decide +kernel
theorem d_X_isZero_1 : decode c_X_isZero 1 = .ok (.getfield 29, 3) := by decide +kernel
theorem d_X_isZero_4 : decode c_X_isZero 4 = .ok (.ifCond .ne 7, 3) := by decide +kernel
theorem d_X_isZero_7 : decode c_X_isZero 7 = .ok (.iconst 1, 1) := by decide +kernel
theorem d_X_isZero_8 : decode c_X_isZero 8 = .ok (.goto 4, 3) := by decide +kernel
theorem d_X_isZero_11 : decode c_X_isZero 11 = .ok (.iconst 0, 1) := by decide +kernel
theorem d_X_isZero_12 : decode c_X_isZero 12 = .ok (.ireturn, 1) := by decide +kernel
theorem d_X_isBelow_0 : decode c_X_isBelow 0 = .ok (.aload_n 0, 1) := by decide +kernel
theorem d_X_isBelow_1 : decode c_X_isBelow 1 = .ok (.getfield 29, 3) := by decide +kernel
theorem d_X_isBelow_4 : decode c_X_isBelow 4 = .ok (.ifCond .ge 7, 3) := by decide +kernel
theorem d_X_isBelow_7 : decode c_X_isBelow 7 = .ok (.iconst 1, 1) := by decide +kernel
theorem d_X_isBelow_8 : decode c_X_isBelow 8 = .ok (.goto 4, 3) := by decide +kernel
theorem d_X_isBelow_11 : decode c_X_isBelow 11 = .ok (.iconst 0, 1) := by decide +kernel
theorem d_X_isBelow_12 : decode c_X_isBelow 12 = .ok (.ireturn, 1) := by decide +kernel
theorem d_X_keptNow_0 : decode c_X_keptNow 0 = .ok (.iconst 0, 1) := by decide +kernel
theorem d_X_keptNow_1 : decode c_X_keptNow 1 = .ok (.istore_n 1, 1) := by decide +kernel
theorem d_X_keptNow_2 : decode c_X_keptNow 2 = .ok (.iconst 0, 1) := by decide +kernel
theorem d_X_keptNow_3 : decode c_X_keptNow 3 = .ok (.istore_n 2, 1) := by decide +kernel
theorem d_X_keptNow_4 : decode c_X_keptNow 4 = .ok (.iload_n 2, 1) := by decide +kernel
theorem d_X_keptNow_5 : decode c_X_keptNow 5 = .ok (.bipush 32, 2) := by decide +kernel
theorem d_X_keptNow_7 : decode c_X_keptNow 7 = .ok (.if_icmp .ge 24, 3) := by decide +kernel
theorem d_X_keptNow_10 : decode c_X_keptNow 10 = .ok (.aload_n 0, 1) := by decide +kernel
theorem d_X_keptNow_11 : decode c_X_keptNow 11 = .ok (.getfield 18, 3) := by decide +kernel
theorem d_X_keptNow_14 : decode c_X_keptNow 14 = .ok (.iload_n 2, 1) := by decide +kernel
theorem d_X_keptNow_15 : decode c_X_keptNow 15 = .ok (.aaload, 1) := by decide +kernel
theorem d_X_keptNow_16 : decode c_X_keptNow 16 = .ok (.invokevirtual 78, 3) := by decide +kernel
theorem d_X_keptNow_19 : decode c_X_keptNow 19 = .ok (.ifCond .eq 6, 3) := by decide +kernel
theorem d_X_keptNow_22 : decode c_X_keptNow 22 = .ok (.iinc 1 1, 3) := by decide +kernel
theorem d_X_keptNow_25 : decode c_X_keptNow 25 = .ok (.iinc 2 1, 3) := by decide +kernel
theorem d_X_keptNow_28 : decode c_X_keptNow 28 = .ok (.goto (-24), 3) := by decide +kernel
theorem d_X_keptNow_31 : decode c_X_keptNow 31 = .ok (.iload_n 1, 1) := by decide +kernel
theorem d_X_keptNow_32 : decode c_X_keptNow 32 = .ok (.ireturn, 1) := by decide +kernel
theorem d_X_throwOut_0 : decode c_X_throwOut 0 = .ok (.aload_n 1, 1) := by decide +kernel
theorem d_X_throwOut_1 : decode c_X_throwOut 1 = .ok (.iconst 0, 1) := by decide +kernel
theorem d_X_throwOut_2 : decode c_X_throwOut 2 = .ok (.invokevirtual 116, 3) := by decide +kernel
theorem d_X_throwOut_5 : decode c_X_throwOut 5 = .ok (.aload_n 0, 1) := by decide +kernel
theorem d_X_throwOut_6 : decode c_X_throwOut 6 = .ok (.dup, 1) := by decide +kernel
theorem d_X_throwOut_7 : decode c_X_throwOut 7 = .ok (.getfield 103, 3) := by decide +kernel
theorem d_X_throwOut_10 : decode c_X_throwOut 10 = .ok (.iconst 1, 1) := by decide +kernel
theorem d_X_throwOut_11 : decode c_X_throwOut 11 = .ok (.iadd, 1) := by decide +kernel
theorem d_X_throwOut_12 : decode c_X_throwOut 12 = .ok (.putfield 103, 3) := by decide +kernel
theorem d_X_throwOut_15 : decode c_X_throwOut 15 = .ok (.return_, 1) := by decide +kernel
theorem d_X_write_0 : decode c_X_write 0 = .ok (.aload_n 0, 1) := by decide +kernel
theorem d_X_write_1 : decode c_X_write 1 = .ok (.getfield 9, 3) := by decide +kernel
theorem d_X_write_4 : decode c_X_write 4 = .ok (.iload_n 1, 1) := by decide +kernel
theorem d_X_write_5 : decode c_X_write 5 = .ok (.iload_n 2, 1) := by decide +kernel
theorem d_X_write_6 : decode c_X_write 6 = .ok (.iastore, 1) := by decide +kernel
theorem d_X_write_7 : decode c_X_write 7 = .ok (.iconst 0, 1) := by decide +kernel
theorem d_X_write_8 : decode c_X_write 8 = .ok (.istore_n 3, 1) := by decide +kernel
theorem d_X_write_9 : decode c_X_write 9 = .ok (.iload_n 3, 1) := by decide +kernel
theorem d_X_write_10 : decode c_X_write 10 = .ok (.bipush 32, 2) := by decide +kernel
theorem d_X_write_12 : decode c_X_write 12 = .ok (.if_icmp .ge 32, 3) := by decide +kernel
theorem d_X_write_15 : decode c_X_write 15 = .ok (.aload_n 0, 1) := by decide +kernel
theorem d_X_write_16 : decode c_X_write 16 = .ok (.getfield 18, 3) := by decide +kernel
theorem d_X_write_19 : decode c_X_write 19 = .ok (.iload_n 3, 1) := by decide +kernel
theorem d_X_write_20 : decode c_X_write 20 = .ok (.aaload, 1) := by decide +kernel
theorem d_X_write_21 : decode c_X_write 21 = .ok (.iload_n 1, 1) := by decide +kernel
theorem d_X_write_22 : decode c_X_write 22 = .ok (.invokevirtual 120, 3) := by decide +kernel
theorem d_X_write_25 : decode c_X_write 25 = .ok (.ifCond .eq 13, 3) := by decide +kernel
theorem d_X_write_28 : decode c_X_write 28 = .ok (.aload_n 0, 1) := by decide +kernel
theorem d_X_write_29 : decode c_X_write 29 = .ok (.aload_n 0, 1) := by decide +kernel
theorem d_X_write_30 : decode c_X_write 30 = .ok (.getfield 18, 3) := by decide +kernel
theorem d_X_write_33 : decode c_X_write 33 = .ok (.iload_n 3, 1) := by decide +kernel
theorem d_X_write_34 : decode c_X_write 34 = .ok (.aaload, 1) := by decide +kernel
theorem d_X_write_35 : decode c_X_write 35 = .ok (.invokevirtual 90, 3) := by decide +kernel
theorem d_X_write_38 : decode c_X_write 38 = .ok (.iinc 3 1, 3) := by decide +kernel
theorem d_X_write_41 : decode c_X_write 41 = .ok (.goto (-32), 3) := by decide +kernel
theorem d_X_write_44 : decode c_X_write 44 = .ok (.return_, 1) := by decide +kernel
theorem d_X_doBlock_0 : decode c_X_doBlock 0 = .ok (.aload_n 0, 1) := by decide +kernel
theorem d_X_doBlock_1 : decode c_X_doBlock 1 = .ok (.aload_n 0, 1) := by decide +kernel
theorem d_X_doBlock_2 : decode c_X_doBlock 2 = .ok (.getfield 22, 3) := by decide +kernel
theorem d_X_doBlock_5 : decode c_X_doBlock 5 = .ok (.invokevirtual 123, 3) := by decide +kernel
theorem d_X_doBlock_8 : decode c_X_doBlock 8 = .ok (.astore_n 2, 1) := by decide +kernel
theorem d_X_doBlock_9 : decode c_X_doBlock 9 = .ok (.iconst 0, 1) := by decide +kernel
theorem d_X_doBlock_10 : decode c_X_doBlock 10 = .ok (.istore_n 3, 1) := by decide +kernel
theorem d_X_doBlock_11 : decode c_X_doBlock 11 = .ok (.iconst 0, 1) := by decide +kernel
theorem d_X_doBlock_12 : decode c_X_doBlock 12 = .ok (.istore 4, 2) := by decide +kernel
theorem d_X_doBlock_14 : decode c_X_doBlock 14 = .ok (.iload 4, 2) := by decide +kernel
theorem d_X_doBlock_16 : decode c_X_doBlock 16 = .ok (.bipush 12, 2) := by decide +kernel
theorem d_X_doBlock_18 : decode c_X_doBlock 18 = .ok (.if_icmp .ge 43, 3) := by decide +kernel
theorem d_X_doBlock_21 : decode c_X_doBlock 21 = .ok (.iload 4, 2) := by decide +kernel
theorem d_X_doBlock_23 : decode c_X_doBlock 23 = .ok (.aload_n 2, 1) := by decide +kernel
theorem d_X_doBlock_24 : decode c_X_doBlock 24 = .ok (.getfield 84, 3) := by decide +kernel
theorem d_X_doBlock_27 : decode c_X_doBlock 27 = .ok (.if_icmp .ge 34, 3) := by decide +kernel
theorem d_X_doBlock_30 : decode c_X_doBlock 30 = .ok (.iload_n 3, 1) := by decide +kernel
theorem d_X_doBlock_31 : decode c_X_doBlock 31 = .ok (.iload_n 1, 1) := by decide +kernel
theorem d_X_doBlock_32 : decode c_X_doBlock 32 = .ok (.if_icmp .ge 29, 3) := by decide +kernel
theorem d_X_doBlock_35 : decode c_X_doBlock 35 = .ok (.aload_n 0, 1) := by decide +kernel
theorem d_X_doBlock_36 : decode c_X_doBlock 36 = .ok (.aload_n 2, 1) := by decide +kernel
theorem d_X_doBlock_37 : decode c_X_doBlock 37 = .ok (.getfield 127, 3) := by decide +kernel
theorem d_X_doBlock_40 : decode c_X_doBlock 40 = .ok (.iload 4, 2) := by decide +kernel
theorem d_X_doBlock_42 : decode c_X_doBlock 42 = .ok (.iaload, 1) := by decide +kernel
theorem d_X_doBlock_43 : decode c_X_doBlock 43 = .ok (.invokevirtual 130, 3) := by decide +kernel
theorem d_X_doBlock_46 : decode c_X_doBlock 46 = .ok (.ifCond .ne 6, 3) := by decide +kernel
theorem d_X_doBlock_49 : decode c_X_doBlock 49 = .ok (.goto 12, 3) := by decide +kernel
theorem d_X_doBlock_52 : decode c_X_doBlock 52 = .ok (.iinc 3 1, 3) := by decide +kernel
theorem d_X_doBlock_55 : decode c_X_doBlock 55 = .ok (.iinc 4 1, 3) := by decide +kernel
theorem d_X_doBlock_58 : decode c_X_doBlock 58 = .ok (.goto (-44), 3) := by decide +kernel
theorem d_X_doBlock_61 : decode c_X_doBlock 61 = .ok (.iload_n 3, 1) := by decide +kernel
theorem d_X_doBlock_62 : decode c_X_doBlock 62 = .ok (.ireturn, 1) := by decide +kernel
theorem d_X_blockAt_0 : decode c_X_blockAt 0 = .ok (.aload_n 0, 1) := by decide +kernel
theorem d_X_blockAt_1 : decode c_X_blockAt 1 = .ok (.getfield 18, 3) := by decide +kernel
theorem d_X_blockAt_4 : decode c_X_blockAt 4 = .ok (.iload_n 1, 1) := by decide +kernel
theorem d_X_blockAt_5 : decode c_X_blockAt 5 = .ok (.bipush 31, 2) := by decide +kernel
theorem d_X_blockAt_7 : decode c_X_blockAt 7 = .ok (.iand, 1) := by decide +kernel
theorem d_X_blockAt_8 : decode c_X_blockAt 8 = .ok (.aaload, 1) := by decide +kernel
theorem d_X_blockAt_9 : decode c_X_blockAt 9 = .ok (.astore_n 2, 1) := by decide +kernel
theorem d_X_blockAt_10 : decode c_X_blockAt 10 = .ok (.aload_n 2, 1) := by decide +kernel
theorem d_X_blockAt_11 : decode c_X_blockAt 11 = .ok (.iload_n 1, 1) := by decide +kernel
theorem d_X_blockAt_12 : decode c_X_blockAt 12 = .ok (.invokevirtual 133, 3) := by decide +kernel
theorem d_X_blockAt_15 : decode c_X_blockAt 15 = .ok (.ifCond .eq 16, 3) := by decide +kernel
theorem d_X_blockAt_18 : decode c_X_blockAt 18 = .ok (.aload_n 0, 1) := by decide +kernel
theorem d_X_blockAt_19 : decode c_X_blockAt 19 = .ok (.dup, 1) := by decide +kernel
theorem d_X_blockAt_20 : decode c_X_blockAt 20 = .ok (.getfield 100, 3) := by decide +kernel
theorem d_X_blockAt_23 : decode c_X_blockAt 23 = .ok (.iconst 1, 1) := by decide +kernel
theorem d_X_blockAt_24 : decode c_X_blockAt 24 = .ok (.iadd, 1) := by decide +kernel
theorem d_X_blockAt_25 : decode c_X_blockAt 25 = .ok (.putfield 100, 3) := by decide +kernel
theorem d_X_blockAt_28 : decode c_X_blockAt 28 = .ok (.goto 9, 3) := by decide +kernel
theorem d_X_blockAt_31 : decode c_X_blockAt 31 = .ok (.aload_n 0, 1) := by decide +kernel
theorem d_X_blockAt_32 : decode c_X_blockAt 32 = .ok (.aload_n 2, 1) := by decide +kernel
theorem d_X_blockAt_33 : decode c_X_blockAt 33 = .ok (.iload_n 1, 1) := by decide +kernel
theorem d_X_blockAt_34 : decode c_X_blockAt 34 = .ok (.invokevirtual 136, 3) := by decide +kernel
theorem d_X_blockAt_37 : decode c_X_blockAt 37 = .ok (.aload_n 2, 1) := by decide +kernel
theorem d_X_blockAt_38 : decode c_X_blockAt 38 = .ok (.areturn, 1) := by decide +kernel
theorem d_X_decode_0 : decode c_X_decode 0 = .ok (.aload_n 1, 1) := by decide +kernel
theorem d_X_decode_1 : decode c_X_decode 1 = .ok (.iload_n 2, 1) := by decide +kernel
theorem d_X_decode_2 : decode c_X_decode 2 = .ok (.invokevirtual 116, 3) := by decide +kernel
theorem d_X_decode_5 : decode c_X_decode 5 = .ok (.iload_n 2, 1) := by decide +kernel
theorem d_X_decode_6 : decode c_X_decode 6 = .ok (.istore_n 3, 1) := by decide +kernel
theorem d_X_decode_7 : decode c_X_decode 7 = .ok (.iconst 1, 1) := by decide +kernel
theorem d_X_decode_8 : decode c_X_decode 8 = .ok (.istore 4, 2) := by decide +kernel
theorem d_X_decode_10 : decode c_X_decode 10 = .ok (.iconst 0, 1) := by decide +kernel
theorem d_X_decode_11 : decode c_X_decode 11 = .ok (.istore 5, 2) := by decide +kernel
theorem d_X_decode_13 : decode c_X_decode 13 = .ok (.iload 5, 2) := by decide +kernel
theorem d_X_decode_15 : decode c_X_decode 15 = .ok (.bipush 12, 2) := by decide +kernel
theorem d_X_decode_17 : decode c_X_decode 17 = .ok (.if_icmp .ge 84, 3) := by decide +kernel
theorem d_X_decode_20 : decode c_X_decode 20 = .ok (.iload 4, 2) := by decide +kernel
theorem d_X_decode_22 : decode c_X_decode 22 = .ok (.ifCond .eq 79, 3) := by decide +kernel
theorem d_X_decode_25 : decode c_X_decode 25 = .ok (.aload_n 0, 1) := by decide +kernel
theorem d_X_decode_26 : decode c_X_decode 26 = .ok (.iload_n 3, 1) := by decide +kernel
theorem d_X_decode_27 : decode c_X_decode 27 = .ok (.invokevirtual 140, 3) := by decide +kernel
theorem d_X_decode_30 : decode c_X_decode 30 = .ok (.istore 6, 2) := by decide +kernel
theorem d_X_decode_32 : decode c_X_decode 32 = .ok (.iload 6, 2) := by decide +kernel
theorem d_X_decode_34 : decode c_X_decode 34 = .ok (.bipush 12, 2) := by decide +kernel
theorem d_X_decode_36 : decode c_X_decode 36 = .ok (.ishr, 1) := by decide +kernel
theorem d_X_decode_37 : decode c_X_decode 37 = .ok (.istore 7, 2) := by decide +kernel
theorem d_X_decode_39 : decode c_X_decode 39 = .ok (.aload_n 1, 1) := by decide +kernel
theorem d_X_decode_40 : decode c_X_decode 40 = .ok (.getfield 127, 3) := by decide +kernel
theorem d_X_decode_43 : decode c_X_decode 43 = .ok (.iload 5, 2) := by decide +kernel
theorem d_X_decode_45 : decode c_X_decode 45 = .ok (.iload 6, 2) := by decide +kernel
theorem d_X_decode_47 : decode c_X_decode 47 = .ok (.iastore, 1) := by decide +kernel
theorem d_X_decode_48 : decode c_X_decode 48 = .ok (.aload_n 1, 1) := by decide +kernel
theorem d_X_decode_49 : decode c_X_decode 49 = .ok (.dup, 1) := by decide +kernel
theorem d_X_decode_50 : decode c_X_decode 50 = .ok (.getfield 84, 3) := by decide +kernel
theorem d_X_decode_53 : decode c_X_decode 53 = .ok (.iconst 1, 1) := by decide +kernel
theorem d_X_decode_54 : decode c_X_decode 54 = .ok (.iadd, 1) := by decide +kernel
theorem d_X_decode_55 : decode c_X_decode 55 = .ok (.putfield 84, 3) := by decide +kernel
theorem d_X_decode_58 : decode c_X_decode 58 = .ok (.iload_n 3, 1) := by decide +kernel
theorem d_X_decode_59 : decode c_X_decode 59 = .ok (.iload 7, 2) := by decide +kernel
theorem d_X_decode_61 : decode c_X_decode 61 = .ok (.bipush 16, 2) := by decide +kernel
theorem d_X_decode_63 : decode c_X_decode 63 = .ok (.if_icmp .ne 10, 3) := by decide +kernel
theorem d_X_decode_66 : decode c_X_decode 66 = .ok (.iload_n 3, 1) := by decide +kernel
theorem d_X_decode_67 : decode c_X_decode 67 = .ok (.invokestatic 143, 3) := by decide +kernel
theorem d_X_decode_70 : decode c_X_decode 70 = .ok (.goto 8, 3) := by decide +kernel
theorem d_X_decode_73 : decode c_X_decode 73 = .ok (.iload 7, 2) := by decide +kernel
theorem d_X_decode_75 : decode c_X_decode 75 = .ok (.invokestatic 146, 3) := by decide +kernel
theorem d_X_decode_78 : decode c_X_decode 78 = .ok (.iadd, 1) := by decide +kernel
theorem d_X_decode_79 : decode c_X_decode 79 = .ok (.istore_n 3, 1) := by decide +kernel
theorem d_X_decode_80 : decode c_X_decode 80 = .ok (.iload 7, 2) := by decide +kernel
theorem d_X_decode_82 : decode c_X_decode 82 = .ok (.invokestatic 149, 3) := by decide +kernel
theorem d_X_decode_85 : decode c_X_decode 85 = .ok (.ifCond .ne 7, 3) := by decide +kernel
theorem d_X_decode_88 : decode c_X_decode 88 = .ok (.iconst 1, 1) := by decide +kernel
theorem d_X_decode_89 : decode c_X_decode 89 = .ok (.goto 4, 3) := by decide +kernel
theorem d_X_decode_92 : decode c_X_decode 92 = .ok (.iconst 0, 1) := by decide +kernel
theorem d_X_decode_93 : decode c_X_decode 93 = .ok (.istore 4, 2) := by decide +kernel
theorem d_X_decode_95 : decode c_X_decode 95 = .ok (.iinc 5 1, 3) := by decide +kernel
theorem d_X_decode_98 : decode c_X_decode 98 = .ok (.goto (-85), 3) := by decide +kernel
theorem d_X_decode_101 : decode c_X_decode 101 = .ok (.aload_n 1, 1) := by decide +kernel
theorem d_X_decode_102 : decode c_X_decode 102 = .ok (.iload_n 3, 1) := by decide +kernel
theorem d_X_decode_103 : decode c_X_decode 103 = .ok (.iload_n 2, 1) := by decide +kernel
theorem d_X_decode_104 : decode c_X_decode 104 = .ok (.isub, 1) := by decide +kernel
theorem d_X_decode_105 : decode c_X_decode 105 = .ok (.putfield 87, 3) := by decide +kernel
theorem d_X_decode_108 : decode c_X_decode 108 = .ok (.aload_n 0, 1) := by decide +kernel
theorem d_X_decode_109 : decode c_X_decode 109 = .ok (.dup, 1) := by decide +kernel
theorem d_X_decode_110 : decode c_X_decode 110 = .ok (.getfield 97, 3) := by decide +kernel
theorem d_X_decode_113 : decode c_X_decode 113 = .ok (.iconst 1, 1) := by decide +kernel
theorem d_X_decode_114 : decode c_X_decode 114 = .ok (.iadd, 1) := by decide +kernel
theorem d_X_decode_115 : decode c_X_decode 115 = .ok (.putfield 97, 3) := by decide +kernel
theorem d_X_decode_118 : decode c_X_decode 118 = .ok (.aload_n 0, 1) := by decide +kernel
theorem d_X_decode_119 : decode c_X_decode 119 = .ok (.dup, 1) := by decide +kernel
theorem d_X_decode_120 : decode c_X_decode 120 = .ok (.getfield 113, 3) := by decide +kernel
theorem d_X_decode_123 : decode c_X_decode 123 = .ok (.aload_n 1, 1) := by decide +kernel
theorem d_X_decode_124 : decode c_X_decode 124 = .ok (.getfield 84, 3) := by decide +kernel
