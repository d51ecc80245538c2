theorem d_B_init_0 : decode c_B_init 0 = .ok (.aload_n 0, 1) := by decide +kernel
theorem d_B_init_1 : decode c_B_init 1 = .ok (.invokespecial 3, 3) := by decide +kernel
theorem d_B_init_4 : decode c_B_init 4 = .ok (.aload_n 0, 1) := by decide +kernel
theorem d_B_init_5 : decode c_B_init 5 = .ok (.bipush 12, 2) := by decide +kernel
theorem d_B_init_7 : decode c_B_init 7 = .ok (.newarray .int, 2) := by decide +kernel
theorem d_B_init_9 : decode c_B_init 9 = .ok (.putfield 9, 3) := by decide +kernel
theorem d_B_init_12 : decode c_B_init 12 = .ok (.return_, 1) := by decide +kernel
theorem d_B_isKept_0 : decode c_B_isKept 0 = .ok (.aload_n 0, 1) := by decide +kernel
theorem d_B_isKept_1 : decode c_B_isKept 1 = .ok (.getfield 15, 3) := by decide +kernel
theorem d_B_isKept_4 : decode c_B_isKept 4 = .ok (.ifCond .le 7, 3) := by decide +kernel
theorem d_B_isKept_7 : decode c_B_isKept 7 = .ok (.iconst 1, 1) := by decide +kernel
theorem d_B_isKept_8 : decode c_B_isKept 8 = .ok (.goto 4, 3) := by decide +kernel
theorem d_B_isKept_11 : decode c_B_isKept 11 = .ok (.iconst 0, 1) := by decide +kernel
theorem d_B_isKept_12 : decode c_B_isKept 12 = .ok (.ireturn, 1) := by decide +kernel
theorem d_B_beginsAt_0 : decode c_B_beginsAt 0 = .ok (.aload_n 0, 1) := by decide +kernel
theorem d_B_beginsAt_1 : decode c_B_beginsAt 1 = .ok (.invokevirtual 19, 3) := by decide +kernel
theorem d_B_beginsAt_4 : decode c_B_beginsAt 4 = .ok (.ifCond .eq 15, 3) := by decide +kernel
theorem d_B_beginsAt_7 : decode c_B_beginsAt 7 = .ok (.aload_n 0, 1) := by decide +kernel
theorem d_B_beginsAt_8 : decode c_B_beginsAt 8 = .ok (.getfield 23, 3) := by decide +kernel
theorem d_B_beginsAt_11 : decode c_B_beginsAt 11 = .ok (.iload_n 1, 1) := by decide +kernel
theorem d_B_beginsAt_12 : decode c_B_beginsAt 12 = .ok (.if_icmp .ne 7, 3) := by decide +kernel
theorem d_B_beginsAt_15 : decode c_B_beginsAt 15 = .ok (.iconst 1, 1) := by decide +kernel
theorem d_B_beginsAt_16 : decode c_B_beginsAt 16 = .ok (.goto 4, 3) := by decide +kernel
theorem d_B_beginsAt_19 : decode c_B_beginsAt 19 = .ok (.iconst 0, 1) := by decide +kernel
theorem d_B_beginsAt_20 : decode c_B_beginsAt 20 = .ok (.ireturn, 1) := by decide +kernel
theorem d_B_hasByte_0 : decode c_B_hasByte 0 = .ok (.aload_n 0, 1) := by decide +kernel
theorem d_B_hasByte_1 : decode c_B_hasByte 1 = .ok (.invokevirtual 19, 3) := by decide +kernel
theorem d_B_hasByte_4 : decode c_B_hasByte 4 = .ok (.ifCond .eq 28, 3) := by decide +kernel
theorem d_B_hasByte_7 : decode c_B_hasByte 7 = .ok (.iload_n 1, 1) := by decide +kernel
theorem d_B_hasByte_8 : decode c_B_hasByte 8 = .ok (.aload_n 0, 1) := by decide +kernel
theorem d_B_hasByte_9 : decode c_B_hasByte 9 = .ok (.getfield 23, 3) := by decide +kernel
theorem d_B_hasByte_12 : decode c_B_hasByte 12 = .ok (.if_icmp .lt 20, 3) := by decide +kernel
theorem d_B_hasByte_15 : decode c_B_hasByte 15 = .ok (.iload_n 1, 1) := by decide +kernel
theorem d_B_hasByte_16 : decode c_B_hasByte 16 = .ok (.aload_n 0, 1) := by decide +kernel
theorem d_B_hasByte_17 : decode c_B_hasByte 17 = .ok (.getfield 23, 3) := by decide +kernel
theorem d_B_hasByte_20 : decode c_B_hasByte 20 = .ok (.aload_n 0, 1) := by decide +kernel
theorem d_B_hasByte_21 : decode c_B_hasByte 21 = .ok (.getfield 26, 3) := by decide +kernel
theorem d_B_hasByte_24 : decode c_B_hasByte 24 = .ok (.iadd, 1) := by decide +kernel
theorem d_B_hasByte_25 : decode c_B_hasByte 25 = .ok (.if_icmp .ge 7, 3) := by decide +kernel
theorem d_B_hasByte_28 : decode c_B_hasByte 28 = .ok (.iconst 1, 1) := by decide +kernel
theorem d_B_hasByte_29 : decode c_B_hasByte 29 = .ok (.goto 4, 3) := by decide +kernel
theorem d_B_hasByte_32 : decode c_B_hasByte 32 = .ok (.iconst 0, 1) := by decide +kernel
theorem d_B_hasByte_33 : decode c_B_hasByte 33 = .ok (.ireturn, 1) := by decide +kernel
theorem d_B_empty_0 : decode c_B_empty 0 = .ok (.aload_n 0, 1) := by decide +kernel
theorem d_B_empty_1 : decode c_B_empty 1 = .ok (.iload_n 1, 1) := by decide +kernel
theorem d_B_empty_2 : decode c_B_empty 2 = .ok (.putfield 23, 3) := by decide +kernel
theorem d_B_empty_5 : decode c_B_empty 5 = .ok (.aload_n 0, 1) := by decide +kernel
theorem d_B_empty_6 : decode c_B_empty 6 = .ok (.iconst 0, 1) := by decide +kernel
theorem d_B_empty_7 : decode c_B_empty 7 = .ok (.putfield 15, 3) := by decide +kernel
theorem d_B_empty_10 : decode c_B_empty 10 = .ok (.aload_n 0, 1) := by decide +kernel
theorem d_B_empty_11 : decode c_B_empty 11 = .ok (.iconst 0, 1) := by decide +kernel
theorem d_B_empty_12 : decode c_B_empty 12 = .ok (.putfield 26, 3) := by decide +kernel
theorem d_B_empty_15 : decode c_B_empty 15 = .ok (.return_, 1) := by decide +kernel
