theorem dX0_init_0 : decode cX0_init 0 = .ok (.aload_n 0, 1) := by decide +kernel
theorem dX0_init_1 : decode cX0_init 1 = .ok (.invokespecial 1, 3) := by decide +kernel
theorem dX0_init_4 : decode cX0_init 4 = .ok (.aload_n 0, 1) := by decide +kernel
theorem dX0_init_5 : decode cX0_init 5 = .ok (.iconst 0, 1) := by decide +kernel
theorem dX0_init_6 : decode cX0_init 6 = .ok (.putfield 7, 3) := by decide +kernel
theorem dX0_init_9 : decode cX0_init 9 = .ok (.aload_n 0, 1) := by decide +kernel
theorem dX0_init_10 : decode cX0_init 10 = .ok (.iconst 0, 1) := by decide +kernel
theorem dX0_init_11 : decode cX0_init 11 = .ok (.putfield 13, 3) := by decide +kernel
theorem dX0_init_14 : decode cX0_init 14 = .ok (.aload_n 0, 1) := by decide +kernel
theorem dX0_init_15 : decode cX0_init 15 = .ok (.iload_n 1, 1) := by decide +kernel
theorem dX0_init_16 : decode cX0_init 16 = .ok (.putfield 16, 3) := by decide +kernel
theorem dX0_init_19 : decode cX0_init 19 = .ok (.return_, 1) := by decide +kernel
theorem dX0_copyFrom_0 : decode cX0_copyFrom 0 = .ok (.aload_n 0, 1) := by decide +kernel
theorem dX0_copyFrom_1 : decode cX0_copyFrom 1 = .ok (.aload_n 1, 1) := by decide +kernel
theorem dX0_copyFrom_2 : decode cX0_copyFrom 2 = .ok (.getfield 16, 3) := by decide +kernel
theorem dX0_copyFrom_5 : decode cX0_copyFrom 5 = .ok (.putfield 16, 3) := by decide +kernel
theorem dX0_copyFrom_8 : decode cX0_copyFrom 8 = .ok (.aload_n 0, 1) := by decide +kernel
theorem dX0_copyFrom_9 : decode cX0_copyFrom 9 = .ok (.aload_n 1, 1) := by decide +kernel
theorem dX0_copyFrom_10 : decode cX0_copyFrom 10 = .ok (.getfield 7, 3) := by decide +kernel
theorem dX0_copyFrom_13 : decode cX0_copyFrom 13 = .ok (.putfield 7, 3) := by decide +kernel
theorem dX0_copyFrom_16 : decode cX0_copyFrom 16 = .ok (.aload_n 0, 1) := by decide +kernel
theorem dX0_copyFrom_17 : decode cX0_copyFrom 17 = .ok (.aload_n 1, 1) := by decide +kernel
theorem dX0_copyFrom_18 : decode cX0_copyFrom 18 = .ok (.getfield 13, 3) := by decide +kernel
theorem dX0_copyFrom_21 : decode cX0_copyFrom 21 = .ok (.putfield 13, 3) := by decide +kernel
theorem dX0_copyFrom_24 : decode cX0_copyFrom 24 = .ok (.return_, 1) := by decide +kernel
theorem dX1_init_0 : decode cX1_init 0 = .ok (.aload_n 0, 1) := by decide +kernel
theorem dX1_init_1 : decode cX1_init 1 = .ok (.invokespecial 3, 3) := by decide +kernel
theorem dX1_init_4 : decode cX1_init 4 = .ok (.aload_n 0, 1) := by decide +kernel
theorem dX1_init_5 : decode cX1_init 5 = .ok (.bipush 60, 2) := by decide +kernel
theorem dX1_init_7 : decode cX1_init 7 = .ok (.newarray .int, 2) := by decide +kernel
theorem dX1_init_9 : decode cX1_init 9 = .ok (.putfield 9, 3) := by decide +kernel
theorem dX1_init_12 : decode cX1_init 12 = .ok (.aload_n 0, 1) := by decide +kernel
theorem dX1_init_13 : decode cX1_init 13 = .ok (.iconst 0, 1) := by decide +kernel
theorem dX1_init_14 : decode cX1_init 14 = .ok (.putfield 15, 3) := by decide +kernel
theorem dX1_init_17 : decode cX1_init 17 = .ok (.return_, 1) := by decide +kernel
theorem dX1_isLetter_0 : decode cX1_isLetter 0 = .ok (.iload_n 0, 1) := by decide +kernel
theorem dX1_isLetter_1 : decode cX1_isLetter 1 = .ok (.bipush 97, 2) := by decide +kernel
theorem dX1_isLetter_3 : decode cX1_isLetter 3 = .ok (.if_icmp .lt 13, 3) := by decide +kernel
theorem dX1_isLetter_6 : decode cX1_isLetter 6 = .ok (.iload_n 0, 1) := by decide +kernel
theorem dX1_isLetter_7 : decode cX1_isLetter 7 = .ok (.bipush 105, 2) := by decide +kernel
theorem dX1_isLetter_9 : decode cX1_isLetter 9 = .ok (.if_icmp .ge 7, 3) := by decide +kernel
theorem dX1_isLetter_12 : decode cX1_isLetter 12 = .ok (.iconst 1, 1) := by decide +kernel
theorem dX1_isLetter_13 : decode cX1_isLetter 13 = .ok (.goto 4, 3) := by decide +kernel
theorem dX1_isLetter_16 : decode cX1_isLetter 16 = .ok (.iconst 0, 1) := by decide +kernel
theorem dX1_isLetter_17 : decode cX1_isLetter 17 = .ok (.ireturn, 1) := by decide +kernel
theorem dX1_firstFault_0 : decode cX1_firstFault 0 = .ok (.iconst 0, 1) := by decide +kernel
theorem dX1_firstFault_1 : decode cX1_firstFault 1 = .ok (.istore_n 1, 1) := by decide +kernel
theorem dX1_firstFault_2 : decode cX1_firstFault 2 = .ok (.iconst 0, 1) := by decide +kernel
theorem dX1_firstFault_3 : decode cX1_firstFault 3 = .ok (.istore_n 2, 1) := by decide +kernel
theorem dX1_firstFault_4 : decode cX1_firstFault 4 = .ok (.iload_n 2, 1) := by decide +kernel
theorem dX1_firstFault_5 : decode cX1_firstFault 5 = .ok (.aload_n 0, 1) := by decide +kernel
theorem dX1_firstFault_6 : decode cX1_firstFault 6 = .ok (.getfield 15, 3) := by decide +kernel
theorem dX1_firstFault_9 : decode cX1_firstFault 9 = .ok (.if_icmp .ge 55, 3) := by decide +kernel
theorem dX1_firstFault_12 : decode cX1_firstFault 12 = .ok (.aload_n 0, 1) := by decide +kernel
theorem dX1_firstFault_13 : decode cX1_firstFault 13 = .ok (.getfield 9, 3) := by decide +kernel
theorem dX1_firstFault_16 : decode cX1_firstFault 16 = .ok (.iload_n 2, 1) := by decide +kernel
theorem dX1_firstFault_17 : decode cX1_firstFault 17 = .ok (.iaload, 1) := by decide +kernel
theorem dX1_firstFault_18 : decode cX1_firstFault 18 = .ok (.invokestatic 19, 3) := by decide +kernel
theorem dX1_firstFault_21 : decode cX1_firstFault 21 = .ok (.ifCond .eq 15, 3) := by decide +kernel
theorem dX1_firstFault_24 : decode cX1_firstFault 24 = .ok (.iload_n 1, 1) := by decide +kernel
theorem dX1_firstFault_25 : decode cX1_firstFault 25 = .ok (.bipush 12, 2) := by decide +kernel
theorem dX1_firstFault_27 : decode cX1_firstFault 27 = .ok (.if_icmp .ge 9, 3) := by decide +kernel
theorem dX1_firstFault_30 : decode cX1_firstFault 30 = .ok (.iinc 1 1, 3) := by decide +kernel
theorem dX1_firstFault_33 : decode cX1_firstFault 33 = .ok (.goto 25, 3) := by decide +kernel
theorem dX1_firstFault_36 : decode cX1_firstFault 36 = .ok (.aload_n 0, 1) := by decide +kernel
theorem dX1_firstFault_37 : decode cX1_firstFault 37 = .ok (.getfield 9, 3) := by decide +kernel
theorem dX1_firstFault_40 : decode cX1_firstFault 40 = .ok (.iload_n 2, 1) := by decide +kernel
theorem dX1_firstFault_41 : decode cX1_firstFault 41 = .ok (.iaload, 1) := by decide +kernel
theorem dX1_firstFault_42 : decode cX1_firstFault 42 = .ok (.bipush 59, 2) := by decide +kernel
theorem dX1_firstFault_44 : decode cX1_firstFault 44 = .ok (.if_icmp .ne 12, 3) := by decide +kernel
theorem dX1_firstFault_47 : decode cX1_firstFault 47 = .ok (.iload_n 1, 1) := by decide +kernel
theorem dX1_firstFault_48 : decode cX1_firstFault 48 = .ok (.ifCond .le 8, 3) := by decide +kernel
theorem dX1_firstFault_51 : decode cX1_firstFault 51 = .ok (.iconst 0, 1) := by decide +kernel
theorem dX1_firstFault_52 : decode cX1_firstFault 52 = .ok (.istore_n 1, 1) := by decide +kernel
theorem dX1_firstFault_53 : decode cX1_firstFault 53 = .ok (.goto 5, 3) := by decide +kernel
theorem dX1_firstFault_56 : decode cX1_firstFault 56 = .ok (.iload_n 2, 1) := by decide +kernel
theorem dX1_firstFault_57 : decode cX1_firstFault 57 = .ok (.ireturn, 1) := by decide +kernel
theorem dX1_firstFault_58 : decode cX1_firstFault 58 = .ok (.iinc 2 1, 3) := by decide +kernel
theorem dX1_firstFault_61 : decode cX1_firstFault 61 = .ok (.goto (-57), 3) := by decide +kernel
theorem dX1_firstFault_64 : decode cX1_firstFault 64 = .ok (.aload_n 0, 1) := by decide +kernel
theorem dX1_firstFault_65 : decode cX1_firstFault 65 = .ok (.getfield 15, 3) := by decide +kernel
theorem dX1_firstFault_68 : decode cX1_firstFault 68 = .ok (.ireturn, 1) := by decide +kernel
theorem dX1_isComplete_0 : decode cX1_isComplete 0 = .ok (.aload_n 0, 1) := by decide +kernel
theorem dX1_isComplete_1 : decode cX1_isComplete 1 = .ok (.getfield 15, 3) := by decide +kernel
theorem dX1_isComplete_4 : decode cX1_isComplete 4 = .ok (.ifCond .le 34, 3) := by decide +kernel
theorem dX1_isComplete_7 : decode cX1_isComplete 7 = .ok (.aload_n 0, 1) := by decide +kernel
theorem dX1_isComplete_8 : decode cX1_isComplete 8 = .ok (.invokevirtual 23, 3) := by decide +kernel
theorem dX1_isComplete_11 : decode cX1_isComplete 11 = .ok (.aload_n 0, 1) := by decide +kernel
theorem dX1_isComplete_12 : decode cX1_isComplete 12 = .ok (.getfield 15, 3) := by decide +kernel
theorem dX1_isComplete_15 : decode cX1_isComplete 15 = .ok (.if_icmp .ne 23, 3) := by decide +kernel
theorem dX1_isComplete_18 : decode cX1_isComplete 18 = .ok (.aload_n 0, 1) := by decide +kernel
theorem dX1_isComplete_19 : decode cX1_isComplete 19 = .ok (.getfield 9, 3) := by decide +kernel
theorem dX1_isComplete_22 : decode cX1_isComplete 22 = .ok (.aload_n 0, 1) := by decide +kernel
theorem dX1_isComplete_23 : decode cX1_isComplete 23 = .ok (.getfield 15, 3) := by decide +kernel
theorem dX1_isComplete_26 : decode cX1_isComplete 26 = .ok (.iconst 1, 1) := by decide +kernel
theorem dX1_isComplete_27 : decode cX1_isComplete 27 = .ok (.isub, 1) := by decide +kernel
theorem dX1_isComplete_28 : decode cX1_isComplete 28 = .ok (.iaload, 1) := by decide +kernel
theorem dX1_isComplete_29 : decode cX1_isComplete 29 = .ok (.bipush 59, 2) := by decide +kernel
theorem dX1_isComplete_31 : decode cX1_isComplete 31 = .ok (.if_icmp .eq 7, 3) := by decide +kernel
theorem dX1_isComplete_34 : decode cX1_isComplete 34 = .ok (.iconst 1, 1) := by decide +kernel
theorem dX1_isComplete_35 : decode cX1_isComplete 35 = .ok (.goto 4, 3) := by decide +kernel
theorem dX1_isComplete_38 : decode cX1_isComplete 38 = .ok (.iconst 0, 1) := by decide +kernel
theorem dX1_isComplete_39 : decode cX1_isComplete 39 = .ok (.ireturn, 1) := by decide +kernel
theorem dX1_rowCount_0 : decode cX1_rowCount 0 = .ok (.iconst 1, 1) := by decide +kernel
theorem dX1_rowCount_1 : decode cX1_rowCount 1 = .ok (.istore_n 1, 1) := by decide +kernel
theorem dX1_rowCount_2 : decode cX1_rowCount 2 = .ok (.iconst 0, 1) := by decide +kernel
theorem dX1_rowCount_3 : decode cX1_rowCount 3 = .ok (.istore_n 2, 1) := by decide +kernel
theorem dX1_rowCount_4 : decode cX1_rowCount 4 = .ok (.iload_n 2, 1) := by decide +kernel
theorem dX1_rowCount_5 : decode cX1_rowCount 5 = .ok (.aload_n 0, 1) := by decide +kernel
theorem dX1_rowCount_6 : decode cX1_rowCount 6 = .ok (.getfield 15, 3) := by decide +kernel
theorem dX1_rowCount_9 : decode cX1_rowCount 9 = .ok (.if_icmp .ge 31, 3) := by decide +kernel
theorem dX1_rowCount_12 : decode cX1_rowCount 12 = .ok (.iload_n 1, 1) := by decide +kernel
theorem dX1_rowCount_13 : decode cX1_rowCount 13 = .ok (.aload_n 0, 1) := by decide +kernel
theorem dX1_rowCount_14 : decode cX1_rowCount 14 = .ok (.getfield 9, 3) := by decide +kernel
theorem dX1_rowCount_17 : decode cX1_rowCount 17 = .ok (.iload_n 2, 1) := by decide +kernel
theorem dX1_rowCount_18 : decode cX1_rowCount 18 = .ok (.iaload, 1) := by decide +kernel
theorem dX1_rowCount_19 : decode cX1_rowCount 19 = .ok (.bipush 59, 2) := by decide +kernel
theorem dX1_rowCount_21 : decode cX1_rowCount 21 = .ok (.if_icmp .ne 7, 3) := by decide +kernel
theorem dX1_rowCount_24 : decode cX1_rowCount 24 = .ok (.iconst 1, 1) := by decide +kernel
theorem dX1_rowCount_25 : decode cX1_rowCount 25 = .ok (.goto 4, 3) := by decide +kernel
theorem dX1_rowCount_28 : decode cX1_rowCount 28 = .ok (.iconst 0, 1) := by decide +kernel
theorem dX1_rowCount_29 : decode cX1_rowCount 29 = .ok (.invokestatic 27, 3) := by decide +kernel
theorem dX1_rowCount_32 : decode cX1_rowCount 32 = .ok (.iadd, 1) := by decide +kernel
theorem dX1_rowCount_33 : decode cX1_rowCount 33 = .ok (.istore_n 1, 1) := by decide +kernel
theorem dX1_rowCount_34 : decode cX1_rowCount 34 = .ok (.iinc 2 1, 3) := by decide +kernel
theorem dX1_rowCount_37 : decode cX1_rowCount 37 = .ok (.goto (-33), 3) := by decide +kernel
theorem dX1_rowCount_40 : decode cX1_rowCount 40 = .ok (.iload_n 1, 1) := by decide +kernel
theorem dX1_rowCount_41 : decode cX1_rowCount 41 = .ok (.ireturn, 1) := by decide +kernel
theorem dX1_endOfRow_0 : decode cX1_endOfRow 0 = .ok (.iload_n 1, 1) := by decide +kernel
theorem dX1_endOfRow_1 : decode cX1_endOfRow 1 = .ok (.istore_n 2, 1) := by decide +kernel
theorem dX1_endOfRow_2 : decode cX1_endOfRow 2 = .ok (.iload_n 2, 1) := by decide +kernel
theorem dX1_endOfRow_3 : decode cX1_endOfRow 3 = .ok (.aload_n 0, 1) := by decide +kernel
theorem dX1_endOfRow_4 : decode cX1_endOfRow 4 = .ok (.getfield 15, 3) := by decide +kernel
theorem dX1_endOfRow_7 : decode cX1_endOfRow 7 = .ok (.if_icmp .ge 20, 3) := by decide +kernel
theorem dX1_endOfRow_10 : decode cX1_endOfRow 10 = .ok (.aload_n 0, 1) := by decide +kernel
theorem dX1_endOfRow_11 : decode cX1_endOfRow 11 = .ok (.getfield 9, 3) := by decide +kernel
theorem dX1_endOfRow_14 : decode cX1_endOfRow 14 = .ok (.iload_n 2, 1) := by decide +kernel
theorem dX1_endOfRow_15 : decode cX1_endOfRow 15 = .ok (.iaload, 1) := by decide +kernel
theorem dX1_endOfRow_16 : decode cX1_endOfRow 16 = .ok (.bipush 59, 2) := by decide +kernel
theorem dX1_endOfRow_18 : decode cX1_endOfRow 18 = .ok (.if_icmp .eq 9, 3) := by decide +kernel
theorem dX1_endOfRow_21 : decode cX1_endOfRow 21 = .ok (.iinc 2 1, 3) := by decide +kernel
theorem dX1_endOfRow_24 : decode cX1_endOfRow 24 = .ok (.goto (-22), 3) := by decide +kernel
theorem dX1_endOfRow_27 : decode cX1_endOfRow 27 = .ok (.iload_n 2, 1) := by decide +kernel
theorem dX1_endOfRow_28 : decode cX1_endOfRow 28 = .ok (.ireturn, 1) := by decide +kernel
theorem dX2_init_0 : decode cX2_init 0 = .ok (.aload_n 0, 1) := by decide +kernel
theorem dX2_init_1 : decode cX2_init 1 = .ok (.invokespecial 3, 3) := by decide +kernel
theorem dX2_init_4 : decode cX2_init 4 = .ok (.aload_n 0, 1) := by decide +kernel
theorem dX2_init_5 : decode cX2_init 5 = .ok (.bipush 6, 2) := by decide +kernel
theorem dX2_init_7 : decode cX2_init 7 = .ok (.anewarray 9, 3) := by decide +kernel
theorem dX2_init_10 : decode cX2_init 10 = .ok (.putfield 11, 3) := by decide +kernel
theorem dX2_init_13 : decode cX2_init 13 = .ok (.aload_n 0, 1) := by decide +kernel
theorem dX2_init_14 : decode cX2_init 14 = .ok (.iconst 0, 1) := by decide +kernel
theorem dX2_init_15 : decode cX2_init 15 = .ok (.putfield 17, 3) := by decide +kernel
theorem dX2_init_18 : decode cX2_init 18 = .ok (.aload_n 0, 1) := by decide +kernel
theorem dX2_init_19 : decode cX2_init 19 = .ok (.iconst 0, 1) := by decide +kernel
theorem dX2_init_20 : decode cX2_init 20 = .ok (.putfield 21, 3) := by decide +kernel
theorem dX2_init_23 : decode cX2_init 23 = .ok (.iconst 0, 1) := by decide +kernel
theorem dX2_init_24 : decode cX2_init 24 = .ok (.istore_n 1, 1) := by decide +kernel
theorem dX2_init_25 : decode cX2_init 25 = .ok (.iload_n 1, 1) := by decide +kernel
theorem dX2_init_26 : decode cX2_init 26 = .ok (.bipush 6, 2) := by decide +kernel
theorem dX2_init_28 : decode cX2_init 28 = .ok (.if_icmp .ge 22, 3) := by decide +kernel
theorem dX2_init_31 : decode cX2_init 31 = .ok (.aload_n 0, 1) := by decide +kernel
theorem dX2_init_32 : decode cX2_init 32 = .ok (.getfield 11, 3) := by decide +kernel
theorem dX2_init_35 : decode cX2_init 35 = .ok (.iload_n 1, 1) := by decide +kernel
theorem dX2_init_36 : decode cX2_init 36 = .ok (.new 9, 3) := by decide +kernel
theorem dX2_init_39 : decode cX2_init 39 = .ok (.dup, 1) := by decide +kernel
theorem dX2_init_40 : decode cX2_init 40 = .ok (.invokespecial 24, 3) := by decide +kernel
theorem dX2_init_43 : decode cX2_init 43 = .ok (.aastore, 1) := by decide +kernel
theorem dX2_init_44 : decode cX2_init 44 = .ok (.iinc 1 1, 3) := by decide +kernel
theorem dX2_init_47 : decode cX2_init 47 = .ok (.goto (-22), 3) := by decide +kernel
theorem dX2_init_50 : decode cX2_init 50 = .ok (.return_, 1) := by decide +kernel
theorem dX2_save_0 : decode cX2_save 0 = .ok (.aload_n 0, 1) := by decide +kernel
theorem dX2_save_1 : decode cX2_save 1 = .ok (.getfield 21, 3) := by decide +kernel
theorem dX2_save_4 : decode cX2_save 4 = .ok (.bipush 6, 2) := by decide +kernel
theorem dX2_save_6 : decode cX2_save 6 = .ok (.if_icmp .ne 26, 3) := by decide +kernel
theorem dX2_save_9 : decode cX2_save 9 = .ok (.aload_n 0, 1) := by decide +kernel
theorem dX2_save_10 : decode cX2_save 10 = .ok (.aload_n 0, 1) := by decide +kernel
theorem dX2_save_11 : decode cX2_save 11 = .ok (.getfield 17, 3) := by decide +kernel
theorem dX2_save_14 : decode cX2_save 14 = .ok (.iconst 1, 1) := by decide +kernel
theorem dX2_save_15 : decode cX2_save 15 = .ok (.iadd, 1) := by decide +kernel
theorem dX2_save_16 : decode cX2_save 16 = .ok (.bipush 6, 2) := by decide +kernel
theorem dX2_save_18 : decode cX2_save 18 = .ok (.irem, 1) := by decide +kernel
theorem dX2_save_19 : decode cX2_save 19 = .ok (.putfield 17, 3) := by decide +kernel
theorem dX2_save_22 : decode cX2_save 22 = .ok (.aload_n 0, 1) := by decide +kernel
theorem dX2_save_23 : decode cX2_save 23 = .ok (.dup, 1) := by decide +kernel
theorem dX2_save_24 : decode cX2_save 24 = .ok (.getfield 21, 3) := by decide +kernel
theorem dX2_save_27 : decode cX2_save 27 = .ok (.iconst 1, 1) := by decide +kernel
theorem dX2_save_28 : decode cX2_save 28 = .ok (.isub, 1) := by decide +kernel
theorem dX2_save_29 : decode cX2_save 29 = .ok (.putfield 21, 3) := by decide +kernel
theorem dX2_save_32 : decode cX2_save 32 = .ok (.aload_n 0, 1) := by decide +kernel
theorem dX2_save_33 : decode cX2_save 33 = .ok (.getfield 11, 3) := by decide +kernel
theorem dX2_save_36 : decode cX2_save 36 = .ok (.aload_n 0, 1) := by decide +kernel
theorem dX2_save_37 : decode cX2_save 37 = .ok (.getfield 17, 3) := by decide +kernel
theorem dX2_save_40 : decode cX2_save 40 = .ok (.aload_n 0, 1) := by decide +kernel
theorem dX2_save_41 : decode cX2_save 41 = .ok (.getfield 21, 3) := by decide +kernel
theorem dX2_save_44 : decode cX2_save 44 = .ok (.iadd, 1) := by decide +kernel
theorem dX2_save_45 : decode cX2_save 45 = .ok (.bipush 6, 2) := by decide +kernel
theorem dX2_save_47 : decode cX2_save 47 = .ok (.irem, 1) := by decide +kernel
theorem dX2_save_48 : decode cX2_save 48 = .ok (.aaload, 1) := by decide +kernel
theorem dX2_save_49 : decode cX2_save 49 = .ok (.aload_n 1, 1) := by decide +kernel
theorem dX2_save_50 : decode cX2_save 50 = .ok (.invokevirtual 25, 3) := by decide +kernel
theorem dX2_save_53 : decode cX2_save 53 = .ok (.aload_n 0, 1) := by decide +kernel
theorem dX2_save_54 : decode cX2_save 54 = .ok (.dup, 1) := by decide +kernel
theorem dX2_save_55 : decode cX2_save 55 = .ok (.getfield 21, 3) := by decide +kernel
theorem dX2_save_58 : decode cX2_save 58 = .ok (.iconst 1, 1) := by decide +kernel
theorem dX2_save_59 : decode cX2_save 59 = .ok (.iadd, 1) := by decide +kernel
theorem dX2_save_60 : decode cX2_save 60 = .ok (.putfield 21, 3) := by decide +kernel
theorem dX2_save_63 : decode cX2_save 63 = .ok (.return_, 1) := by decide +kernel
theorem dX2_restore_0 : decode cX2_restore 0 = .ok (.aload_n 0, 1) := by decide +kernel
theorem dX2_restore_1 : decode cX2_restore 1 = .ok (.dup, 1) := by decide +kernel
theorem dX2_restore_2 : decode cX2_restore 2 = .ok (.getfield 21, 3) := by decide +kernel
theorem dX2_restore_5 : decode cX2_restore 5 = .ok (.iconst 1, 1) := by decide +kernel
theorem dX2_restore_6 : decode cX2_restore 6 = .ok (.isub, 1) := by decide +kernel
theorem dX2_restore_7 : decode cX2_restore 7 = .ok (.putfield 21, 3) := by decide +kernel
theorem dX2_restore_10 : decode cX2_restore 10 = .ok (.aload_n 1, 1) := by decide +kernel
theorem dX2_restore_11 : decode cX2_restore 11 = .ok (.aload_n 0, 1) := by decide +kernel
theorem dX2_restore_12 : decode cX2_restore 12 = .ok (.getfield 11, 3) := by decide +kernel
theorem dX2_restore_15 : decode cX2_restore 15 = .ok (.aload_n 0, 1) := by decide +kernel
theorem dX2_restore_16 : decode cX2_restore 16 = .ok (.getfield 17, 3) := by decide +kernel
theorem dX2_restore_19 : decode cX2_restore 19 = .ok (.aload_n 0, 1) := by decide +kernel
theorem dX2_restore_20 : decode cX2_restore 20 = .ok (.getfield 21, 3) := by decide +kernel
theorem dX2_restore_23 : decode cX2_restore 23 = .ok (.iadd, 1) := by decide +kernel
theorem dX2_restore_24 : decode cX2_restore 24 = .ok (.bipush 6, 2) := by decide +kernel
theorem dX2_restore_26 : decode cX2_restore 26 = .ok (.irem, 1) := by decide +kernel
theorem dX2_restore_27 : decode cX2_restore 27 = .ok (.aaload, 1) := by decide +kernel
theorem dX2_restore_28 : decode cX2_restore 28 = .ok (.invokevirtual 25, 3) := by decide +kernel
theorem dX2_restore_31 : decode cX2_restore 31 = .ok (.return_, 1) := by decide +kernel
theorem dX3_init_0 : decode cX3_init 0 = .ok (.aload_n 0, 1) := by decide +kernel
theorem dX3_init_1 : decode cX3_init 1 = .ok (.invokespecial 3, 3) := by decide +kernel
theorem dX3_init_4 : decode cX3_init 4 = .ok (.aload_n 0, 1) := by decide +kernel
theorem dX3_init_5 : decode cX3_init 5 = .ok (.bipush 30, 2) := by decide +kernel
theorem dX3_init_7 : decode cX3_init 7 = .ok (.anewarray 9, 3) := by decide +kernel
theorem dX3_init_10 : decode cX3_init 10 = .ok (.putfield 11, 3) := by decide +kernel
theorem dX3_init_13 : decode cX3_init 13 = .ok (.aload_n 0, 1) := by decide +kernel
theorem dX3_init_14 : decode cX3_init 14 = .ok (.iconst 0, 1) := by decide +kernel
theorem dX3_init_15 : decode cX3_init 15 = .ok (.putfield 17, 3) := by decide +kernel
theorem dX3_init_18 : decode cX3_init 18 = .ok (.iconst 0, 1) := by decide +kernel
theorem dX3_init_19 : decode cX3_init 19 = .ok (.istore_n 2, 1) := by decide +kernel
theorem dX3_init_20 : decode cX3_init 20 = .ok (.iload_n 2, 1) := by decide +kernel
theorem dX3_init_21 : decode cX3_init 21 = .ok (.bipush 30, 2) := by decide +kernel
theorem dX3_init_23 : decode cX3_init 23 = .ok (.if_icmp .ge 16, 3) := by decide +kernel
theorem dX3_init_26 : decode cX3_init 26 = .ok (.aload_n 0, 1) := by decide +kernel
theorem dX3_init_27 : decode cX3_init 27 = .ok (.getfield 11, 3) := by decide +kernel
theorem dX3_init_30 : decode cX3_init 30 = .ok (.iload_n 2, 1) := by decide +kernel
theorem dX3_init_31 : decode cX3_init 31 = .ok (.aload_n 1, 1) := by decide +kernel
theorem dX3_init_32 : decode cX3_init 32 = .ok (.aastore, 1) := by decide +kernel
theorem dX3_init_33 : decode cX3_init 33 = .ok (.iinc 2 1, 3) := by decide +kernel
theorem dX3_init_36 : decode cX3_init 36 = .ok (.goto (-16), 3) := by decide +kernel
theorem dX3_init_39 : decode cX3_init 39 = .ok (.return_, 1) := by decide +kernel
theorem dX3_copyFrom_0 : decode cX3_copyFrom 0 = .ok (.aload_n 0, 1) := by decide +kernel
theorem dX3_copyFrom_1 : decode cX3_copyFrom 1 = .ok (.aload_n 1, 1) := by decide +kernel
theorem dX3_copyFrom_2 : decode cX3_copyFrom 2 = .ok (.getfield 17, 3) := by decide +kernel
theorem dX3_copyFrom_5 : decode cX3_copyFrom 5 = .ok (.putfield 17, 3) := by decide +kernel
theorem dX3_copyFrom_8 : decode cX3_copyFrom 8 = .ok (.iconst 0, 1) := by decide +kernel
theorem dX3_copyFrom_9 : decode cX3_copyFrom 9 = .ok (.istore_n 2, 1) := by decide +kernel
theorem dX3_copyFrom_10 : decode cX3_copyFrom 10 = .ok (.iload_n 2, 1) := by decide +kernel
theorem dX3_copyFrom_11 : decode cX3_copyFrom 11 = .ok (.aload_n 0, 1) := by decide +kernel
theorem dX3_copyFrom_12 : decode cX3_copyFrom 12 = .ok (.getfield 17, 3) := by decide +kernel
theorem dX3_copyFrom_15 : decode cX3_copyFrom 15 = .ok (.if_icmp .ge 21, 3) := by decide +kernel
theorem dX3_copyFrom_18 : decode cX3_copyFrom 18 = .ok (.aload_n 0, 1) := by decide +kernel
theorem dX3_copyFrom_19 : decode cX3_copyFrom 19 = .ok (.getfield 11, 3) := by decide +kernel
theorem dX3_copyFrom_22 : decode cX3_copyFrom 22 = .ok (.iload_n 2, 1) := by decide +kernel
theorem dX3_copyFrom_23 : decode cX3_copyFrom 23 = .ok (.aload_n 1, 1) := by decide +kernel
theorem dX3_copyFrom_24 : decode cX3_copyFrom 24 = .ok (.getfield 11, 3) := by decide +kernel
theorem dX3_copyFrom_27 : decode cX3_copyFrom 27 = .ok (.iload_n 2, 1) := by decide +kernel
theorem dX3_copyFrom_28 : decode cX3_copyFrom 28 = .ok (.aaload, 1) := by decide +kernel
theorem dX3_copyFrom_29 : decode cX3_copyFrom 29 = .ok (.aastore, 1) := by decide +kernel
theorem dX3_copyFrom_30 : decode cX3_copyFrom 30 = .ok (.iinc 2 1, 3) := by decide +kernel
theorem dX3_copyFrom_33 : decode cX3_copyFrom 33 = .ok (.goto (-23), 3) := by decide +kernel
theorem dX3_copyFrom_36 : decode cX3_copyFrom 36 = .ok (.return_, 1) := by decide +kernel
theorem dX3_remember_0 : decode cX3_remember 0 = .ok (.aload_n 0, 1) := by decide +kernel
theorem dX3_remember_1 : decode cX3_remember 1 = .ok (.getfield 17, 3) := by decide +kernel
theorem dX3_remember_4 : decode cX3_remember 4 = .ok (.bipush 30, 2) := by decide +kernel
theorem dX3_remember_6 : decode cX3_remember 6 = .ok (.if_icmp .lt 7, 3) := by decide +kernel
theorem dX3_remember_9 : decode cX3_remember 9 = .ok (.aload_n 0, 1) := by decide +kernel
theorem dX3_remember_10 : decode cX3_remember 10 = .ok (.invokevirtual 21, 3) := by decide +kernel
theorem dX3_remember_13 : decode cX3_remember 13 = .ok (.aload_n 0, 1) := by decide +kernel
theorem dX3_remember_14 : decode cX3_remember 14 = .ok (.getfield 11, 3) := by decide +kernel
theorem dX3_remember_17 : decode cX3_remember 17 = .ok (.aload_n 0, 1) := by decide +kernel
theorem dX3_remember_18 : decode cX3_remember 18 = .ok (.getfield 17, 3) := by decide +kernel
theorem dX3_remember_21 : decode cX3_remember 21 = .ok (.aload_n 1, 1) := by decide +kernel
theorem dX3_remember_22 : decode cX3_remember 22 = .ok (.aastore, 1) := by decide +kernel
theorem dX3_remember_23 : decode cX3_remember 23 = .ok (.aload_n 0, 1) := by decide +kernel
theorem dX3_remember_24 : decode cX3_remember 24 = .ok (.dup, 1) := by decide +kernel
theorem dX3_remember_25 : decode cX3_remember 25 = .ok (.getfield 17, 3) := by decide +kernel
theorem dX3_remember_28 : decode cX3_remember 28 = .ok (.iconst 1, 1) := by decide +kernel
theorem dX3_remember_29 : decode cX3_remember 29 = .ok (.iadd, 1) := by decide +kernel
theorem dX3_remember_30 : decode cX3_remember 30 = .ok (.putfield 17, 3) := by decide +kernel
theorem dX3_remember_33 : decode cX3_remember 33 = .ok (.return_, 1) := by decide +kernel
theorem dX3_dropFirst_0 : decode cX3_dropFirst 0 = .ok (.iconst 1, 1) := by decide +kernel
theorem dX3_dropFirst_1 : decode cX3_dropFirst 1 = .ok (.istore_n 1, 1) := by decide +kernel
theorem dX3_dropFirst_2 : decode cX3_dropFirst 2 = .ok (.iload_n 1, 1) := by decide +kernel
theorem dX3_dropFirst_3 : decode cX3_dropFirst 3 = .ok (.aload_n 0, 1) := by decide +kernel
theorem dX3_dropFirst_4 : decode cX3_dropFirst 4 = .ok (.getfield 17, 3) := by decide +kernel
theorem dX3_dropFirst_7 : decode cX3_dropFirst 7 = .ok (.if_icmp .ge 23, 3) := by decide +kernel
theorem dX3_dropFirst_10 : decode cX3_dropFirst 10 = .ok (.aload_n 0, 1) := by decide +kernel
theorem dX3_dropFirst_11 : decode cX3_dropFirst 11 = .ok (.getfield 11, 3) := by decide +kernel
theorem dX3_dropFirst_14 : decode cX3_dropFirst 14 = .ok (.iload_n 1, 1) := by decide +kernel
theorem dX3_dropFirst_15 : decode cX3_dropFirst 15 = .ok (.iconst 1, 1) := by decide +kernel
theorem dX3_dropFirst_16 : decode cX3_dropFirst 16 = .ok (.isub, 1) := by decide +kernel
theorem dX3_dropFirst_17 : decode cX3_dropFirst 17 = .ok (.aload_n 0, 1) := by decide +kernel
theorem dX3_dropFirst_18 : decode cX3_dropFirst 18 = .ok (.getfield 11, 3) := by decide +kernel
theorem dX3_dropFirst_21 : decode cX3_dropFirst 21 = .ok (.iload_n 1, 1) := by decide +kernel
theorem dX3_dropFirst_22 : decode cX3_dropFirst 22 = .ok (.aaload, 1) := by decide +kernel
theorem dX3_dropFirst_23 : decode cX3_dropFirst 23 = .ok (.aastore, 1) := by decide +kernel
theorem dX3_dropFirst_24 : decode cX3_dropFirst 24 = .ok (.iinc 1 1, 3) := by decide +kernel
theorem dX3_dropFirst_27 : decode cX3_dropFirst 27 = .ok (.goto (-25), 3) := by decide +kernel
theorem dX3_dropFirst_30 : decode cX3_dropFirst 30 = .ok (.aload_n 0, 1) := by decide +kernel
theorem dX3_dropFirst_31 : decode cX3_dropFirst 31 = .ok (.dup, 1) := by decide +kernel
theorem dX3_dropFirst_32 : decode cX3_dropFirst 32 = .ok (.getfield 17, 3) := by decide +kernel
theorem dX3_dropFirst_35 : decode cX3_dropFirst 35 = .ok (.iconst 1, 1) := by decide +kernel
theorem dX3_dropFirst_36 : decode cX3_dropFirst 36 = .ok (.isub, 1) := by decide +kernel
theorem dX3_dropFirst_37 : decode cX3_dropFirst 37 = .ok (.putfield 17, 3) := by decide +kernel
theorem dX3_dropFirst_40 : decode cX3_dropFirst 40 = .ok (.return_, 1) := by decide +kernel
theorem dX3_greatestMatch_0 : decode cX3_greatestMatch 0 = .ok (.iconst 0, 1) := by decide +kernel
theorem dX3_greatestMatch_1 : decode cX3_greatestMatch 1 = .ok (.istore_n 3, 1) := by decide +kernel
theorem dX3_greatestMatch_2 : decode cX3_greatestMatch 2 = .ok (.iload_n 2, 1) := by decide +kernel
theorem dX3_greatestMatch_3 : decode cX3_greatestMatch 3 = .ok (.istore 4, 2) := by decide +kernel
theorem dX3_greatestMatch_5 : decode cX3_greatestMatch 5 = .ok (.iload 4, 2) := by decide +kernel
theorem dX3_greatestMatch_7 : decode cX3_greatestMatch 7 = .ok (.aload_n 0, 1) := by decide +kernel
theorem dX3_greatestMatch_8 : decode cX3_greatestMatch 8 = .ok (.getfield 17, 3) := by decide +kernel
theorem dX3_greatestMatch_11 : decode cX3_greatestMatch 11 = .ok (.if_icmp .ge 25, 3) := by decide +kernel
theorem dX3_greatestMatch_14 : decode cX3_greatestMatch 14 = .ok (.iload_n 3, 1) := by decide +kernel
theorem dX3_greatestMatch_15 : decode cX3_greatestMatch 15 = .ok (.aload_n 1, 1) := by decide +kernel
theorem dX3_greatestMatch_16 : decode cX3_greatestMatch 16 = .ok (.aload_n 0, 1) := by decide +kernel
theorem dX3_greatestMatch_17 : decode cX3_greatestMatch 17 = .ok (.getfield 11, 3) := by decide +kernel
theorem dX3_greatestMatch_20 : decode cX3_greatestMatch 20 = .ok (.iload 4, 2) := by decide +kernel
theorem dX3_greatestMatch_22 : decode cX3_greatestMatch 22 = .ok (.aaload, 1) := by decide +kernel
theorem dX3_greatestMatch_23 : decode cX3_greatestMatch 23 = .ok (.invokevirtual 24, 3) := by decide +kernel
theorem dX3_greatestMatch_26 : decode cX3_greatestMatch 26 = .ok (.invokestatic 28, 3) := by decide +kernel
theorem dX3_greatestMatch_29 : decode cX3_greatestMatch 29 = .ok (.istore_n 3, 1) := by decide +kernel
theorem dX3_greatestMatch_30 : decode cX3_greatestMatch 30 = .ok (.iinc 4 1, 3) := by decide +kernel
theorem dX3_greatestMatch_33 : decode cX3_greatestMatch 33 = .ok (.goto (-28), 3) := by decide +kernel
theorem dX3_greatestMatch_36 : decode cX3_greatestMatch 36 = .ok (.iload_n 3, 1) := by decide +kernel
theorem dX3_greatestMatch_37 : decode cX3_greatestMatch 37 = .ok (.ireturn, 1) := by decide +kernel
theorem dX3_bestRow_0 : decode cX3_bestRow 0 = .ok (.aload_n 0, 1) := by decide +kernel
theorem dX3_bestRow_1 : decode cX3_bestRow 1 = .ok (.aload_n 1, 1) := by decide +kernel
theorem dX3_bestRow_2 : decode cX3_bestRow 2 = .ok (.iconst 0, 1) := by decide +kernel
theorem dX3_bestRow_3 : decode cX3_bestRow 3 = .ok (.invokevirtual 34, 3) := by decide +kernel
theorem dX3_bestRow_6 : decode cX3_bestRow 6 = .ok (.istore_n 2, 1) := by decide +kernel
theorem dX3_bestRow_7 : decode cX3_bestRow 7 = .ok (.iconst (-1), 1) := by decide +kernel
theorem dX3_bestRow_8 : decode cX3_bestRow 8 = .ok (.istore_n 3, 1) := by decide +kernel
theorem dX3_bestRow_9 : decode cX3_bestRow 9 = .ok (.iconst 0, 1) := by decide +kernel
theorem dX3_bestRow_10 : decode cX3_bestRow 10 = .ok (.istore 4, 2) := by decide +kernel
theorem dX3_bestRow_12 : decode cX3_bestRow 12 = .ok (.iload 4, 2) := by decide +kernel
theorem dX3_bestRow_14 : decode cX3_bestRow 14 = .ok (.aload_n 0, 1) := by decide +kernel
theorem dX3_bestRow_15 : decode cX3_bestRow 15 = .ok (.getfield 17, 3) := by decide +kernel
theorem dX3_bestRow_18 : decode cX3_bestRow 18 = .ok (.if_icmp .ge 27, 3) := by decide +kernel
theorem dX3_bestRow_21 : decode cX3_bestRow 21 = .ok (.aload_n 1, 1) := by decide +kernel
theorem dX3_bestRow_22 : decode cX3_bestRow 22 = .ok (.aload_n 0, 1) := by decide +kernel
theorem dX3_bestRow_23 : decode cX3_bestRow 23 = .ok (.getfield 11, 3) := by decide +kernel
theorem dX3_bestRow_26 : decode cX3_bestRow 26 = .ok (.iload 4, 2) := by decide +kernel
theorem dX3_bestRow_28 : decode cX3_bestRow 28 = .ok (.aaload, 1) := by decide +kernel
theorem dX3_bestRow_29 : decode cX3_bestRow 29 = .ok (.invokevirtual 24, 3) := by decide +kernel
theorem dX3_bestRow_32 : decode cX3_bestRow 32 = .ok (.iload_n 2, 1) := by decide +kernel
theorem dX3_bestRow_33 : decode cX3_bestRow 33 = .ok (.if_icmp .ne 6, 3) := by decide +kernel
theorem dX3_bestRow_36 : decode cX3_bestRow 36 = .ok (.iload 4, 2) := by decide +kernel
theorem dX3_bestRow_38 : decode cX3_bestRow 38 = .ok (.istore_n 3, 1) := by decide +kernel
theorem dX3_bestRow_39 : decode cX3_bestRow 39 = .ok (.iinc 4 1, 3) := by decide +kernel
theorem dX3_bestRow_42 : decode cX3_bestRow 42 = .ok (.goto (-30), 3) := by decide +kernel
theorem dX3_bestRow_45 : decode cX3_bestRow 45 = .ok (.iload_n 3, 1) := by decide +kernel
theorem dX3_bestRow_46 : decode cX3_bestRow 46 = .ok (.ireturn, 1) := by decide +kernel
theorem dX3_greatestMatchAfter_0 : decode cX3_greatestMatchAfter 0 = .ok (.aload_n 0, 1) := by decide +kernel
theorem dX3_greatestMatchAfter_1 : decode cX3_greatestMatchAfter 1 = .ok (.getfield 17, 3) := by decide +kernel
theorem dX3_greatestMatchAfter_4 : decode cX3_greatestMatchAfter 4 = .ok (.bipush 30, 2) := by decide +kernel
theorem dX3_greatestMatchAfter_6 : decode cX3_greatestMatchAfter 6 = .ok (.if_icmp .ne 7, 3) := by decide +kernel
theorem dX3_greatestMatchAfter_9 : decode cX3_greatestMatchAfter 9 = .ok (.iconst 1, 1) := by decide +kernel
theorem dX3_greatestMatchAfter_10 : decode cX3_greatestMatchAfter 10 = .ok (.goto 4, 3) := by decide +kernel
theorem dX3_greatestMatchAfter_13 : decode cX3_greatestMatchAfter 13 = .ok (.iconst 0, 1) := by decide +kernel
theorem dX3_greatestMatchAfter_14 : decode cX3_greatestMatchAfter 14 = .ok (.istore_n 3, 1) := by decide +kernel
theorem dX3_greatestMatchAfter_15 : decode cX3_greatestMatchAfter 15 = .ok (.aload_n 0, 1) := by decide +kernel
theorem dX3_greatestMatchAfter_16 : decode cX3_greatestMatchAfter 16 = .ok (.aload_n 1, 1) := by decide +kernel
theorem dX3_greatestMatchAfter_17 : decode cX3_greatestMatchAfter 17 = .ok (.iload_n 3, 1) := by decide +kernel
theorem dX3_greatestMatchAfter_18 : decode cX3_greatestMatchAfter 18 = .ok (.invokevirtual 34, 3) := by decide +kernel
theorem dX3_greatestMatchAfter_21 : decode cX3_greatestMatchAfter 21 = .ok (.aload_n 1, 1) := by decide +kernel
theorem dX3_greatestMatchAfter_22 : decode cX3_greatestMatchAfter 22 = .ok (.aload_n 2, 1) := by decide +kernel
theorem dX3_greatestMatchAfter_23 : decode cX3_greatestMatchAfter 23 = .ok (.invokevirtual 24, 3) := by decide +kernel
theorem dX3_greatestMatchAfter_26 : decode cX3_greatestMatchAfter 26 = .ok (.invokestatic 28, 3) := by decide +kernel
theorem dX3_greatestMatchAfter_29 : decode cX3_greatestMatchAfter 29 = .ok (.ireturn, 1) := by decide +kernel
theorem dX4_init_0 : decode cX4_init 0 = .ok (.aload_n 0, 1) := by decide +kernel
theorem dX4_init_1 : decode cX4_init 1 = .ok (.invokespecial 3, 3) := by decide +kernel
theorem dX4_init_4 : decode cX4_init 4 = .ok (.iconst 0, 1) := by decide +kernel
theorem dX4_init_5 : decode cX4_init 5 = .ok (.iload_n 2, 1) := by decide +kernel
theorem dX4_init_6 : decode cX4_init 6 = .ok (.invokestatic 9, 3) := by decide +kernel
theorem dX4_init_9 : decode cX4_init 9 = .ok (.istore 4, 2) := by decide +kernel
theorem dX4_init_11 : decode cX4_init 11 = .ok (.aload_n 0, 1) := by decide +kernel
theorem dX4_init_12 : decode cX4_init 12 = .ok (.iconst 0, 1) := by decide +kernel
theorem dX4_init_13 : decode cX4_init 13 = .ok (.iload_n 3, 1) := by decide +kernel
theorem dX4_init_14 : decode cX4_init 14 = .ok (.aload_n 1, 1) := by decide +kernel
theorem dX4_init_15 : decode cX4_init 15 = .ok (.arraylength, 1) := by decide +kernel
theorem dX4_init_16 : decode cX4_init 16 = .ok (.invokestatic 15, 3) := by decide +kernel
theorem dX4_init_19 : decode cX4_init 19 = .ok (.iload 4, 2) := by decide +kernel
theorem dX4_init_21 : decode cX4_init 21 = .ok (.isub, 1) := by decide +kernel
theorem dX4_init_22 : decode cX4_init 22 = .ok (.invokestatic 9, 3) := by decide +kernel
theorem dX4_init_25 : decode cX4_init 25 = .ok (.putfield 18, 3) := by decide +kernel
theorem dX4_init_28 : decode cX4_init 28 = .ok (.aload_n 0, 1) := by decide +kernel
theorem dX4_init_29 : decode cX4_init 29 = .ok (.aload_n 0, 1) := by decide +kernel
theorem dX4_init_30 : decode cX4_init 30 = .ok (.getfield 18, 3) := by decide +kernel
theorem dX4_init_33 : decode cX4_init 33 = .ok (.newarray .int, 2) := by decide +kernel
theorem dX4_init_35 : decode cX4_init 35 = .ok (.putfield 24, 3) := by decide +kernel
theorem dX4_init_38 : decode cX4_init 38 = .ok (.aload_n 0, 1) := by decide +kernel
theorem dX4_init_39 : decode cX4_init 39 = .ok (.bipush 8, 2) := by decide +kernel
theorem dX4_init_41 : decode cX4_init 41 = .ok (.newarray .int, 2) := by decide +kernel
theorem dX4_init_43 : decode cX4_init 43 = .ok (.putfield 28, 3) := by decide +kernel
theorem dX4_init_46 : decode cX4_init 46 = .ok (.iconst 0, 1) := by decide +kernel
theorem dX4_init_47 : decode cX4_init 47 = .ok (.istore 5, 2) := by decide +kernel
theorem dX4_init_49 : decode cX4_init 49 = .ok (.iload 5, 2) := by decide +kernel
theorem dX4_init_51 : decode cX4_init 51 = .ok (.aload_n 0, 1) := by decide +kernel
theorem dX4_init_52 : decode cX4_init 52 = .ok (.getfield 18, 3) := by decide +kernel
theorem dX4_init_55 : decode cX4_init 55 = .ok (.if_icmp .ge 56, 3) := by decide +kernel
theorem dX4_init_58 : decode cX4_init 58 = .ok (.aload_n 1, 1) := by decide +kernel
theorem dX4_init_59 : decode cX4_init 59 = .ok (.iload 4, 2) := by decide +kernel
theorem dX4_init_61 : decode cX4_init 61 = .ok (.iload 5, 2) := by decide +kernel
theorem dX4_init_63 : decode cX4_init 63 = .ok (.iadd, 1) := by decide +kernel
theorem dX4_init_64 : decode cX4_init 64 = .ok (.iaload, 1) := by decide +kernel
theorem dX4_init_65 : decode cX4_init 65 = .ok (.bipush 97, 2) := by decide +kernel
theorem dX4_init_67 : decode cX4_init 67 = .ok (.isub, 1) := by decide +kernel
theorem dX4_init_68 : decode cX4_init 68 = .ok (.istore 6, 2) := by decide +kernel
theorem dX4_init_70 : decode cX4_init 70 = .ok (.iload 6, 2) := by decide +kernel
theorem dX4_init_72 : decode cX4_init 72 = .ok (.ifCond .lt 33, 3) := by decide +kernel
theorem dX4_init_75 : decode cX4_init 75 = .ok (.iload 6, 2) := by decide +kernel
theorem dX4_init_77 : decode cX4_init 77 = .ok (.bipush 8, 2) := by decide +kernel
theorem dX4_init_79 : decode cX4_init 79 = .ok (.if_icmp .ge 26, 3) := by decide +kernel
theorem dX4_init_82 : decode cX4_init 82 = .ok (.aload_n 0, 1) := by decide +kernel
theorem dX4_init_83 : decode cX4_init 83 = .ok (.getfield 24, 3) := by decide +kernel
theorem dX4_init_86 : decode cX4_init 86 = .ok (.iload 5, 2) := by decide +kernel
theorem dX4_init_88 : decode cX4_init 88 = .ok (.iload 6, 2) := by decide +kernel
theorem dX4_init_90 : decode cX4_init 90 = .ok (.iastore, 1) := by decide +kernel
theorem dX4_init_91 : decode cX4_init 91 = .ok (.aload_n 0, 1) := by decide +kernel
theorem dX4_init_92 : decode cX4_init 92 = .ok (.getfield 28, 3) := by decide +kernel
theorem dX4_init_95 : decode cX4_init 95 = .ok (.iload 6, 2) := by decide +kernel
theorem dX4_init_97 : decode cX4_init 97 = .ok (.dup2, 1) := by decide +kernel
theorem dX4_init_98 : decode cX4_init 98 = .ok (.iaload, 1) := by decide +kernel
theorem dX4_init_99 : decode cX4_init 99 = .ok (.iconst 1, 1) := by decide +kernel
theorem dX4_init_100 : decode cX4_init 100 = .ok (.iload 5, 2) := by decide +kernel
theorem dX4_init_102 : decode cX4_init 102 = .ok (.ishl, 1) := by decide +kernel
theorem dX4_init_103 : decode cX4_init 103 = .ok (.ior, 1) := by decide +kernel
theorem dX4_init_104 : decode cX4_init 104 = .ok (.iastore, 1) := by decide +kernel
theorem dX4_init_105 : decode cX4_init 105 = .ok (.iinc 5 1, 3) := by decide +kernel
theorem dX4_init_108 : decode cX4_init 108 = .ok (.goto (-59), 3) := by decide +kernel
theorem dX4_init_111 : decode cX4_init 111 = .ok (.return_, 1) := by decide +kernel
theorem dX4_wordAt_0 : decode cX4_wordAt 0 = .ok (.iload_n 1, 1) := by decide +kernel
theorem dX4_wordAt_1 : decode cX4_wordAt 1 = .ok (.ifCond .lt 20, 3) := by decide +kernel
theorem dX4_wordAt_4 : decode cX4_wordAt 4 = .ok (.iload_n 1, 1) := by decide +kernel
theorem dX4_wordAt_5 : decode cX4_wordAt 5 = .ok (.aload_n 0, 1) := by decide +kernel
theorem dX4_wordAt_6 : decode cX4_wordAt 6 = .ok (.getfield 18, 3) := by decide +kernel
theorem dX4_wordAt_9 : decode cX4_wordAt 9 = .ok (.if_icmp .ge 12, 3) := by decide +kernel
theorem dX4_wordAt_12 : decode cX4_wordAt 12 = .ok (.aload_n 0, 1) := by decide +kernel
theorem dX4_wordAt_13 : decode cX4_wordAt 13 = .ok (.getfield 24, 3) := by decide +kernel
theorem dX4_wordAt_16 : decode cX4_wordAt 16 = .ok (.iload_n 1, 1) := by decide +kernel
theorem dX4_wordAt_17 : decode cX4_wordAt 17 = .ok (.iaload, 1) := by decide +kernel
theorem dX4_wordAt_18 : decode cX4_wordAt 18 = .ok (.goto 4, 3) := by decide +kernel
theorem dX4_wordAt_21 : decode cX4_wordAt 21 = .ok (.iconst (-1), 1) := by decide +kernel
theorem dX4_wordAt_22 : decode cX4_wordAt 22 = .ok (.ireturn, 1) := by decide +kernel
theorem dX4_placeOf_0 : decode cX4_placeOf 0 = .ok (.iload_n 2, 1) := by decide +kernel
theorem dX4_placeOf_1 : decode cX4_placeOf 1 = .ok (.istore_n 3, 1) := by decide +kernel
theorem dX4_placeOf_2 : decode cX4_placeOf 2 = .ok (.iload_n 3, 1) := by decide +kernel
theorem dX4_placeOf_3 : decode cX4_placeOf 3 = .ok (.aload_n 0, 1) := by decide +kernel
theorem dX4_placeOf_4 : decode cX4_placeOf 4 = .ok (.getfield 18, 3) := by decide +kernel
theorem dX4_placeOf_7 : decode cX4_placeOf 7 = .ok (.if_icmp .ge 21, 3) := by decide +kernel
theorem dX4_placeOf_10 : decode cX4_placeOf 10 = .ok (.aload_n 0, 1) := by decide +kernel
theorem dX4_placeOf_11 : decode cX4_placeOf 11 = .ok (.getfield 24, 3) := by decide +kernel
theorem dX4_placeOf_14 : decode cX4_placeOf 14 = .ok (.iload_n 3, 1) := by decide +kernel
theorem dX4_placeOf_15 : decode cX4_placeOf 15 = .ok (.iaload, 1) := by decide +kernel
theorem dX4_placeOf_16 : decode cX4_placeOf 16 = .ok (.iload_n 1, 1) := by decide +kernel
theorem dX4_placeOf_17 : decode cX4_placeOf 17 = .ok (.if_icmp .ne 5, 3) := by decide +kernel
theorem dX4_placeOf_20 : decode cX4_placeOf 20 = .ok (.iload_n 3, 1) := by decide +kernel
theorem dX4_placeOf_21 : decode cX4_placeOf 21 = .ok (.ireturn, 1) := by decide +kernel
theorem dX4_placeOf_22 : decode cX4_placeOf 22 = .ok (.iinc 3 1, 3) := by decide +kernel
theorem dX4_placeOf_25 : decode cX4_placeOf 25 = .ok (.goto (-23), 3) := by decide +kernel
theorem dX4_placeOf_28 : decode cX4_placeOf 28 = .ok (.iconst (-1), 1) := by decide +kernel
theorem dX4_placeOf_29 : decode cX4_placeOf 29 = .ok (.ireturn, 1) := by decide +kernel
theorem dX4_commonLength_0 : decode cX4_commonLength 0 = .ok (.iload_n 1, 1) := by decide +kernel
theorem dX4_commonLength_1 : decode cX4_commonLength 1 = .ok (.aload_n 0, 1) := by decide +kernel
theorem dX4_commonLength_2 : decode cX4_commonLength 2 = .ok (.getfield 18, 3) := by decide +kernel
theorem dX4_commonLength_5 : decode cX4_commonLength 5 = .ok (.if_icmp .lt 5, 3) := by decide +kernel
theorem dX4_commonLength_8 : decode cX4_commonLength 8 = .ok (.iconst 0, 1) := by decide +kernel
theorem dX4_commonLength_9 : decode cX4_commonLength 9 = .ok (.ireturn, 1) := by decide +kernel
theorem dX4_commonLength_10 : decode cX4_commonLength 10 = .ok (.iconst 1, 1) := by decide +kernel
theorem dX4_commonLength_11 : decode cX4_commonLength 11 = .ok (.aload_n 0, 1) := by decide +kernel
theorem dX4_commonLength_12 : decode cX4_commonLength 12 = .ok (.getfield 18, 3) := by decide +kernel
theorem dX4_commonLength_15 : decode cX4_commonLength 15 = .ok (.iload_n 1, 1) := by decide +kernel
theorem dX4_commonLength_16 : decode cX4_commonLength 16 = .ok (.isub, 1) := by decide +kernel
theorem dX4_commonLength_17 : decode cX4_commonLength 17 = .ok (.ishl, 1) := by decide +kernel
theorem dX4_commonLength_18 : decode cX4_commonLength 18 = .ok (.iconst 1, 1) := by decide +kernel
theorem dX4_commonLength_19 : decode cX4_commonLength 19 = .ok (.isub, 1) := by decide +kernel
theorem dX4_commonLength_20 : decode cX4_commonLength 20 = .ok (.istore 4, 2) := by decide +kernel
theorem dX4_commonLength_22 : decode cX4_commonLength 22 = .ok (.iload 4, 2) := by decide +kernel
theorem dX4_commonLength_24 : decode cX4_commonLength 24 = .ok (.istore 5, 2) := by decide +kernel
theorem dX4_commonLength_26 : decode cX4_commonLength 26 = .ok (.iload_n 3, 1) := by decide +kernel
theorem dX4_commonLength_27 : decode cX4_commonLength 27 = .ok (.istore 6, 2) := by decide +kernel
theorem dX4_commonLength_29 : decode cX4_commonLength 29 = .ok (.iload 6, 2) := by decide +kernel
theorem dX4_commonLength_31 : decode cX4_commonLength 31 = .ok (.aload_n 2, 1) := by decide +kernel
theorem dX4_commonLength_32 : decode cX4_commonLength 32 = .ok (.getfield 18, 3) := by decide +kernel
theorem dX4_commonLength_35 : decode cX4_commonLength 35 = .ok (.if_icmp .ge 46, 3) := by decide +kernel
theorem dX4_commonLength_38 : decode cX4_commonLength 38 = .ok (.aload_n 0, 1) := by decide +kernel
theorem dX4_commonLength_39 : decode cX4_commonLength 39 = .ok (.getfield 28, 3) := by decide +kernel
theorem dX4_commonLength_42 : decode cX4_commonLength 42 = .ok (.aload_n 2, 1) := by decide +kernel
theorem dX4_commonLength_43 : decode cX4_commonLength 43 = .ok (.getfield 24, 3) := by decide +kernel
theorem dX4_commonLength_46 : decode cX4_commonLength 46 = .ok (.iload 6, 2) := by decide +kernel
theorem dX4_commonLength_48 : decode cX4_commonLength 48 = .ok (.iaload, 1) := by decide +kernel
theorem dX4_commonLength_49 : decode cX4_commonLength 49 = .ok (.iaload, 1) := by decide +kernel
theorem dX4_commonLength_50 : decode cX4_commonLength 50 = .ok (.iload_n 1, 1) := by decide +kernel
theorem dX4_commonLength_51 : decode cX4_commonLength 51 = .ok (.ishr, 1) := by decide +kernel
theorem dX4_commonLength_52 : decode cX4_commonLength 52 = .ok (.istore 7, 2) := by decide +kernel
theorem dX4_commonLength_54 : decode cX4_commonLength 54 = .ok (.iload 5, 2) := by decide +kernel
theorem dX4_commonLength_56 : decode cX4_commonLength 56 = .ok (.iload 5, 2) := by decide +kernel
theorem dX4_commonLength_58 : decode cX4_commonLength 58 = .ok (.iload 7, 2) := by decide +kernel
theorem dX4_commonLength_60 : decode cX4_commonLength 60 = .ok (.iand, 1) := by decide +kernel
theorem dX4_commonLength_61 : decode cX4_commonLength 61 = .ok (.iadd, 1) := by decide +kernel
theorem dX4_commonLength_62 : decode cX4_commonLength 62 = .ok (.iload 5, 2) := by decide +kernel
theorem dX4_commonLength_64 : decode cX4_commonLength 64 = .ok (.iload 7, 2) := by decide +kernel
theorem dX4_commonLength_66 : decode cX4_commonLength 66 = .ok (.iconst (-1), 1) := by decide +kernel
theorem dX4_commonLength_67 : decode cX4_commonLength 67 = .ok (.ixor, 1) := by decide +kernel
theorem dX4_commonLength_68 : decode cX4_commonLength 68 = .ok (.iand, 1) := by decide +kernel
theorem dX4_commonLength_69 : decode cX4_commonLength 69 = .ok (.ior, 1) := by decide +kernel
theorem dX4_commonLength_70 : decode cX4_commonLength 70 = .ok (.iload 4, 2) := by decide +kernel
theorem dX4_commonLength_72 : decode cX4_commonLength 72 = .ok (.iand, 1) := by decide +kernel
theorem dX4_commonLength_73 : decode cX4_commonLength 73 = .ok (.istore 5, 2) := by decide +kernel
theorem dX4_commonLength_75 : decode cX4_commonLength 75 = .ok (.iinc 6 1, 3) := by decide +kernel
theorem dX4_commonLength_78 : decode cX4_commonLength 78 = .ok (.goto (-49), 3) := by decide +kernel
theorem dX4_commonLength_81 : decode cX4_commonLength 81 = .ok (.aload_n 0, 1) := by decide +kernel
theorem dX4_commonLength_82 : decode cX4_commonLength 82 = .ok (.getfield 18, 3) := by decide +kernel
theorem dX4_commonLength_85 : decode cX4_commonLength 85 = .ok (.iload_n 1, 1) := by decide +kernel
theorem dX4_commonLength_86 : decode cX4_commonLength 86 = .ok (.isub, 1) := by decide +kernel
theorem dX4_commonLength_87 : decode cX4_commonLength 87 = .ok (.iload 5, 2) := by decide +kernel
theorem dX4_commonLength_89 : decode cX4_commonLength 89 = .ok (.invokestatic 31, 3) := by decide +kernel
theorem dX4_commonLength_92 : decode cX4_commonLength 92 = .ok (.isub, 1) := by decide +kernel
theorem dX4_commonLength_93 : decode cX4_commonLength 93 = .ok (.ireturn, 1) := by decide +kernel
theorem dX4_matchWith_0 : decode cX4_matchWith 0 = .ok (.aload_n 0, 1) := by decide +kernel
theorem dX4_matchWith_1 : decode cX4_matchWith 1 = .ok (.getfield 18, 3) := by decide +kernel
theorem dX4_matchWith_4 : decode cX4_matchWith 4 = .ok (.aload_n 1, 1) := by decide +kernel
theorem dX4_matchWith_5 : decode cX4_matchWith 5 = .ok (.getfield 18, 3) := by decide +kernel
theorem dX4_matchWith_8 : decode cX4_matchWith 8 = .ok (.iadd, 1) := by decide +kernel
theorem dX4_matchWith_9 : decode cX4_matchWith 9 = .ok (.istore_n 2, 1) := by decide +kernel
theorem dX4_matchWith_10 : decode cX4_matchWith 10 = .ok (.iload_n 2, 1) := by decide +kernel
theorem dX4_matchWith_11 : decode cX4_matchWith 11 = .ok (.ifCond .ne 7, 3) := by decide +kernel
theorem dX4_matchWith_14 : decode cX4_matchWith 14 = .ok (.iconst 0, 1) := by decide +kernel
theorem dX4_matchWith_15 : decode cX4_matchWith 15 = .ok (.goto 16, 3) := by decide +kernel
theorem dX4_matchWith_18 : decode cX4_matchWith 18 = .ok (.sipush 200, 3) := by decide +kernel
theorem dX4_matchWith_21 : decode cX4_matchWith 21 = .ok (.aload_n 0, 1) := by decide +kernel
theorem dX4_matchWith_22 : decode cX4_matchWith 22 = .ok (.iconst 0, 1) := by decide +kernel
theorem dX4_matchWith_23 : decode cX4_matchWith 23 = .ok (.aload_n 1, 1) := by decide +kernel
theorem dX4_matchWith_24 : decode cX4_matchWith 24 = .ok (.iconst 0, 1) := by decide +kernel
theorem dX4_matchWith_25 : decode cX4_matchWith 25 = .ok (.invokevirtual 37, 3) := by decide +kernel
theorem dX4_matchWith_28 : decode cX4_matchWith 28 = .ok (.imul, 1) := by decide +kernel
theorem dX4_matchWith_29 : decode cX4_matchWith 29 = .ok (.iload_n 2, 1) := by decide +kernel
theorem dX4_matchWith_30 : decode cX4_matchWith 30 = .ok (.idiv, 1) := by decide +kernel
theorem dX4_matchWith_31 : decode cX4_matchWith 31 = .ok (.ireturn, 1) := by decide +kernel
theorem dX4_likenessTo_0 : decode cX4_likenessTo 0 = .ok (.aload_n 0, 1) := by decide +kernel
theorem dX4_likenessTo_1 : decode cX4_likenessTo 1 = .ok (.getfield 18, 3) := by decide +kernel
theorem dX4_likenessTo_4 : decode cX4_likenessTo 4 = .ok (.aload_n 1, 1) := by decide +kernel
theorem dX4_likenessTo_5 : decode cX4_likenessTo 5 = .ok (.getfield 18, 3) := by decide +kernel
theorem dX4_likenessTo_8 : decode cX4_likenessTo 8 = .ok (.iadd, 1) := by decide +kernel
theorem dX4_likenessTo_9 : decode cX4_likenessTo 9 = .ok (.istore_n 2, 1) := by decide +kernel
theorem dX4_likenessTo_10 : decode cX4_likenessTo 10 = .ok (.iload_n 2, 1) := by decide +kernel
theorem dX4_likenessTo_11 : decode cX4_likenessTo 11 = .ok (.ifCond .ne 7, 3) := by decide +kernel
theorem dX4_likenessTo_14 : decode cX4_likenessTo 14 = .ok (.fconst 0, 1) := by decide +kernel
theorem dX4_likenessTo_15 : decode cX4_likenessTo 15 = .ok (.goto 16, 3) := by decide +kernel
theorem dX4_likenessTo_18 : decode cX4_likenessTo 18 = .ok (.iconst 2, 1) := by decide +kernel
theorem dX4_likenessTo_19 : decode cX4_likenessTo 19 = .ok (.aload_n 0, 1) := by decide +kernel
theorem dX4_likenessTo_20 : decode cX4_likenessTo 20 = .ok (.iconst 0, 1) := by decide +kernel
theorem dX4_likenessTo_21 : decode cX4_likenessTo 21 = .ok (.aload_n 1, 1) := by decide +kernel
theorem dX4_likenessTo_22 : decode cX4_likenessTo 22 = .ok (.iconst 0, 1) := by decide +kernel
theorem dX4_likenessTo_23 : decode cX4_likenessTo 23 = .ok (.invokevirtual 37, 3) := by decide +kernel
theorem dX4_likenessTo_26 : decode cX4_likenessTo 26 = .ok (.imul, 1) := by decide +kernel
theorem dX4_likenessTo_27 : decode cX4_likenessTo 27 = .ok (.i2f, 1) := by decide +kernel
theorem dX4_likenessTo_28 : decode cX4_likenessTo 28 = .ok (.iload_n 2, 1) := by decide +kernel
theorem dX4_likenessTo_29 : decode cX4_likenessTo 29 = .ok (.i2f, 1) := by decide +kernel
theorem dX4_likenessTo_30 : decode cX4_likenessTo 30 = .ok (.fdiv, 1) := by decide +kernel
theorem dX4_likenessTo_31 : decode cX4_likenessTo 31 = .ok (.freturn, 1) := by decide +kernel
theorem dX4_commonWord_0 : decode cX4_commonWord 0 = .ok (.iconst 0, 1) := by decide +kernel
theorem dX4_commonWord_1 : decode cX4_commonWord 1 = .ok (.istore_n 3, 1) := by decide +kernel
theorem dX4_commonWord_2 : decode cX4_commonWord 2 = .ok (.iconst 0, 1) := by decide +kernel
theorem dX4_commonWord_3 : decode cX4_commonWord 3 = .ok (.istore 4, 2) := by decide +kernel
theorem dX4_commonWord_5 : decode cX4_commonWord 5 = .ok (.aload_n 0, 1) := by decide +kernel
theorem dX4_commonWord_6 : decode cX4_commonWord 6 = .ok (.iconst 0, 1) := by decide +kernel
theorem dX4_commonWord_7 : decode cX4_commonWord 7 = .ok (.aload_n 1, 1) := by decide +kernel
theorem dX4_commonWord_8 : decode cX4_commonWord 8 = .ok (.iconst 0, 1) := by decide +kernel
theorem dX4_commonWord_9 : decode cX4_commonWord 9 = .ok (.invokevirtual 37, 3) := by decide +kernel
theorem dX4_commonWord_12 : decode cX4_commonWord 12 = .ok (.istore 5, 2) := by decide +kernel
theorem dX4_commonWord_14 : decode cX4_commonWord 14 = .ok (.iconst 0, 1) := by decide +kernel
theorem dX4_commonWord_15 : decode cX4_commonWord 15 = .ok (.istore 6, 2) := by decide +kernel
theorem dX4_commonWord_17 : decode cX4_commonWord 17 = .ok (.iload 6, 2) := by decide +kernel
theorem dX4_commonWord_19 : decode cX4_commonWord 19 = .ok (.iload_n 2, 1) := by decide +kernel
theorem dX4_commonWord_20 : decode cX4_commonWord 20 = .ok (.if_icmp .ge 51, 3) := by decide +kernel
theorem dX4_commonWord_23 : decode cX4_commonWord 23 = .ok (.iload 5, 2) := by decide +kernel
theorem dX4_commonWord_25 : decode cX4_commonWord 25 = .ok (.ifCond .le 46, 3) := by decide +kernel
theorem dX4_commonWord_28 : decode cX4_commonWord 28 = .ok (.aload_n 0, 1) := by decide +kernel
theorem dX4_commonWord_29 : decode cX4_commonWord 29 = .ok (.iload_n 3, 1) := by decide +kernel
theorem dX4_commonWord_30 : decode cX4_commonWord 30 = .ok (.aload_n 1, 1) := by decide +kernel
theorem dX4_commonWord_31 : decode cX4_commonWord 31 = .ok (.iload 4, 2) := by decide +kernel
theorem dX4_commonWord_33 : decode cX4_commonWord 33 = .ok (.iload 5, 2) := by decide +kernel
theorem dX4_commonWord_35 : decode cX4_commonWord 35 = .ok (.invokevirtual 41, 3) := by decide +kernel
theorem dX4_commonWord_38 : decode cX4_commonWord 38 = .ok (.istore 7, 2) := by decide +kernel
theorem dX4_commonWord_40 : decode cX4_commonWord 40 = .ok (.aload_n 0, 1) := by decide +kernel
theorem dX4_commonWord_41 : decode cX4_commonWord 41 = .ok (.iload 7, 2) := by decide +kernel
theorem dX4_commonWord_43 : decode cX4_commonWord 43 = .ok (.iload_n 3, 1) := by decide +kernel
theorem dX4_commonWord_44 : decode cX4_commonWord 44 = .ok (.invokevirtual 45, 3) := by decide +kernel
theorem dX4_commonWord_47 : decode cX4_commonWord 47 = .ok (.iconst 1, 1) := by decide +kernel
theorem dX4_commonWord_48 : decode cX4_commonWord 48 = .ok (.iadd, 1) := by decide +kernel
theorem dX4_commonWord_49 : decode cX4_commonWord 49 = .ok (.istore_n 3, 1) := by decide +kernel
theorem dX4_commonWord_50 : decode cX4_commonWord 50 = .ok (.aload_n 1, 1) := by decide +kernel
theorem dX4_commonWord_51 : decode cX4_commonWord 51 = .ok (.iload 7, 2) := by decide +kernel
theorem dX4_commonWord_53 : decode cX4_commonWord 53 = .ok (.iload 4, 2) := by decide +kernel
theorem dX4_commonWord_55 : decode cX4_commonWord 55 = .ok (.invokevirtual 45, 3) := by decide +kernel
theorem dX4_commonWord_58 : decode cX4_commonWord 58 = .ok (.iconst 1, 1) := by decide +kernel
theorem dX4_commonWord_59 : decode cX4_commonWord 59 = .ok (.iadd, 1) := by decide +kernel
theorem dX4_commonWord_60 : decode cX4_commonWord 60 = .ok (.istore 4, 2) := by decide +kernel
theorem dX4_commonWord_62 : decode cX4_commonWord 62 = .ok (.iinc 5 (-1), 3) := by decide +kernel
theorem dX4_commonWord_65 : decode cX4_commonWord 65 = .ok (.iinc 6 1, 3) := by decide +kernel
theorem dX4_commonWord_68 : decode cX4_commonWord 68 = .ok (.goto (-51), 3) := by decide +kernel
theorem dX4_commonWord_71 : decode cX4_commonWord 71 = .ok (.iload 5, 2) := by decide +kernel
theorem dX4_commonWord_73 : decode cX4_commonWord 73 = .ok (.ifCond .le 16, 3) := by decide +kernel
theorem dX4_commonWord_76 : decode cX4_commonWord 76 = .ok (.aload_n 0, 1) := by decide +kernel
theorem dX4_commonWord_77 : decode cX4_commonWord 77 = .ok (.iload_n 3, 1) := by decide +kernel
theorem dX4_commonWord_78 : decode cX4_commonWord 78 = .ok (.aload_n 1, 1) := by decide +kernel
theorem dX4_commonWord_79 : decode cX4_commonWord 79 = .ok (.iload 4, 2) := by decide +kernel
theorem dX4_commonWord_81 : decode cX4_commonWord 81 = .ok (.iload 5, 2) := by decide +kernel
theorem dX4_commonWord_83 : decode cX4_commonWord 83 = .ok (.invokevirtual 41, 3) := by decide +kernel
theorem dX4_commonWord_86 : decode cX4_commonWord 86 = .ok (.goto 4, 3) := by decide +kernel
theorem dX4_commonWord_89 : decode cX4_commonWord 89 = .ok (.iconst (-1), 1) := by decide +kernel
theorem dX4_commonWord_90 : decode cX4_commonWord 90 = .ok (.ireturn, 1) := by decide +kernel
theorem dX4_leastBeginning_0 : decode cX4_leastBeginning 0 = .ok (.iconst 0, 1) := by decide +kernel
theorem dX4_leastBeginning_1 : decode cX4_leastBeginning 1 = .ok (.istore 5, 2) := by decide +kernel
theorem dX4_leastBeginning_3 : decode cX4_leastBeginning 3 = .ok (.iload 5, 2) := by decide +kernel
theorem dX4_leastBeginning_5 : decode cX4_leastBeginning 5 = .ok (.bipush 8, 2) := by decide +kernel
theorem dX4_leastBeginning_7 : decode cX4_leastBeginning 7 = .ok (.if_icmp .ge 62, 3) := by decide +kernel
theorem dX4_leastBeginning_10 : decode cX4_leastBeginning 10 = .ok (.aload_n 0, 1) := by decide +kernel
theorem dX4_leastBeginning_11 : decode cX4_leastBeginning 11 = .ok (.iload 5, 2) := by decide +kernel
theorem dX4_leastBeginning_13 : decode cX4_leastBeginning 13 = .ok (.iload_n 1, 1) := by decide +kernel
theorem dX4_leastBeginning_14 : decode cX4_leastBeginning 14 = .ok (.invokevirtual 45, 3) := by decide +kernel
theorem dX4_leastBeginning_17 : decode cX4_leastBeginning 17 = .ok (.istore 6, 2) := by decide +kernel
theorem dX4_leastBeginning_19 : decode cX4_leastBeginning 19 = .ok (.aload_n 2, 1) := by decide +kernel
theorem dX4_leastBeginning_20 : decode cX4_leastBeginning 20 = .ok (.iload 5, 2) := by decide +kernel
theorem dX4_leastBeginning_22 : decode cX4_leastBeginning 22 = .ok (.iload_n 3, 1) := by decide +kernel
theorem dX4_leastBeginning_23 : decode cX4_leastBeginning 23 = .ok (.invokevirtual 45, 3) := by decide +kernel
theorem dX4_leastBeginning_26 : decode cX4_leastBeginning 26 = .ok (.istore 7, 2) := by decide +kernel
theorem dX4_leastBeginning_28 : decode cX4_leastBeginning 28 = .ok (.iload 6, 2) := by decide +kernel
theorem dX4_leastBeginning_30 : decode cX4_leastBeginning 30 = .ok (.iconst (-1), 1) := by decide +kernel
theorem dX4_leastBeginning_31 : decode cX4_leastBeginning 31 = .ok (.if_icmp .eq 32, 3) := by decide +kernel
theorem dX4_leastBeginning_34 : decode cX4_leastBeginning 34 = .ok (.iload 7, 2) := by decide +kernel
theorem dX4_leastBeginning_36 : decode cX4_leastBeginning 36 = .ok (.iconst (-1), 1) := by decide +kernel
theorem dX4_leastBeginning_37 : decode cX4_leastBeginning 37 = .ok (.if_icmp .eq 26, 3) := by decide +kernel
theorem dX4_leastBeginning_40 : decode cX4_leastBeginning 40 = .ok (.iconst 1, 1) := by decide +kernel
theorem dX4_leastBeginning_41 : decode cX4_leastBeginning 41 = .ok (.aload_n 0, 1) := by decide +kernel
theorem dX4_leastBeginning_42 : decode cX4_leastBeginning 42 = .ok (.iload 6, 2) := by decide +kernel
theorem dX4_leastBeginning_44 : decode cX4_leastBeginning 44 = .ok (.iconst 1, 1) := by decide +kernel
theorem dX4_leastBeginning_45 : decode cX4_leastBeginning 45 = .ok (.iadd, 1) := by decide +kernel
theorem dX4_leastBeginning_46 : decode cX4_leastBeginning 46 = .ok (.aload_n 2, 1) := by decide +kernel
theorem dX4_leastBeginning_47 : decode cX4_leastBeginning 47 = .ok (.iload 7, 2) := by decide +kernel
theorem dX4_leastBeginning_49 : decode cX4_leastBeginning 49 = .ok (.iconst 1, 1) := by decide +kernel
theorem dX4_leastBeginning_50 : decode cX4_leastBeginning 50 = .ok (.iadd, 1) := by decide +kernel
theorem dX4_leastBeginning_51 : decode cX4_leastBeginning 51 = .ok (.invokevirtual 37, 3) := by decide +kernel
theorem dX4_leastBeginning_54 : decode cX4_leastBeginning 54 = .ok (.iadd, 1) := by decide +kernel
theorem dX4_leastBeginning_55 : decode cX4_leastBeginning 55 = .ok (.iload 4, 2) := by decide +kernel
theorem dX4_leastBeginning_57 : decode cX4_leastBeginning 57 = .ok (.if_icmp .ne 6, 3) := by decide +kernel
theorem dX4_leastBeginning_60 : decode cX4_leastBeginning 60 = .ok (.iload 5, 2) := by decide +kernel
theorem dX4_leastBeginning_62 : decode cX4_leastBeginning 62 = .ok (.ireturn, 1) := by decide +kernel
theorem dX4_leastBeginning_63 : decode cX4_leastBeginning 63 = .ok (.iinc 5 1, 3) := by decide +kernel
theorem dX4_leastBeginning_66 : decode cX4_leastBeginning 66 = .ok (.goto (-63), 3) := by decide +kernel
theorem dX4_leastBeginning_69 : decode cX4_leastBeginning 69 = .ok (.iconst (-1), 1) := by decide +kernel
theorem dX4_leastBeginning_70 : decode cX4_leastBeginning 70 = .ok (.ireturn, 1) := by decide +kernel
theorem dX5_init_0 : decode cX5_init 0 = .ok (.aload_n 0, 1) := by decide +kernel
theorem dX5_init_1 : decode cX5_init 1 = .ok (.invokespecial 3, 3) := by decide +kernel
theorem dX5_init_4 : decode cX5_init 4 = .ok (.aload_n 0, 1) := by decide +kernel
theorem dX5_init_5 : decode cX5_init 5 = .ok (.aload_n 1, 1) := by decide +kernel
theorem dX5_init_6 : decode cX5_init 6 = .ok (.putfield 9, 3) := by decide +kernel
theorem dX5_init_9 : decode cX5_init 9 = .ok (.return_, 1) := by decide +kernel
theorem dX5_beginWith_0 : decode cX5_beginWith 0 = .ok (.aload_n 0, 1) := by decide +kernel
theorem dX5_beginWith_1 : decode cX5_beginWith 1 = .ok (.aload_n 1, 1) := by decide +kernel
theorem dX5_beginWith_2 : decode cX5_beginWith 2 = .ok (.putfield 9, 3) := by decide +kernel
theorem dX5_beginWith_5 : decode cX5_beginWith 5 = .ok (.aload_n 0, 1) := by decide +kernel
theorem dX5_beginWith_6 : decode cX5_beginWith 6 = .ok (.iconst 0, 1) := by decide +kernel
theorem dX5_beginWith_7 : decode cX5_beginWith 7 = .ok (.putfield 15, 3) := by decide +kernel
theorem dX5_beginWith_10 : decode cX5_beginWith 10 = .ok (.aload_n 0, 1) := by decide +kernel
theorem dX5_beginWith_11 : decode cX5_beginWith 11 = .ok (.iconst (-1), 1) := by decide +kernel
theorem dX5_beginWith_12 : decode cX5_beginWith 12 = .ok (.putfield 19, 3) := by decide +kernel
theorem dX5_beginWith_15 : decode cX5_beginWith 15 = .ok (.aload_n 0, 1) := by decide +kernel
theorem dX5_beginWith_16 : decode cX5_beginWith 16 = .ok (.iconst (-1), 1) := by decide +kernel
theorem dX5_beginWith_17 : decode cX5_beginWith 17 = .ok (.putfield 22, 3) := by decide +kernel
theorem dX5_beginWith_20 : decode cX5_beginWith 20 = .ok (.aload_n 0, 1) := by decide +kernel
theorem dX5_beginWith_21 : decode cX5_beginWith 21 = .ok (.iconst (-1), 1) := by decide +kernel
theorem dX5_beginWith_22 : decode cX5_beginWith 22 = .ok (.putfield 25, 3) := by decide +kernel
theorem dX5_beginWith_25 : decode cX5_beginWith 25 = .ok (.aload_n 0, 1) := by decide +kernel
theorem dX5_beginWith_26 : decode cX5_beginWith 26 = .ok (.iconst 0, 1) := by decide +kernel
theorem dX5_beginWith_27 : decode cX5_beginWith 27 = .ok (.putfield 28, 3) := by decide +kernel
theorem dX5_beginWith_30 : decode cX5_beginWith 30 = .ok (.aload_n 0, 1) := by decide +kernel
theorem dX5_beginWith_31 : decode cX5_beginWith 31 = .ok (.iconst 0, 1) := by decide +kernel
theorem dX5_beginWith_32 : decode cX5_beginWith 32 = .ok (.putfield 31, 3) := by decide +kernel
theorem dX5_beginWith_35 : decode cX5_beginWith 35 = .ok (.aload_n 0, 1) := by decide +kernel
theorem dX5_beginWith_36 : decode cX5_beginWith 36 = .ok (.iconst (-1), 1) := by decide +kernel
theorem dX5_beginWith_37 : decode cX5_beginWith 37 = .ok (.putfield 34, 3) := by decide +kernel
theorem dX5_beginWith_40 : decode cX5_beginWith 40 = .ok (.aload_n 0, 1) := by decide +kernel
theorem dX5_beginWith_41 : decode cX5_beginWith 41 = .ok (.iconst 0, 1) := by decide +kernel
theorem dX5_beginWith_42 : decode cX5_beginWith 42 = .ok (.putfield 37, 3) := by decide +kernel
theorem dX5_beginWith_45 : decode cX5_beginWith 45 = .ok (.return_, 1) := by decide +kernel
theorem dX5_isTakenAt_0 : decode cX5_isTakenAt 0 = .ok (.aload_n 0, 1) := by decide +kernel
theorem dX5_isTakenAt_1 : decode cX5_isTakenAt 1 = .ok (.getfield 15, 3) := by decide +kernel
theorem dX5_isTakenAt_4 : decode cX5_isTakenAt 4 = .ok (.iload_n 1, 1) := by decide +kernel
theorem dX5_isTakenAt_5 : decode cX5_isTakenAt 5 = .ok (.if_icmp .ne 37, 3) := by decide +kernel
theorem dX5_isTakenAt_8 : decode cX5_isTakenAt 8 = .ok (.aload_n 0, 1) := by decide +kernel
theorem dX5_isTakenAt_9 : decode cX5_isTakenAt 9 = .ok (.getfield 19, 3) := by decide +kernel
theorem dX5_isTakenAt_12 : decode cX5_isTakenAt 12 = .ok (.ifCond .lt 30, 3) := by decide +kernel
theorem dX5_isTakenAt_15 : decode cX5_isTakenAt 15 = .ok (.aload_n 0, 1) := by decide +kernel
theorem dX5_isTakenAt_16 : decode cX5_isTakenAt 16 = .ok (.getfield 19, 3) := by decide +kernel
theorem dX5_isTakenAt_19 : decode cX5_isTakenAt 19 = .ok (.iconst 4, 1) := by decide +kernel
theorem dX5_isTakenAt_20 : decode cX5_isTakenAt 20 = .ok (.if_icmp .ge 22, 3) := by decide +kernel
theorem dX5_isTakenAt_23 : decode cX5_isTakenAt 23 = .ok (.aload_n 0, 1) := by decide +kernel
theorem dX5_isTakenAt_24 : decode cX5_isTakenAt 24 = .ok (.getfield 22, 3) := by decide +kernel
theorem dX5_isTakenAt_27 : decode cX5_isTakenAt 27 = .ok (.ifCond .lt 15, 3) := by decide +kernel
theorem dX5_isTakenAt_30 : decode cX5_isTakenAt 30 = .ok (.aload_n 0, 1) := by decide +kernel
theorem dX5_isTakenAt_31 : decode cX5_isTakenAt 31 = .ok (.getfield 22, 3) := by decide +kernel
theorem dX5_isTakenAt_34 : decode cX5_isTakenAt 34 = .ok (.iconst 5, 1) := by decide +kernel
theorem dX5_isTakenAt_35 : decode cX5_isTakenAt 35 = .ok (.if_icmp .ge 7, 3) := by decide +kernel
theorem dX5_isTakenAt_38 : decode cX5_isTakenAt 38 = .ok (.iconst 1, 1) := by decide +kernel
theorem dX5_isTakenAt_39 : decode cX5_isTakenAt 39 = .ok (.goto 4, 3) := by decide +kernel
theorem dX5_isTakenAt_42 : decode cX5_isTakenAt 42 = .ok (.iconst 0, 1) := by decide +kernel
theorem dX5_isTakenAt_43 : decode cX5_isTakenAt 43 = .ok (.ireturn, 1) := by decide +kernel
theorem dX5_reassign_0 : decode cX5_reassign 0 = .ok (.aload_n 0, 1) := by decide +kernel
theorem dX5_reassign_1 : decode cX5_reassign 1 = .ok (.iconst 1, 1) := by decide +kernel
theorem dX5_reassign_2 : decode cX5_reassign 2 = .ok (.putfield 15, 3) := by decide +kernel
theorem dX5_reassign_5 : decode cX5_reassign 5 = .ok (.aload_n 0, 1) := by decide +kernel
theorem dX5_reassign_6 : decode cX5_reassign 6 = .ok (.dup, 1) := by decide +kernel
theorem dX5_reassign_7 : decode cX5_reassign 7 = .ok (.getfield 31, 3) := by decide +kernel
theorem dX5_reassign_10 : decode cX5_reassign 10 = .ok (.aload_n 0, 1) := by decide +kernel
theorem dX5_reassign_11 : decode cX5_reassign 11 = .ok (.getfield 28, 3) := by decide +kernel
theorem dX5_reassign_14 : decode cX5_reassign 14 = .ok (.iadd, 1) := by decide +kernel
theorem dX5_reassign_15 : decode cX5_reassign 15 = .ok (.putfield 31, 3) := by decide +kernel
theorem dX5_reassign_18 : decode cX5_reassign 18 = .ok (.aload_n 0, 1) := by decide +kernel
theorem dX5_reassign_19 : decode cX5_reassign 19 = .ok (.iconst 0, 1) := by decide +kernel
theorem dX5_reassign_20 : decode cX5_reassign 20 = .ok (.putfield 28, 3) := by decide +kernel
theorem dX5_reassign_23 : decode cX5_reassign 23 = .ok (.aload_n 0, 1) := by decide +kernel
theorem dX5_reassign_24 : decode cX5_reassign 24 = .ok (.iconst (-1), 1) := by decide +kernel
theorem dX5_reassign_25 : decode cX5_reassign 25 = .ok (.putfield 34, 3) := by decide +kernel
theorem dX5_reassign_28 : decode cX5_reassign 28 = .ok (.aload_n 0, 1) := by decide +kernel
theorem dX5_reassign_29 : decode cX5_reassign 29 = .ok (.iconst 0, 1) := by decide +kernel
theorem dX5_reassign_30 : decode cX5_reassign 30 = .ok (.putfield 37, 3) := by decide +kernel
theorem dX5_reassign_33 : decode cX5_reassign 33 = .ok (.return_, 1) := by decide +kernel
theorem dX5_copyFrom_0 : decode cX5_copyFrom 0 = .ok (.aload_n 0, 1) := by decide +kernel
theorem dX5_copyFrom_1 : decode cX5_copyFrom 1 = .ok (.aload_n 1, 1) := by decide +kernel
theorem dX5_copyFrom_2 : decode cX5_copyFrom 2 = .ok (.getfield 9, 3) := by decide +kernel
theorem dX5_copyFrom_5 : decode cX5_copyFrom 5 = .ok (.putfield 9, 3) := by decide +kernel
theorem dX5_copyFrom_8 : decode cX5_copyFrom 8 = .ok (.aload_n 0, 1) := by decide +kernel
theorem dX5_copyFrom_9 : decode cX5_copyFrom 9 = .ok (.aload_n 1, 1) := by decide +kernel
theorem dX5_copyFrom_10 : decode cX5_copyFrom 10 = .ok (.getfield 15, 3) := by decide +kernel
theorem dX5_copyFrom_13 : decode cX5_copyFrom 13 = .ok (.putfield 15, 3) := by decide +kernel
theorem dX5_copyFrom_16 : decode cX5_copyFrom 16 = .ok (.aload_n 0, 1) := by decide +kernel
theorem dX5_copyFrom_17 : decode cX5_copyFrom 17 = .ok (.aload_n 1, 1) := by decide +kernel
theorem dX5_copyFrom_18 : decode cX5_copyFrom 18 = .ok (.getfield 19, 3) := by decide +kernel
theorem dX5_copyFrom_21 : decode cX5_copyFrom 21 = .ok (.putfield 19, 3) := by decide +kernel
theorem dX5_copyFrom_24 : decode cX5_copyFrom 24 = .ok (.aload_n 0, 1) := by decide +kernel
theorem dX5_copyFrom_25 : decode cX5_copyFrom 25 = .ok (.aload_n 1, 1) := by decide +kernel
theorem dX5_copyFrom_26 : decode cX5_copyFrom 26 = .ok (.getfield 22, 3) := by decide +kernel
theorem dX5_copyFrom_29 : decode cX5_copyFrom 29 = .ok (.putfield 22, 3) := by decide +kernel
theorem dX5_copyFrom_32 : decode cX5_copyFrom 32 = .ok (.aload_n 0, 1) := by decide +kernel
theorem dX5_copyFrom_33 : decode cX5_copyFrom 33 = .ok (.aload_n 1, 1) := by decide +kernel
theorem dX5_copyFrom_34 : decode cX5_copyFrom 34 = .ok (.getfield 25, 3) := by decide +kernel
theorem dX5_copyFrom_37 : decode cX5_copyFrom 37 = .ok (.putfield 25, 3) := by decide +kernel
theorem dX5_copyFrom_40 : decode cX5_copyFrom 40 = .ok (.aload_n 0, 1) := by decide +kernel
theorem dX5_copyFrom_41 : decode cX5_copyFrom 41 = .ok (.aload_n 1, 1) := by decide +kernel
theorem dX5_copyFrom_42 : decode cX5_copyFrom 42 = .ok (.getfield 28, 3) := by decide +kernel
theorem dX5_copyFrom_45 : decode cX5_copyFrom 45 = .ok (.putfield 28, 3) := by decide +kernel
theorem dX5_copyFrom_48 : decode cX5_copyFrom 48 = .ok (.aload_n 0, 1) := by decide +kernel
theorem dX5_copyFrom_49 : decode cX5_copyFrom 49 = .ok (.aload_n 1, 1) := by decide +kernel
theorem dX5_copyFrom_50 : decode cX5_copyFrom 50 = .ok (.getfield 31, 3) := by decide +kernel
theorem dX5_copyFrom_53 : decode cX5_copyFrom 53 = .ok (.putfield 31, 3) := by decide +kernel
theorem dX5_copyFrom_56 : decode cX5_copyFrom 56 = .ok (.aload_n 0, 1) := by decide +kernel
theorem dX5_copyFrom_57 : decode cX5_copyFrom 57 = .ok (.aload_n 1, 1) := by decide +kernel
theorem dX5_copyFrom_58 : decode cX5_copyFrom 58 = .ok (.getfield 34, 3) := by decide +kernel
theorem dX5_copyFrom_61 : decode cX5_copyFrom 61 = .ok (.putfield 34, 3) := by decide +kernel
theorem dX5_copyFrom_64 : decode cX5_copyFrom 64 = .ok (.aload_n 0, 1) := by decide +kernel
theorem dX5_copyFrom_65 : decode cX5_copyFrom 65 = .ok (.aload_n 1, 1) := by decide +kernel
theorem dX5_copyFrom_66 : decode cX5_copyFrom 66 = .ok (.getfield 37, 3) := by decide +kernel
theorem dX5_copyFrom_69 : decode cX5_copyFrom 69 = .ok (.putfield 37, 3) := by decide +kernel
theorem dX5_copyFrom_72 : decode cX5_copyFrom 72 = .ok (.aload_n 0, 1) := by decide +kernel
theorem dX5_copyFrom_73 : decode cX5_copyFrom 73 = .ok (.aload_n 1, 1) := by decide +kernel
theorem dX5_copyFrom_74 : decode cX5_copyFrom 74 = .ok (.getfield 40, 3) := by decide +kernel
theorem dX5_copyFrom_77 : decode cX5_copyFrom 77 = .ok (.putfield 40, 3) := by decide +kernel
theorem dX5_copyFrom_80 : decode cX5_copyFrom 80 = .ok (.return_, 1) := by decide +kernel
theorem dX6_init_0 : decode cX6_init 0 = .ok (.aload_n 0, 1) := by decide +kernel
theorem dX6_init_1 : decode cX6_init 1 = .ok (.invokespecial 3, 3) := by decide +kernel
theorem dX6_init_4 : decode cX6_init 4 = .ok (.aload_n 0, 1) := by decide +kernel
theorem dX6_init_5 : decode cX6_init 5 = .ok (.iconst 2, 1) := by decide +kernel
theorem dX6_init_6 : decode cX6_init 6 = .ok (.newarray .int, 2) := by decide +kernel
theorem dX6_init_8 : decode cX6_init 8 = .ok (.dup, 1) := by decide +kernel
theorem dX6_init_9 : decode cX6_init 9 = .ok (.iconst 0, 1) := by decide +kernel
theorem dX6_init_10 : decode cX6_init 10 = .ok (.bipush 30, 2) := by decide +kernel
theorem dX6_init_12 : decode cX6_init 12 = .ok (.iastore, 1) := by decide +kernel
theorem dX6_init_13 : decode cX6_init 13 = .ok (.dup, 1) := by decide +kernel
theorem dX6_init_14 : decode cX6_init 14 = .ok (.iconst 1, 1) := by decide +kernel
theorem dX6_init_15 : decode cX6_init 15 = .ok (.bipush 50, 2) := by decide +kernel
theorem dX6_init_17 : decode cX6_init 17 = .ok (.iastore, 1) := by decide +kernel
theorem dX6_init_18 : decode cX6_init 18 = .ok (.putfield 9, 3) := by decide +kernel
theorem dX6_init_21 : decode cX6_init 21 = .ok (.aload_n 0, 1) := by decide +kernel
theorem dX6_init_22 : decode cX6_init 22 = .ok (.iconst 4, 1) := by decide +kernel
theorem dX6_init_23 : decode cX6_init 23 = .ok (.anewarray 15, 3) := by decide +kernel
theorem dX6_init_26 : decode cX6_init 26 = .ok (.putfield 17, 3) := by decide +kernel
theorem dX6_init_29 : decode cX6_init 29 = .ok (.aload_n 0, 1) := by decide +kernel
theorem dX6_init_30 : decode cX6_init 30 = .ok (.iconst 5, 1) := by decide +kernel
theorem dX6_init_31 : decode cX6_init 31 = .ok (.anewarray 21, 3) := by decide +kernel
theorem dX6_init_34 : decode cX6_init 34 = .ok (.putfield 23, 3) := by decide +kernel
theorem dX6_init_37 : decode cX6_init 37 = .ok (.aload_n 0, 1) := by decide +kernel
theorem dX6_init_38 : decode cX6_init 38 = .ok (.bipush 8, 2) := by decide +kernel
theorem dX6_init_40 : decode cX6_init 40 = .ok (.anewarray 27, 3) := by decide +kernel
theorem dX6_init_43 : decode cX6_init 43 = .ok (.putfield 29, 3) := by decide +kernel
theorem dX6_init_46 : decode cX6_init 46 = .ok (.aload_n 0, 1) := by decide +kernel
theorem dX6_init_47 : decode cX6_init 47 = .ok (.bipush 10, 2) := by decide +kernel
theorem dX6_init_49 : decode cX6_init 49 = .ok (.anewarray 33, 3) := by decide +kernel
theorem dX6_init_52 : decode cX6_init 52 = .ok (.putfield 35, 3) := by decide +kernel
theorem dX6_init_55 : decode cX6_init 55 = .ok (.aload_n 0, 1) := by decide +kernel
theorem dX6_init_56 : decode cX6_init 56 = .ok (.iconst 0, 1) := by decide +kernel
theorem dX6_init_57 : decode cX6_init 57 = .ok (.putfield 39, 3) := by decide +kernel
theorem dX6_init_60 : decode cX6_init 60 = .ok (.new 43, 3) := by decide +kernel
theorem dX6_init_63 : decode cX6_init 63 = .ok (.dup, 1) := by decide +kernel
theorem dX6_init_64 : decode cX6_init 64 = .ok (.iconst 0, 1) := by decide +kernel
theorem dX6_init_65 : decode cX6_init 65 = .ok (.newarray .int, 2) := by decide +kernel
theorem dX6_init_67 : decode cX6_init 67 = .ok (.iconst 0, 1) := by decide +kernel
theorem dX6_init_68 : decode cX6_init 68 = .ok (.iconst 0, 1) := by decide +kernel
theorem dX6_init_69 : decode cX6_init 69 = .ok (.invokespecial 45, 3) := by decide +kernel
theorem dX6_init_72 : decode cX6_init 72 = .ok (.astore_n 1, 1) := by decide +kernel
theorem dX6_init_73 : decode cX6_init 73 = .ok (.aload_n 0, 1) := by decide +kernel
theorem dX6_init_74 : decode cX6_init 74 = .ok (.new 48, 3) := by decide +kernel
theorem dX6_init_77 : decode cX6_init 77 = .ok (.dup, 1) := by decide +kernel
theorem dX6_init_78 : decode cX6_init 78 = .ok (.aload_n 1, 1) := by decide +kernel
theorem dX6_init_79 : decode cX6_init 79 = .ok (.invokespecial 50, 3) := by decide +kernel
theorem dX6_init_82 : decode cX6_init 82 = .ok (.putfield 53, 3) := by decide +kernel
theorem dX6_init_85 : decode cX6_init 85 = .ok (.iconst 0, 1) := by decide +kernel
theorem dX6_init_86 : decode cX6_init 86 = .ok (.istore_n 2, 1) := by decide +kernel
theorem dX6_init_87 : decode cX6_init 87 = .ok (.iload_n 2, 1) := by decide +kernel
theorem dX6_init_88 : decode cX6_init 88 = .ok (.iconst 4, 1) := by decide +kernel
theorem dX6_init_89 : decode cX6_init 89 = .ok (.if_icmp .ge 22, 3) := by decide +kernel
theorem dX6_init_92 : decode cX6_init 92 = .ok (.aload_n 0, 1) := by decide +kernel
theorem dX6_init_93 : decode cX6_init 93 = .ok (.getfield 17, 3) := by decide +kernel
theorem dX6_init_96 : decode cX6_init 96 = .ok (.iload_n 2, 1) := by decide +kernel
theorem dX6_init_97 : decode cX6_init 97 = .ok (.new 15, 3) := by decide +kernel
theorem dX6_init_100 : decode cX6_init 100 = .ok (.dup, 1) := by decide +kernel
theorem dX6_init_101 : decode cX6_init 101 = .ok (.invokespecial 57, 3) := by decide +kernel
theorem dX6_init_104 : decode cX6_init 104 = .ok (.aastore, 1) := by decide +kernel
theorem dX6_init_105 : decode cX6_init 105 = .ok (.iinc 2 1, 3) := by decide +kernel
theorem dX6_init_108 : decode cX6_init 108 = .ok (.goto (-21), 3) := by decide +kernel
theorem dX6_init_111 : decode cX6_init 111 = .ok (.iconst 0, 1) := by decide +kernel
theorem dX6_init_112 : decode cX6_init 112 = .ok (.istore_n 2, 1) := by decide +kernel
theorem dX6_init_113 : decode cX6_init 113 = .ok (.iload_n 2, 1) := by decide +kernel
theorem dX6_init_114 : decode cX6_init 114 = .ok (.iconst 5, 1) := by decide +kernel
theorem dX6_init_115 : decode cX6_init 115 = .ok (.if_icmp .ge 27, 3) := by decide +kernel
theorem dX6_init_118 : decode cX6_init 118 = .ok (.aload_n 0, 1) := by decide +kernel
theorem dX6_init_119 : decode cX6_init 119 = .ok (.getfield 23, 3) := by decide +kernel
theorem dX6_init_122 : decode cX6_init 122 = .ok (.iload_n 2, 1) := by decide +kernel
theorem dX6_init_123 : decode cX6_init 123 = .ok (.new 21, 3) := by decide +kernel
theorem dX6_init_126 : decode cX6_init 126 = .ok (.dup, 1) := by decide +kernel
theorem dX6_init_127 : decode cX6_init 127 = .ok (.getstatic 58, 3) := by decide +kernel
theorem dX6_init_130 : decode cX6_init 130 = .ok (.iload_n 2, 1) := by decide +kernel
theorem dX6_init_131 : decode cX6_init 131 = .ok (.iaload, 1) := by decide +kernel
theorem dX6_init_132 : decode cX6_init 132 = .ok (.invokespecial 61, 3) := by decide +kernel
theorem dX6_init_135 : decode cX6_init 135 = .ok (.aastore, 1) := by decide +kernel
theorem dX6_init_136 : decode cX6_init 136 = .ok (.iinc 2 1, 3) := by decide +kernel
theorem dX6_init_139 : decode cX6_init 139 = .ok (.goto (-26), 3) := by decide +kernel
theorem dX6_init_142 : decode cX6_init 142 = .ok (.iconst 0, 1) := by decide +kernel
theorem dX6_init_143 : decode cX6_init 143 = .ok (.istore_n 2, 1) := by decide +kernel
theorem dX6_init_144 : decode cX6_init 144 = .ok (.iload_n 2, 1) := by decide +kernel
theorem dX6_init_145 : decode cX6_init 145 = .ok (.bipush 8, 2) := by decide +kernel
theorem dX6_init_147 : decode cX6_init 147 = .ok (.if_icmp .ge 22, 3) := by decide +kernel
theorem dX6_init_150 : decode cX6_init 150 = .ok (.aload_n 0, 1) := by decide +kernel
theorem dX6_init_151 : decode cX6_init 151 = .ok (.getfield 29, 3) := by decide +kernel
theorem dX6_init_154 : decode cX6_init 154 = .ok (.iload_n 2, 1) := by decide +kernel
theorem dX6_init_155 : decode cX6_init 155 = .ok (.new 27, 3) := by decide +kernel
theorem dX6_init_158 : decode cX6_init 158 = .ok (.dup, 1) := by decide +kernel
theorem dX6_init_159 : decode cX6_init 159 = .ok (.invokespecial 64, 3) := by decide +kernel
theorem dX6_init_162 : decode cX6_init 162 = .ok (.aastore, 1) := by decide +kernel
theorem dX6_init_163 : decode cX6_init 163 = .ok (.iinc 2 1, 3) := by decide +kernel
theorem dX6_init_166 : decode cX6_init 166 = .ok (.goto (-22), 3) := by decide +kernel
theorem dX6_init_169 : decode cX6_init 169 = .ok (.iconst 0, 1) := by decide +kernel
theorem dX6_init_170 : decode cX6_init 170 = .ok (.istore_n 2, 1) := by decide +kernel
theorem dX6_init_171 : decode cX6_init 171 = .ok (.iload_n 2, 1) := by decide +kernel
theorem dX6_init_172 : decode cX6_init 172 = .ok (.bipush 10, 2) := by decide +kernel
theorem dX6_init_174 : decode cX6_init 174 = .ok (.if_icmp .ge 23, 3) := by decide +kernel
theorem dX6_init_177 : decode cX6_init 177 = .ok (.aload_n 0, 1) := by decide +kernel
theorem dX6_init_178 : decode cX6_init 178 = .ok (.getfield 35, 3) := by decide +kernel
theorem dX6_init_181 : decode cX6_init 181 = .ok (.iload_n 2, 1) := by decide +kernel
theorem dX6_init_182 : decode cX6_init 182 = .ok (.new 33, 3) := by decide +kernel
theorem dX6_init_185 : decode cX6_init 185 = .ok (.dup, 1) := by decide +kernel
theorem dX6_init_186 : decode cX6_init 186 = .ok (.aload_n 1, 1) := by decide +kernel
theorem dX6_init_187 : decode cX6_init 187 = .ok (.invokespecial 65, 3) := by decide +kernel
theorem dX6_init_190 : decode cX6_init 190 = .ok (.aastore, 1) := by decide +kernel
theorem dX6_init_191 : decode cX6_init 191 = .ok (.iinc 2 1, 3) := by decide +kernel
theorem dX6_init_194 : decode cX6_init 194 = .ok (.goto (-23), 3) := by decide +kernel
theorem dX6_init_197 : decode cX6_init 197 = .ok (.return_, 1) := by decide +kernel
theorem dX6_copyFrom_0 : decode cX6_copyFrom 0 = .ok (.aload_n 1, 1) := by decide +kernel
theorem dX6_copyFrom_1 : decode cX6_copyFrom 1 = .ok (.getfield 9, 3) := by decide +kernel
theorem dX6_copyFrom_4 : decode cX6_copyFrom 4 = .ok (.iconst 0, 1) := by decide +kernel
theorem dX6_copyFrom_5 : decode cX6_copyFrom 5 = .ok (.aload_n 0, 1) := by decide +kernel
theorem dX6_copyFrom_6 : decode cX6_copyFrom 6 = .ok (.getfield 9, 3) := by decide +kernel
theorem dX6_copyFrom_9 : decode cX6_copyFrom 9 = .ok (.iconst 0, 1) := by decide +kernel
theorem dX6_copyFrom_10 : decode cX6_copyFrom 10 = .ok (.iconst 2, 1) := by decide +kernel
theorem dX6_copyFrom_11 : decode cX6_copyFrom 11 = .ok (.invokestatic 66, 3) := by decide +kernel
theorem dX6_copyFrom_14 : decode cX6_copyFrom 14 = .ok (.iconst 0, 1) := by decide +kernel
theorem dX6_copyFrom_15 : decode cX6_copyFrom 15 = .ok (.istore_n 2, 1) := by decide +kernel
theorem dX6_copyFrom_16 : decode cX6_copyFrom 16 = .ok (.iload_n 2, 1) := by decide +kernel
theorem dX6_copyFrom_17 : decode cX6_copyFrom 17 = .ok (.iconst 4, 1) := by decide +kernel
theorem dX6_copyFrom_18 : decode cX6_copyFrom 18 = .ok (.if_icmp .ge 24, 3) := by decide +kernel
theorem dX6_copyFrom_21 : decode cX6_copyFrom 21 = .ok (.aload_n 0, 1) := by decide +kernel
theorem dX6_copyFrom_22 : decode cX6_copyFrom 22 = .ok (.getfield 17, 3) := by decide +kernel
theorem dX6_copyFrom_25 : decode cX6_copyFrom 25 = .ok (.iload_n 2, 1) := by decide +kernel
theorem dX6_copyFrom_26 : decode cX6_copyFrom 26 = .ok (.aaload, 1) := by decide +kernel
theorem dX6_copyFrom_27 : decode cX6_copyFrom 27 = .ok (.aload_n 1, 1) := by decide +kernel
theorem dX6_copyFrom_28 : decode cX6_copyFrom 28 = .ok (.getfield 17, 3) := by decide +kernel
theorem dX6_copyFrom_31 : decode cX6_copyFrom 31 = .ok (.iload_n 2, 1) := by decide +kernel
theorem dX6_copyFrom_32 : decode cX6_copyFrom 32 = .ok (.aaload, 1) := by decide +kernel
theorem dX6_copyFrom_33 : decode cX6_copyFrom 33 = .ok (.invokevirtual 72, 3) := by decide +kernel
theorem dX6_copyFrom_36 : decode cX6_copyFrom 36 = .ok (.iinc 2 1, 3) := by decide +kernel
theorem dX6_copyFrom_39 : decode cX6_copyFrom 39 = .ok (.goto (-23), 3) := by decide +kernel
theorem dX6_copyFrom_42 : decode cX6_copyFrom 42 = .ok (.iconst 0, 1) := by decide +kernel
theorem dX6_copyFrom_43 : decode cX6_copyFrom 43 = .ok (.istore_n 2, 1) := by decide +kernel
theorem dX6_copyFrom_44 : decode cX6_copyFrom 44 = .ok (.iload_n 2, 1) := by decide +kernel
theorem dX6_copyFrom_45 : decode cX6_copyFrom 45 = .ok (.iconst 5, 1) := by decide +kernel
theorem dX6_copyFrom_46 : decode cX6_copyFrom 46 = .ok (.if_icmp .ge 24, 3) := by decide +kernel
theorem dX6_copyFrom_49 : decode cX6_copyFrom 49 = .ok (.aload_n 0, 1) := by decide +kernel
theorem dX6_copyFrom_50 : decode cX6_copyFrom 50 = .ok (.getfield 23, 3) := by decide +kernel
theorem dX6_copyFrom_53 : decode cX6_copyFrom 53 = .ok (.iload_n 2, 1) := by decide +kernel
theorem dX6_copyFrom_54 : decode cX6_copyFrom 54 = .ok (.aaload, 1) := by decide +kernel
theorem dX6_copyFrom_55 : decode cX6_copyFrom 55 = .ok (.aload_n 1, 1) := by decide +kernel
theorem dX6_copyFrom_56 : decode cX6_copyFrom 56 = .ok (.getfield 23, 3) := by decide +kernel
theorem dX6_copyFrom_59 : decode cX6_copyFrom 59 = .ok (.iload_n 2, 1) := by decide +kernel
theorem dX6_copyFrom_60 : decode cX6_copyFrom 60 = .ok (.aaload, 1) := by decide +kernel
theorem dX6_copyFrom_61 : decode cX6_copyFrom 61 = .ok (.invokevirtual 76, 3) := by decide +kernel
theorem dX6_copyFrom_64 : decode cX6_copyFrom 64 = .ok (.iinc 2 1, 3) := by decide +kernel
theorem dX6_copyFrom_67 : decode cX6_copyFrom 67 = .ok (.goto (-23), 3) := by decide +kernel
theorem dX6_copyFrom_70 : decode cX6_copyFrom 70 = .ok (.iconst 0, 1) := by decide +kernel
theorem dX6_copyFrom_71 : decode cX6_copyFrom 71 = .ok (.istore_n 2, 1) := by decide +kernel
theorem dX6_copyFrom_72 : decode cX6_copyFrom 72 = .ok (.iload_n 2, 1) := by decide +kernel
theorem dX6_copyFrom_73 : decode cX6_copyFrom 73 = .ok (.bipush 8, 2) := by decide +kernel
theorem dX6_copyFrom_75 : decode cX6_copyFrom 75 = .ok (.if_icmp .ge 24, 3) := by decide +kernel
theorem dX6_copyFrom_78 : decode cX6_copyFrom 78 = .ok (.aload_n 0, 1) := by decide +kernel
theorem dX6_copyFrom_79 : decode cX6_copyFrom 79 = .ok (.getfield 29, 3) := by decide +kernel
theorem dX6_copyFrom_82 : decode cX6_copyFrom 82 = .ok (.iload_n 2, 1) := by decide +kernel
theorem dX6_copyFrom_83 : decode cX6_copyFrom 83 = .ok (.aaload, 1) := by decide +kernel
theorem dX6_copyFrom_84 : decode cX6_copyFrom 84 = .ok (.aload_n 1, 1) := by decide +kernel
theorem dX6_copyFrom_85 : decode cX6_copyFrom 85 = .ok (.getfield 29, 3) := by decide +kernel
theorem dX6_copyFrom_88 : decode cX6_copyFrom 88 = .ok (.iload_n 2, 1) := by decide +kernel
theorem dX6_copyFrom_89 : decode cX6_copyFrom 89 = .ok (.aaload, 1) := by decide +kernel
theorem dX6_copyFrom_90 : decode cX6_copyFrom 90 = .ok (.invokevirtual 79, 3) := by decide +kernel
theorem dX6_copyFrom_93 : decode cX6_copyFrom 93 = .ok (.iinc 2 1, 3) := by decide +kernel
theorem dX6_copyFrom_96 : decode cX6_copyFrom 96 = .ok (.goto (-24), 3) := by decide +kernel
theorem dX6_copyFrom_99 : decode cX6_copyFrom 99 = .ok (.aload_n 0, 1) := by decide +kernel
theorem dX6_copyFrom_100 : decode cX6_copyFrom 100 = .ok (.aload_n 1, 1) := by decide +kernel
theorem dX6_copyFrom_101 : decode cX6_copyFrom 101 = .ok (.getfield 39, 3) := by decide +kernel
theorem dX6_copyFrom_104 : decode cX6_copyFrom 104 = .ok (.putfield 39, 3) := by decide +kernel
theorem dX6_copyFrom_107 : decode cX6_copyFrom 107 = .ok (.iconst 0, 1) := by decide +kernel
theorem dX6_copyFrom_108 : decode cX6_copyFrom 108 = .ok (.istore_n 2, 1) := by decide +kernel
theorem dX6_copyFrom_109 : decode cX6_copyFrom 109 = .ok (.iload_n 2, 1) := by decide +kernel
theorem dX6_copyFrom_110 : decode cX6_copyFrom 110 = .ok (.aload_n 0, 1) := by decide +kernel
theorem dX6_copyFrom_111 : decode cX6_copyFrom 111 = .ok (.getfield 39, 3) := by decide +kernel
theorem dX6_copyFrom_114 : decode cX6_copyFrom 114 = .ok (.if_icmp .ge 24, 3) := by decide +kernel
theorem dX6_copyFrom_117 : decode cX6_copyFrom 117 = .ok (.aload_n 0, 1) := by decide +kernel
theorem dX6_copyFrom_118 : decode cX6_copyFrom 118 = .ok (.getfield 35, 3) := by decide +kernel
theorem dX6_copyFrom_121 : decode cX6_copyFrom 121 = .ok (.iload_n 2, 1) := by decide +kernel
theorem dX6_copyFrom_122 : decode cX6_copyFrom 122 = .ok (.aaload, 1) := by decide +kernel
theorem dX6_copyFrom_123 : decode cX6_copyFrom 123 = .ok (.aload_n 1, 1) := by decide +kernel
theorem dX6_copyFrom_124 : decode cX6_copyFrom 124 = .ok (.getfield 35, 3) := by decide +kernel
theorem dX6_copyFrom_127 : decode cX6_copyFrom 127 = .ok (.iload_n 2, 1) := by decide +kernel
theorem dX6_copyFrom_128 : decode cX6_copyFrom 128 = .ok (.aaload, 1) := by decide +kernel
theorem dX6_copyFrom_129 : decode cX6_copyFrom 129 = .ok (.invokevirtual 82, 3) := by decide +kernel
theorem dX6_copyFrom_132 : decode cX6_copyFrom 132 = .ok (.iinc 2 1, 3) := by decide +kernel
theorem dX6_copyFrom_135 : decode cX6_copyFrom 135 = .ok (.goto (-26), 3) := by decide +kernel
theorem dX6_copyFrom_138 : decode cX6_copyFrom 138 = .ok (.aload_n 0, 1) := by decide +kernel
theorem dX6_copyFrom_139 : decode cX6_copyFrom 139 = .ok (.getfield 53, 3) := by decide +kernel
theorem dX6_copyFrom_142 : decode cX6_copyFrom 142 = .ok (.aload_n 1, 1) := by decide +kernel
theorem dX6_copyFrom_143 : decode cX6_copyFrom 143 = .ok (.getfield 53, 3) := by decide +kernel
theorem dX6_copyFrom_146 : decode cX6_copyFrom 146 = .ok (.invokevirtual 85, 3) := by decide +kernel
theorem dX6_copyFrom_149 : decode cX6_copyFrom 149 = .ok (.return_, 1) := by decide +kernel
theorem dX6_fixBand_0 : decode cX6_fixBand 0 = .ok (.aload_n 1, 1) := by decide +kernel
theorem dX6_fixBand_1 : decode cX6_fixBand 1 = .ok (.aload_n 0, 1) := by decide +kernel
theorem dX6_fixBand_2 : decode cX6_fixBand 2 = .ok (.getfield 53, 3) := by decide +kernel
theorem dX6_fixBand_5 : decode cX6_fixBand 5 = .ok (.aload_n 1, 1) := by decide +kernel
theorem dX6_fixBand_6 : decode cX6_fixBand 6 = .ok (.getfield 88, 3) := by decide +kernel
theorem dX6_fixBand_9 : decode cX6_fixBand 9 = .ok (.iconst 0, 1) := by decide +kernel
theorem dX6_fixBand_10 : decode cX6_fixBand 10 = .ok (.invokevirtual 92, 3) := by decide +kernel
theorem dX6_fixBand_13 : decode cX6_fixBand 13 = .ok (.invokestatic 96, 3) := by decide +kernel
theorem dX6_fixBand_16 : decode cX6_fixBand 16 = .ok (.putfield 100, 3) := by decide +kernel
theorem dX6_fixBand_19 : decode cX6_fixBand 19 = .ok (.aload_n 1, 1) := by decide +kernel
theorem dX6_fixBand_20 : decode cX6_fixBand 20 = .ok (.aload_n 0, 1) := by decide +kernel
theorem dX6_fixBand_21 : decode cX6_fixBand 21 = .ok (.getfield 23, 3) := by decide +kernel
theorem dX6_fixBand_24 : decode cX6_fixBand 24 = .ok (.aload_n 1, 1) := by decide +kernel
theorem dX6_fixBand_25 : decode cX6_fixBand 25 = .ok (.getfield 100, 3) := by decide +kernel
theorem dX6_fixBand_28 : decode cX6_fixBand 28 = .ok (.aaload, 1) := by decide +kernel
theorem dX6_fixBand_29 : decode cX6_fixBand 29 = .ok (.getfield 103, 3) := by decide +kernel
theorem dX6_fixBand_32 : decode cX6_fixBand 32 = .ok (.putfield 106, 3) := by decide +kernel
theorem dX6_fixBand_35 : decode cX6_fixBand 35 = .ok (.return_, 1) := by decide +kernel
theorem dX6_takeDelivery_0 : decode cX6_takeDelivery 0 = .ok (.aload_n 0, 1) := by decide +kernel
theorem dX6_takeDelivery_1 : decode cX6_takeDelivery 1 = .ok (.getfield 17, 3) := by decide +kernel
theorem dX6_takeDelivery_4 : decode cX6_takeDelivery 4 = .ok (.aload_n 1, 1) := by decide +kernel
theorem dX6_takeDelivery_5 : decode cX6_takeDelivery 5 = .ok (.getfield 107, 3) := by decide +kernel
theorem dX6_takeDelivery_8 : decode cX6_takeDelivery 8 = .ok (.aaload, 1) := by decide +kernel
theorem dX6_takeDelivery_9 : decode cX6_takeDelivery 9 = .ok (.astore_n 2, 1) := by decide +kernel
theorem dX6_takeDelivery_10 : decode cX6_takeDelivery 10 = .ok (.aload_n 0, 1) := by decide +kernel
theorem dX6_takeDelivery_11 : decode cX6_takeDelivery 11 = .ok (.getfield 23, 3) := by decide +kernel
theorem dX6_takeDelivery_14 : decode cX6_takeDelivery 14 = .ok (.aload_n 1, 1) := by decide +kernel
theorem dX6_takeDelivery_15 : decode cX6_takeDelivery 15 = .ok (.getfield 100, 3) := by decide +kernel
theorem dX6_takeDelivery_18 : decode cX6_takeDelivery 18 = .ok (.aaload, 1) := by decide +kernel
theorem dX6_takeDelivery_19 : decode cX6_takeDelivery 19 = .ok (.astore_n 3, 1) := by decide +kernel
theorem dX6_takeDelivery_20 : decode cX6_takeDelivery 20 = .ok (.aload_n 1, 1) := by decide +kernel
theorem dX6_takeDelivery_21 : decode cX6_takeDelivery 21 = .ok (.getfield 88, 3) := by decide +kernel
theorem dX6_takeDelivery_24 : decode cX6_takeDelivery 24 = .ok (.getfield 110, 3) := by decide +kernel
theorem dX6_takeDelivery_27 : decode cX6_takeDelivery 27 = .ok (.istore 4, 2) := by decide +kernel
theorem dX6_takeDelivery_29 : decode cX6_takeDelivery 29 = .ok (.aload_n 1, 1) := by decide +kernel
theorem dX6_takeDelivery_30 : decode cX6_takeDelivery 30 = .ok (.iconst 2, 1) := by decide +kernel
theorem dX6_takeDelivery_31 : decode cX6_takeDelivery 31 = .ok (.putfield 113, 3) := by decide +kernel
theorem dX6_takeDelivery_34 : decode cX6_takeDelivery 34 = .ok (.aload_n 1, 1) := by decide +kernel
theorem dX6_takeDelivery_35 : decode cX6_takeDelivery 35 = .ok (.aload_n 2, 1) := by decide +kernel
theorem dX6_takeDelivery_36 : decode cX6_takeDelivery 36 = .ok (.getfield 116, 3) := by decide +kernel
theorem dX6_takeDelivery_39 : decode cX6_takeDelivery 39 = .ok (.putfield 119, 3) := by decide +kernel
theorem dX6_takeDelivery_42 : decode cX6_takeDelivery 42 = .ok (.aload_n 1, 1) := by decide +kernel
theorem dX6_takeDelivery_43 : decode cX6_takeDelivery 43 = .ok (.iload 4, 2) := by decide +kernel
theorem dX6_takeDelivery_45 : decode cX6_takeDelivery 45 = .ok (.aload_n 2, 1) := by decide +kernel
theorem dX6_takeDelivery_46 : decode cX6_takeDelivery 46 = .ok (.getfield 116, 3) := by decide +kernel
theorem dX6_takeDelivery_49 : decode cX6_takeDelivery 49 = .ok (.imul, 1) := by decide +kernel
theorem dX6_takeDelivery_50 : decode cX6_takeDelivery 50 = .ok (.aload_n 1, 1) := by decide +kernel
theorem dX6_takeDelivery_51 : decode cX6_takeDelivery 51 = .ok (.getfield 106, 3) := by decide +kernel
theorem dX6_takeDelivery_54 : decode cX6_takeDelivery 54 = .ok (.imul, 1) := by decide +kernel
theorem dX6_takeDelivery_55 : decode cX6_takeDelivery 55 = .ok (.bipush 100, 2) := by decide +kernel
theorem dX6_takeDelivery_57 : decode cX6_takeDelivery 57 = .ok (.idiv, 1) := by decide +kernel
theorem dX6_takeDelivery_58 : decode cX6_takeDelivery 58 = .ok (.putfield 122, 3) := by decide +kernel
theorem dX6_takeDelivery_61 : decode cX6_takeDelivery 61 = .ok (.aload_n 2, 1) := by decide +kernel
theorem dX6_takeDelivery_62 : decode cX6_takeDelivery 62 = .ok (.dup, 1) := by decide +kernel
theorem dX6_takeDelivery_63 : decode cX6_takeDelivery 63 = .ok (.getfield 125, 3) := by decide +kernel
theorem dX6_takeDelivery_66 : decode cX6_takeDelivery 66 = .ok (.aload_n 1, 1) := by decide +kernel
theorem dX6_takeDelivery_67 : decode cX6_takeDelivery 67 = .ok (.getfield 122, 3) := by decide +kernel
theorem dX6_takeDelivery_70 : decode cX6_takeDelivery 70 = .ok (.iadd, 1) := by decide +kernel
theorem dX6_takeDelivery_71 : decode cX6_takeDelivery 71 = .ok (.putfield 125, 3) := by decide +kernel
theorem dX6_takeDelivery_74 : decode cX6_takeDelivery 74 = .ok (.aload_n 2, 1) := by decide +kernel
theorem dX6_takeDelivery_75 : decode cX6_takeDelivery 75 = .ok (.dup, 1) := by decide +kernel
theorem dX6_takeDelivery_76 : decode cX6_takeDelivery 76 = .ok (.getfield 128, 3) := by decide +kernel
theorem dX6_takeDelivery_79 : decode cX6_takeDelivery 79 = .ok (.iload 4, 2) := by decide +kernel
theorem dX6_takeDelivery_81 : decode cX6_takeDelivery 81 = .ok (.iadd, 1) := by decide +kernel
theorem dX6_takeDelivery_82 : decode cX6_takeDelivery 82 = .ok (.putfield 128, 3) := by decide +kernel
theorem dX6_takeDelivery_85 : decode cX6_takeDelivery 85 = .ok (.aload_n 3, 1) := by decide +kernel
theorem dX6_takeDelivery_86 : decode cX6_takeDelivery 86 = .ok (.dup, 1) := by decide +kernel
theorem dX6_takeDelivery_87 : decode cX6_takeDelivery 87 = .ok (.getfield 131, 3) := by decide +kernel
theorem dX6_takeDelivery_90 : decode cX6_takeDelivery 90 = .ok (.iload 4, 2) := by decide +kernel
theorem dX6_takeDelivery_92 : decode cX6_takeDelivery 92 = .ok (.iadd, 1) := by decide +kernel
theorem dX6_takeDelivery_93 : decode cX6_takeDelivery 93 = .ok (.putfield 131, 3) := by decide +kernel
theorem dX6_takeDelivery_96 : decode cX6_takeDelivery 96 = .ok (.aload_n 3, 1) := by decide +kernel
theorem dX6_takeDelivery_97 : decode cX6_takeDelivery 97 = .ok (.dup, 1) := by decide +kernel
theorem dX6_takeDelivery_98 : decode cX6_takeDelivery 98 = .ok (.getfield 134, 3) := by decide +kernel
theorem dX6_takeDelivery_101 : decode cX6_takeDelivery 101 = .ok (.aload_n 1, 1) := by decide +kernel
theorem dX6_takeDelivery_102 : decode cX6_takeDelivery 102 = .ok (.getfield 122, 3) := by decide +kernel
theorem dX6_takeDelivery_105 : decode cX6_takeDelivery 105 = .ok (.iadd, 1) := by decide +kernel
theorem dX6_takeDelivery_106 : decode cX6_takeDelivery 106 = .ok (.putfield 134, 3) := by decide +kernel
theorem dX6_takeDelivery_109 : decode cX6_takeDelivery 109 = .ok (.aload_n 0, 1) := by decide +kernel
theorem dX6_takeDelivery_110 : decode cX6_takeDelivery 110 = .ok (.getfield 53, 3) := by decide +kernel
theorem dX6_takeDelivery_113 : decode cX6_takeDelivery 113 = .ok (.aload_n 1, 1) := by decide +kernel
theorem dX6_takeDelivery_114 : decode cX6_takeDelivery 114 = .ok (.getfield 88, 3) := by decide +kernel
theorem dX6_takeDelivery_117 : decode cX6_takeDelivery 117 = .ok (.invokevirtual 137, 3) := by decide +kernel
theorem dX6_takeDelivery_120 : decode cX6_takeDelivery 120 = .ok (.return_, 1) := by decide +kernel
theorem dX6_takeRevision_0 : decode cX6_takeRevision 0 = .ok (.aload_n 0, 1) := by decide +kernel
theorem dX6_takeRevision_1 : decode cX6_takeRevision 1 = .ok (.getfield 17, 3) := by decide +kernel
theorem dX6_takeRevision_4 : decode cX6_takeRevision 4 = .ok (.aload_n 1, 1) := by decide +kernel
theorem dX6_takeRevision_5 : decode cX6_takeRevision 5 = .ok (.getfield 107, 3) := by decide +kernel
theorem dX6_takeRevision_8 : decode cX6_takeRevision 8 = .ok (.aaload, 1) := by decide +kernel
theorem dX6_takeRevision_9 : decode cX6_takeRevision 9 = .ok (.astore 4, 2) := by decide +kernel
theorem dX6_takeRevision_11 : decode cX6_takeRevision 11 = .ok (.aload_n 0, 1) := by decide +kernel
theorem dX6_takeRevision_12 : decode cX6_takeRevision 12 = .ok (.getfield 17, 3) := by decide +kernel
theorem dX6_takeRevision_15 : decode cX6_takeRevision 15 = .ok (.iload_n 2, 1) := by decide +kernel
theorem dX6_takeRevision_16 : decode cX6_takeRevision 16 = .ok (.aaload, 1) := by decide +kernel
theorem dX6_takeRevision_17 : decode cX6_takeRevision 17 = .ok (.astore 5, 2) := by decide +kernel
theorem dX6_takeRevision_19 : decode cX6_takeRevision 19 = .ok (.aload_n 1, 1) := by decide +kernel
theorem dX6_takeRevision_20 : decode cX6_takeRevision 20 = .ok (.getfield 88, 3) := by decide +kernel
theorem dX6_takeRevision_23 : decode cX6_takeRevision 23 = .ok (.getfield 110, 3) := by decide +kernel
theorem dX6_takeRevision_26 : decode cX6_takeRevision 26 = .ok (.aload 5, 2) := by decide +kernel
theorem dX6_takeRevision_28 : decode cX6_takeRevision 28 = .ok (.getfield 116, 3) := by decide +kernel
theorem dX6_takeRevision_31 : decode cX6_takeRevision 31 = .ok (.imul, 1) := by decide +kernel
theorem dX6_takeRevision_32 : decode cX6_takeRevision 32 = .ok (.aload_n 0, 1) := by decide +kernel
theorem dX6_takeRevision_33 : decode cX6_takeRevision 33 = .ok (.getfield 9, 3) := by decide +kernel
theorem dX6_takeRevision_36 : decode cX6_takeRevision 36 = .ok (.iconst 0, 1) := by decide +kernel
theorem dX6_takeRevision_37 : decode cX6_takeRevision 37 = .ok (.iaload, 1) := by decide +kernel
theorem dX6_takeRevision_38 : decode cX6_takeRevision 38 = .ok (.imul, 1) := by decide +kernel
theorem dX6_takeRevision_39 : decode cX6_takeRevision 39 = .ok (.bipush 100, 2) := by decide +kernel
theorem dX6_takeRevision_41 : decode cX6_takeRevision 41 = .ok (.idiv, 1) := by decide +kernel
theorem dX6_takeRevision_42 : decode cX6_takeRevision 42 = .ok (.istore 6, 2) := by decide +kernel
theorem dX6_takeRevision_44 : decode cX6_takeRevision 44 = .ok (.iload_n 3, 1) := by decide +kernel
theorem dX6_takeRevision_45 : decode cX6_takeRevision 45 = .ok (.aload_n 1, 1) := by decide +kernel
theorem dX6_takeRevision_46 : decode cX6_takeRevision 46 = .ok (.getfield 119, 3) := by decide +kernel
theorem dX6_takeRevision_49 : decode cX6_takeRevision 49 = .ok (.imul, 1) := by decide +kernel
theorem dX6_takeRevision_50 : decode cX6_takeRevision 50 = .ok (.aload_n 0, 1) := by decide +kernel
theorem dX6_takeRevision_51 : decode cX6_takeRevision 51 = .ok (.getfield 9, 3) := by decide +kernel
theorem dX6_takeRevision_54 : decode cX6_takeRevision 54 = .ok (.iconst 1, 1) := by decide +kernel
theorem dX6_takeRevision_55 : decode cX6_takeRevision 55 = .ok (.iaload, 1) := by decide +kernel
theorem dX6_takeRevision_56 : decode cX6_takeRevision 56 = .ok (.imul, 1) := by decide +kernel
theorem dX6_takeRevision_57 : decode cX6_takeRevision 57 = .ok (.bipush 100, 2) := by decide +kernel
theorem dX6_takeRevision_59 : decode cX6_takeRevision 59 = .ok (.idiv, 1) := by decide +kernel
theorem dX6_takeRevision_60 : decode cX6_takeRevision 60 = .ok (.istore 7, 2) := by decide +kernel
theorem dX6_takeRevision_62 : decode cX6_takeRevision 62 = .ok (.iload 7, 2) := by decide +kernel
theorem dX6_takeRevision_64 : decode cX6_takeRevision 64 = .ok (.aload_n 1, 1) := by decide +kernel
theorem dX6_takeRevision_65 : decode cX6_takeRevision 65 = .ok (.getfield 122, 3) := by decide +kernel
theorem dX6_takeRevision_68 : decode cX6_takeRevision 68 = .ok (.invokestatic 140, 3) := by decide +kernel
theorem dX6_takeRevision_71 : decode cX6_takeRevision 71 = .ok (.istore 8, 2) := by decide +kernel
theorem dX6_takeRevision_73 : decode cX6_takeRevision 73 = .ok (.aload_n 1, 1) := by decide +kernel
theorem dX6_takeRevision_74 : decode cX6_takeRevision 74 = .ok (.iconst 3, 1) := by decide +kernel
theorem dX6_takeRevision_75 : decode cX6_takeRevision 75 = .ok (.putfield 113, 3) := by decide +kernel
theorem dX6_takeRevision_78 : decode cX6_takeRevision 78 = .ok (.aload_n 1, 1) := by decide +kernel
theorem dX6_takeRevision_79 : decode cX6_takeRevision 79 = .ok (.iload_n 2, 1) := by decide +kernel
theorem dX6_takeRevision_80 : decode cX6_takeRevision 80 = .ok (.putfield 146, 3) := by decide +kernel
theorem dX6_takeRevision_83 : decode cX6_takeRevision 83 = .ok (.aload_n 1, 1) := by decide +kernel
theorem dX6_takeRevision_84 : decode cX6_takeRevision 84 = .ok (.iload_n 3, 1) := by decide +kernel
theorem dX6_takeRevision_85 : decode cX6_takeRevision 85 = .ok (.putfield 149, 3) := by decide +kernel
theorem dX6_takeRevision_88 : decode cX6_takeRevision 88 = .ok (.aload_n 1, 1) := by decide +kernel
theorem dX6_takeRevision_89 : decode cX6_takeRevision 89 = .ok (.dup, 1) := by decide +kernel
theorem dX6_takeRevision_90 : decode cX6_takeRevision 90 = .ok (.getfield 122, 3) := by decide +kernel
theorem dX6_takeRevision_93 : decode cX6_takeRevision 93 = .ok (.iload 8, 2) := by decide +kernel
theorem dX6_takeRevision_95 : decode cX6_takeRevision 95 = .ok (.isub, 1) := by decide +kernel
theorem dX6_takeRevision_96 : decode cX6_takeRevision 96 = .ok (.putfield 122, 3) := by decide +kernel
theorem dX6_takeRevision_99 : decode cX6_takeRevision 99 = .ok (.aload 4, 2) := by decide +kernel
theorem dX6_takeRevision_101 : decode cX6_takeRevision 101 = .ok (.dup, 1) := by decide +kernel
theorem dX6_takeRevision_102 : decode cX6_takeRevision 102 = .ok (.getfield 125, 3) := by decide +kernel
theorem dX6_takeRevision_105 : decode cX6_takeRevision 105 = .ok (.iload 8, 2) := by decide +kernel
theorem dX6_takeRevision_107 : decode cX6_takeRevision 107 = .ok (.isub, 1) := by decide +kernel
theorem dX6_takeRevision_108 : decode cX6_takeRevision 108 = .ok (.putfield 125, 3) := by decide +kernel
theorem dX6_takeRevision_111 : decode cX6_takeRevision 111 = .ok (.aload 4, 2) := by decide +kernel
theorem dX6_takeRevision_113 : decode cX6_takeRevision 113 = .ok (.dup, 1) := by decide +kernel
theorem dX6_takeRevision_114 : decode cX6_takeRevision 114 = .ok (.getfield 152, 3) := by decide +kernel
theorem dX6_takeRevision_117 : decode cX6_takeRevision 117 = .ok (.iload_n 3, 1) := by decide +kernel
theorem dX6_takeRevision_118 : decode cX6_takeRevision 118 = .ok (.iadd, 1) := by decide +kernel
theorem dX6_takeRevision_119 : decode cX6_takeRevision 119 = .ok (.putfield 152, 3) := by decide +kernel
theorem dX6_takeRevision_122 : decode cX6_takeRevision 122 = .ok (.aload 5, 2) := by decide +kernel
theorem dX6_takeRevision_124 : decode cX6_takeRevision 124 = .ok (.dup, 1) := by decide +kernel
theorem dX6_takeRevision_125 : decode cX6_takeRevision 125 = .ok (.getfield 125, 3) := by decide +kernel
theorem dX6_takeRevision_128 : decode cX6_takeRevision 128 = .ok (.iload 6, 2) := by decide +kernel
theorem dX6_takeRevision_130 : decode cX6_takeRevision 130 = .ok (.iadd, 1) := by decide +kernel
theorem dX6_takeRevision_131 : decode cX6_takeRevision 131 = .ok (.putfield 125, 3) := by decide +kernel
theorem dX6_takeRevision_134 : decode cX6_takeRevision 134 = .ok (.aload 5, 2) := by decide +kernel
theorem dX6_takeRevision_136 : decode cX6_takeRevision 136 = .ok (.dup, 1) := by decide +kernel
theorem dX6_takeRevision_137 : decode cX6_takeRevision 137 = .ok (.getfield 155, 3) := by decide +kernel
theorem dX6_takeRevision_140 : decode cX6_takeRevision 140 = .ok (.iload_n 3, 1) := by decide +kernel
theorem dX6_takeRevision_141 : decode cX6_takeRevision 141 = .ok (.iadd, 1) := by decide +kernel
theorem dX6_takeRevision_142 : decode cX6_takeRevision 142 = .ok (.putfield 155, 3) := by decide +kernel
theorem dX6_takeRevision_145 : decode cX6_takeRevision 145 = .ok (.return_, 1) := by decide +kernel
theorem dX6_replaceSource_0 : decode cX6_replaceSource 0 = .ok (.aload_n 1, 1) := by decide +kernel
theorem dX6_replaceSource_1 : decode cX6_replaceSource 1 = .ok (.aload_n 2, 1) := by decide +kernel
theorem dX6_replaceSource_2 : decode cX6_replaceSource 2 = .ok (.putfield 88, 3) := by decide +kernel
theorem dX6_replaceSource_5 : decode cX6_replaceSource 5 = .ok (.aload_n 1, 1) := by decide +kernel
theorem dX6_replaceSource_6 : decode cX6_replaceSource 6 = .ok (.getfield 113, 3) := by decide +kernel
theorem dX6_replaceSource_9 : decode cX6_replaceSource 9 = .ok (.ifCond .ne 4, 3) := by decide +kernel
theorem dX6_replaceSource_12 : decode cX6_replaceSource 12 = .ok (.return_, 1) := by decide +kernel
theorem dX6_replaceSource_13 : decode cX6_replaceSource 13 = .ok (.aload_n 1, 1) := by decide +kernel
theorem dX6_replaceSource_14 : decode cX6_replaceSource 14 = .ok (.invokevirtual 156, 3) := by decide +kernel
theorem dX6_replaceSource_17 : decode cX6_replaceSource 17 = .ok (.aload_n 0, 1) := by decide +kernel
theorem dX6_replaceSource_18 : decode cX6_replaceSource 18 = .ok (.aload_n 1, 1) := by decide +kernel
theorem dX6_replaceSource_19 : decode cX6_replaceSource 19 = .ok (.invokevirtual 159, 3) := by decide +kernel
theorem dX6_replaceSource_22 : decode cX6_replaceSource 22 = .ok (.return_, 1) := by decide +kernel
theorem dX6_bandOf_0 : decode cX6_bandOf 0 = .ok (.iconst 0, 1) := by decide +kernel
theorem dX6_bandOf_1 : decode cX6_bandOf 1 = .ok (.istore_n 1, 1) := by decide +kernel
theorem dX6_bandOf_2 : decode cX6_bandOf 2 = .ok (.iload_n 1, 1) := by decide +kernel
theorem dX6_bandOf_3 : decode cX6_bandOf 3 = .ok (.getstatic 162, 3) := by decide +kernel
theorem dX6_bandOf_6 : decode cX6_bandOf 6 = .ok (.arraylength, 1) := by decide +kernel
theorem dX6_bandOf_7 : decode cX6_bandOf 7 = .ok (.if_icmp .ge 20, 3) := by decide +kernel
theorem dX6_bandOf_10 : decode cX6_bandOf 10 = .ok (.iload_n 0, 1) := by decide +kernel
theorem dX6_bandOf_11 : decode cX6_bandOf 11 = .ok (.getstatic 162, 3) := by decide +kernel
theorem dX6_bandOf_14 : decode cX6_bandOf 14 = .ok (.iload_n 1, 1) := by decide +kernel
theorem dX6_bandOf_15 : decode cX6_bandOf 15 = .ok (.iaload, 1) := by decide +kernel
theorem dX6_bandOf_16 : decode cX6_bandOf 16 = .ok (.if_icmp .lt 5, 3) := by decide +kernel
theorem dX6_bandOf_19 : decode cX6_bandOf 19 = .ok (.iload_n 1, 1) := by decide +kernel
theorem dX6_bandOf_20 : decode cX6_bandOf 20 = .ok (.ireturn, 1) := by decide +kernel
theorem dX6_bandOf_21 : decode cX6_bandOf 21 = .ok (.iinc 1 1, 3) := by decide +kernel
theorem dX6_bandOf_24 : decode cX6_bandOf 24 = .ok (.goto (-22), 3) := by decide +kernel
theorem dX6_bandOf_27 : decode cX6_bandOf 27 = .ok (.getstatic 162, 3) := by decide +kernel
theorem dX6_bandOf_30 : decode cX6_bandOf 30 = .ok (.arraylength, 1) := by decide +kernel
theorem dX6_bandOf_31 : decode cX6_bandOf 31 = .ok (.ireturn, 1) := by decide +kernel
theorem dX6_percentOf_0 : decode cX6_percentOf 0 = .ok (.aload_n 0, 1) := by decide +kernel
theorem dX6_percentOf_1 : decode cX6_percentOf 1 = .ok (.getfield 23, 3) := by decide +kernel
theorem dX6_percentOf_4 : decode cX6_percentOf 4 = .ok (.iload_n 1, 1) := by decide +kernel
theorem dX6_percentOf_5 : decode cX6_percentOf 5 = .ok (.invokestatic 96, 3) := by decide +kernel
theorem dX6_percentOf_8 : decode cX6_percentOf 8 = .ok (.aaload, 1) := by decide +kernel
theorem dX6_percentOf_9 : decode cX6_percentOf 9 = .ok (.getfield 103, 3) := by decide +kernel
theorem dX6_percentOf_12 : decode cX6_percentOf 12 = .ok (.ireturn, 1) := by decide +kernel
theorem dX6_percentNow_0 : decode cX6_percentNow 0 = .ok (.aload_n 0, 1) := by decide +kernel
theorem dX6_percentNow_1 : decode cX6_percentNow 1 = .ok (.aload_n 0, 1) := by decide +kernel
theorem dX6_percentNow_2 : decode cX6_percentNow 2 = .ok (.getfield 53, 3) := by decide +kernel
theorem dX6_percentNow_5 : decode cX6_percentNow 5 = .ok (.aload_n 1, 1) := by decide +kernel
theorem dX6_percentNow_6 : decode cX6_percentNow 6 = .ok (.iconst 0, 1) := by decide +kernel
theorem dX6_percentNow_7 : decode cX6_percentNow 7 = .ok (.invokevirtual 92, 3) := by decide +kernel
theorem dX6_percentNow_10 : decode cX6_percentNow 10 = .ok (.invokevirtual 165, 3) := by decide +kernel
theorem dX6_percentNow_13 : decode cX6_percentNow 13 = .ok (.ireturn, 1) := by decide +kernel
theorem dX6_costInOrder_0 : decode cX6_costInOrder 0 = .ok (.aload_n 0, 1) := by decide +kernel
theorem dX6_costInOrder_1 : decode cX6_costInOrder 1 = .ok (.aload_n 0, 1) := by decide +kernel
theorem dX6_costInOrder_2 : decode cX6_costInOrder 2 = .ok (.getfield 53, 3) := by decide +kernel
theorem dX6_costInOrder_5 : decode cX6_costInOrder 5 = .ok (.aload_n 2, 1) := by decide +kernel
theorem dX6_costInOrder_6 : decode cX6_costInOrder 6 = .ok (.aload_n 1, 1) := by decide +kernel
theorem dX6_costInOrder_7 : decode cX6_costInOrder 7 = .ok (.invokevirtual 168, 3) := by decide +kernel
theorem dX6_costInOrder_10 : decode cX6_costInOrder 10 = .ok (.invokevirtual 165, 3) := by decide +kernel
theorem dX6_costInOrder_13 : decode cX6_costInOrder 13 = .ok (.istore_n 3, 1) := by decide +kernel
theorem dX6_costInOrder_14 : decode cX6_costInOrder 14 = .ok (.aload_n 1, 1) := by decide +kernel
theorem dX6_costInOrder_15 : decode cX6_costInOrder 15 = .ok (.getfield 110, 3) := by decide +kernel
theorem dX6_costInOrder_18 : decode cX6_costInOrder 18 = .ok (.aload_n 0, 1) := by decide +kernel
theorem dX6_costInOrder_19 : decode cX6_costInOrder 19 = .ok (.aload_n 1, 1) := by decide +kernel
theorem dX6_costInOrder_20 : decode cX6_costInOrder 20 = .ok (.invokevirtual 172, 3) := by decide +kernel
theorem dX6_costInOrder_23 : decode cX6_costInOrder 23 = .ok (.imul, 1) := by decide +kernel
theorem dX6_costInOrder_24 : decode cX6_costInOrder 24 = .ok (.aload_n 2, 1) := by decide +kernel
theorem dX6_costInOrder_25 : decode cX6_costInOrder 25 = .ok (.getfield 110, 3) := by decide +kernel
theorem dX6_costInOrder_28 : decode cX6_costInOrder 28 = .ok (.iload_n 3, 1) := by decide +kernel
theorem dX6_costInOrder_29 : decode cX6_costInOrder 29 = .ok (.imul, 1) := by decide +kernel
theorem dX6_costInOrder_30 : decode cX6_costInOrder 30 = .ok (.iadd, 1) := by decide +kernel
theorem dX6_costInOrder_31 : decode cX6_costInOrder 31 = .ok (.ireturn, 1) := by decide +kernel
theorem dX6_savedPercents_0 : decode cX6_savedPercents 0 = .ok (.iconst 0, 1) := by decide +kernel
theorem dX6_savedPercents_1 : decode cX6_savedPercents 1 = .ok (.istore_n 1, 1) := by decide +kernel
theorem dX6_savedPercents_2 : decode cX6_savedPercents 2 = .ok (.iconst 0, 1) := by decide +kernel
theorem dX6_savedPercents_3 : decode cX6_savedPercents 3 = .ok (.istore_n 2, 1) := by decide +kernel
theorem dX6_savedPercents_4 : decode cX6_savedPercents 4 = .ok (.iload_n 2, 1) := by decide +kernel
theorem dX6_savedPercents_5 : decode cX6_savedPercents 5 = .ok (.aload_n 0, 1) := by decide +kernel
theorem dX6_savedPercents_6 : decode cX6_savedPercents 6 = .ok (.getfield 39, 3) := by decide +kernel
theorem dX6_savedPercents_9 : decode cX6_savedPercents 9 = .ok (.if_icmp .ge 35, 3) := by decide +kernel
theorem dX6_savedPercents_12 : decode cX6_savedPercents 12 = .ok (.aload_n 0, 1) := by decide +kernel
theorem dX6_savedPercents_13 : decode cX6_savedPercents 13 = .ok (.getfield 35, 3) := by decide +kernel
theorem dX6_savedPercents_16 : decode cX6_savedPercents 16 = .ok (.iload_n 2, 1) := by decide +kernel
theorem dX6_savedPercents_17 : decode cX6_savedPercents 17 = .ok (.aaload, 1) := by decide +kernel
theorem dX6_savedPercents_18 : decode cX6_savedPercents 18 = .ok (.getfield 88, 3) := by decide +kernel
theorem dX6_savedPercents_21 : decode cX6_savedPercents 21 = .ok (.astore_n 3, 1) := by decide +kernel
theorem dX6_savedPercents_22 : decode cX6_savedPercents 22 = .ok (.iload_n 1, 1) := by decide +kernel
theorem dX6_savedPercents_23 : decode cX6_savedPercents 23 = .ok (.aload_n 3, 1) := by decide +kernel
theorem dX6_savedPercents_24 : decode cX6_savedPercents 24 = .ok (.getfield 110, 3) := by decide +kernel
theorem dX6_savedPercents_27 : decode cX6_savedPercents 27 = .ok (.bipush 100, 2) := by decide +kernel
theorem dX6_savedPercents_29 : decode cX6_savedPercents 29 = .ok (.aload_n 0, 1) := by decide +kernel
theorem dX6_savedPercents_30 : decode cX6_savedPercents 30 = .ok (.aload_n 3, 1) := by decide +kernel
theorem dX6_savedPercents_31 : decode cX6_savedPercents 31 = .ok (.invokevirtual 172, 3) := by decide +kernel
theorem dX6_savedPercents_34 : decode cX6_savedPercents 34 = .ok (.isub, 1) := by decide +kernel
theorem dX6_savedPercents_35 : decode cX6_savedPercents 35 = .ok (.imul, 1) := by decide +kernel
theorem dX6_savedPercents_36 : decode cX6_savedPercents 36 = .ok (.iadd, 1) := by decide +kernel
theorem dX6_savedPercents_37 : decode cX6_savedPercents 37 = .ok (.istore_n 1, 1) := by decide +kernel
theorem dX6_savedPercents_38 : decode cX6_savedPercents 38 = .ok (.iinc 2 1, 3) := by decide +kernel
theorem dX6_savedPercents_41 : decode cX6_savedPercents 41 = .ok (.goto (-37), 3) := by decide +kernel
theorem dX6_savedPercents_44 : decode cX6_savedPercents 44 = .ok (.iload_n 1, 1) := by decide +kernel
theorem dX6_savedPercents_45 : decode cX6_savedPercents 45 = .ok (.ireturn, 1) := by decide +kernel
theorem dX6_hasDispute_0 : decode cX6_hasDispute 0 = .ok (.aload_n 1, 1) := by decide +kernel
theorem dX6_hasDispute_1 : decode cX6_hasDispute 1 = .ok (.getfield 176, 3) := by decide +kernel
theorem dX6_hasDispute_4 : decode cX6_hasDispute 4 = .ok (.astore_n 2, 1) := by decide +kernel
theorem dX6_hasDispute_5 : decode cX6_hasDispute 5 = .ok (.aload_n 2, 1) := by decide +kernel
theorem dX6_hasDispute_6 : decode cX6_hasDispute 6 = .ok (.arraylength, 1) := by decide +kernel
theorem dX6_hasDispute_7 : decode cX6_hasDispute 7 = .ok (.istore_n 3, 1) := by decide +kernel
theorem dX6_hasDispute_8 : decode cX6_hasDispute 8 = .ok (.iconst 0, 1) := by decide +kernel
theorem dX6_hasDispute_9 : decode cX6_hasDispute 9 = .ok (.istore 4, 2) := by decide +kernel
theorem dX6_hasDispute_11 : decode cX6_hasDispute 11 = .ok (.iload 4, 2) := by decide +kernel
theorem dX6_hasDispute_13 : decode cX6_hasDispute 13 = .ok (.iload_n 3, 1) := by decide +kernel
theorem dX6_hasDispute_14 : decode cX6_hasDispute 14 = .ok (.if_icmp .ge 30, 3) := by decide +kernel
theorem dX6_hasDispute_17 : decode cX6_hasDispute 17 = .ok (.aload_n 2, 1) := by decide +kernel
theorem dX6_hasDispute_18 : decode cX6_hasDispute 18 = .ok (.iload 4, 2) := by decide +kernel
theorem dX6_hasDispute_20 : decode cX6_hasDispute 20 = .ok (.iaload, 1) := by decide +kernel
theorem dX6_hasDispute_21 : decode cX6_hasDispute 21 = .ok (.istore 5, 2) := by decide +kernel
theorem dX6_hasDispute_23 : decode cX6_hasDispute 23 = .ok (.aload_n 0, 1) := by decide +kernel
theorem dX6_hasDispute_24 : decode cX6_hasDispute 24 = .ok (.getfield 29, 3) := by decide +kernel
theorem dX6_hasDispute_27 : decode cX6_hasDispute 27 = .ok (.iload 5, 2) := by decide +kernel
theorem dX6_hasDispute_29 : decode cX6_hasDispute 29 = .ok (.aaload, 1) := by decide +kernel
theorem dX6_hasDispute_30 : decode cX6_hasDispute 30 = .ok (.invokevirtual 178, 3) := by decide +kernel
theorem dX6_hasDispute_33 : decode cX6_hasDispute 33 = .ok (.ifCond .eq 5, 3) := by decide +kernel
theorem dX6_hasDispute_36 : decode cX6_hasDispute 36 = .ok (.iconst 1, 1) := by decide +kernel
theorem dX6_hasDispute_37 : decode cX6_hasDispute 37 = .ok (.ireturn, 1) := by decide +kernel
theorem dX6_hasDispute_38 : decode cX6_hasDispute 38 = .ok (.iinc 4 1, 3) := by decide +kernel
theorem dX6_hasDispute_41 : decode cX6_hasDispute 41 = .ok (.goto (-30), 3) := by decide +kernel
theorem dX6_hasDispute_44 : decode cX6_hasDispute 44 = .ok (.iconst 0, 1) := by decide +kernel
theorem dX6_hasDispute_45 : decode cX6_hasDispute 45 = .ok (.ireturn, 1) := by decide +kernel
theorem dX6_segmentsAt_0 : decode cX6_segmentsAt 0 = .ok (.iconst 0, 1) := by decide +kernel
theorem dX6_segmentsAt_1 : decode cX6_segmentsAt 1 = .ok (.istore_n 2, 1) := by decide +kernel
theorem dX6_segmentsAt_2 : decode cX6_segmentsAt 2 = .ok (.iconst 0, 1) := by decide +kernel
theorem dX6_segmentsAt_3 : decode cX6_segmentsAt 3 = .ok (.istore_n 3, 1) := by decide +kernel
theorem dX6_segmentsAt_4 : decode cX6_segmentsAt 4 = .ok (.iload_n 3, 1) := by decide +kernel
theorem dX6_segmentsAt_5 : decode cX6_segmentsAt 5 = .ok (.aload_n 0, 1) := by decide +kernel
theorem dX6_segmentsAt_6 : decode cX6_segmentsAt 6 = .ok (.getfield 39, 3) := by decide +kernel
theorem dX6_segmentsAt_9 : decode cX6_segmentsAt 9 = .ok (.if_icmp .ge 33, 3) := by decide +kernel
theorem dX6_segmentsAt_12 : decode cX6_segmentsAt 12 = .ok (.iload_n 2, 1) := by decide +kernel
theorem dX6_segmentsAt_13 : decode cX6_segmentsAt 13 = .ok (.aload_n 0, 1) := by decide +kernel
theorem dX6_segmentsAt_14 : decode cX6_segmentsAt 14 = .ok (.getfield 35, 3) := by decide +kernel
theorem dX6_segmentsAt_17 : decode cX6_segmentsAt 17 = .ok (.iload_n 3, 1) := by decide +kernel
theorem dX6_segmentsAt_18 : decode cX6_segmentsAt 18 = .ok (.aaload, 1) := by decide +kernel
theorem dX6_segmentsAt_19 : decode cX6_segmentsAt 19 = .ok (.getfield 113, 3) := by decide +kernel
theorem dX6_segmentsAt_22 : decode cX6_segmentsAt 22 = .ok (.iload_n 1, 1) := by decide +kernel
theorem dX6_segmentsAt_23 : decode cX6_segmentsAt 23 = .ok (.if_icmp .ne 7, 3) := by decide +kernel
theorem dX6_segmentsAt_26 : decode cX6_segmentsAt 26 = .ok (.iconst 1, 1) := by decide +kernel
theorem dX6_segmentsAt_27 : decode cX6_segmentsAt 27 = .ok (.goto 4, 3) := by decide +kernel
theorem dX6_segmentsAt_30 : decode cX6_segmentsAt 30 = .ok (.iconst 0, 1) := by decide +kernel
theorem dX6_segmentsAt_31 : decode cX6_segmentsAt 31 = .ok (.invokestatic 182, 3) := by decide +kernel
theorem dX6_segmentsAt_34 : decode cX6_segmentsAt 34 = .ok (.iadd, 1) := by decide +kernel
theorem dX6_segmentsAt_35 : decode cX6_segmentsAt 35 = .ok (.istore_n 2, 1) := by decide +kernel
theorem dX6_segmentsAt_36 : decode cX6_segmentsAt 36 = .ok (.iinc 3 1, 3) := by decide +kernel
theorem dX6_segmentsAt_39 : decode cX6_segmentsAt 39 = .ok (.goto (-35), 3) := by decide +kernel
theorem dX6_segmentsAt_42 : decode cX6_segmentsAt 42 = .ok (.iload_n 2, 1) := by decide +kernel
theorem dX6_segmentsAt_43 : decode cX6_segmentsAt 43 = .ok (.ireturn, 1) := by decide +kernel
theorem dX6_assignedTo_0 : decode cX6_assignedTo 0 = .ok (.iconst 0, 1) := by decide +kernel
theorem dX6_assignedTo_1 : decode cX6_assignedTo 1 = .ok (.istore_n 2, 1) := by decide +kernel
theorem dX6_assignedTo_2 : decode cX6_assignedTo 2 = .ok (.iconst 0, 1) := by decide +kernel
theorem dX6_assignedTo_3 : decode cX6_assignedTo 3 = .ok (.istore_n 3, 1) := by decide +kernel
theorem dX6_assignedTo_4 : decode cX6_assignedTo 4 = .ok (.iload_n 3, 1) := by decide +kernel
theorem dX6_assignedTo_5 : decode cX6_assignedTo 5 = .ok (.aload_n 0, 1) := by decide +kernel
theorem dX6_assignedTo_6 : decode cX6_assignedTo 6 = .ok (.getfield 39, 3) := by decide +kernel
theorem dX6_assignedTo_9 : decode cX6_assignedTo 9 = .ok (.if_icmp .ge 46, 3) := by decide +kernel
theorem dX6_assignedTo_12 : decode cX6_assignedTo 12 = .ok (.aload_n 0, 1) := by decide +kernel
theorem dX6_assignedTo_13 : decode cX6_assignedTo 13 = .ok (.getfield 35, 3) := by decide +kernel
theorem dX6_assignedTo_16 : decode cX6_assignedTo 16 = .ok (.iload_n 3, 1) := by decide +kernel
theorem dX6_assignedTo_17 : decode cX6_assignedTo 17 = .ok (.aaload, 1) := by decide +kernel
theorem dX6_assignedTo_18 : decode cX6_assignedTo 18 = .ok (.astore 4, 2) := by decide +kernel
theorem dX6_assignedTo_20 : decode cX6_assignedTo 20 = .ok (.iload_n 2, 1) := by decide +kernel
theorem dX6_assignedTo_21 : decode cX6_assignedTo 21 = .ok (.aload 4, 2) := by decide +kernel
theorem dX6_assignedTo_23 : decode cX6_assignedTo 23 = .ok (.getfield 113, 3) := by decide +kernel
theorem dX6_assignedTo_26 : decode cX6_assignedTo 26 = .ok (.iconst 1, 1) := by decide +kernel
theorem dX6_assignedTo_27 : decode cX6_assignedTo 27 = .ok (.if_icmp .ne 16, 3) := by decide +kernel
theorem dX6_assignedTo_30 : decode cX6_assignedTo 30 = .ok (.aload 4, 2) := by decide +kernel
theorem dX6_assignedTo_32 : decode cX6_assignedTo 32 = .ok (.getfield 107, 3) := by decide +kernel
theorem dX6_assignedTo_35 : decode cX6_assignedTo 35 = .ok (.iload_n 1, 1) := by decide +kernel
theorem dX6_assignedTo_36 : decode cX6_assignedTo 36 = .ok (.if_icmp .ne 7, 3) := by decide +kernel
theorem dX6_assignedTo_39 : decode cX6_assignedTo 39 = .ok (.iconst 1, 1) := by decide +kernel
theorem dX6_assignedTo_40 : decode cX6_assignedTo 40 = .ok (.goto 4, 3) := by decide +kernel
theorem dX6_assignedTo_43 : decode cX6_assignedTo 43 = .ok (.iconst 0, 1) := by decide +kernel
theorem dX6_assignedTo_44 : decode cX6_assignedTo 44 = .ok (.invokestatic 182, 3) := by decide +kernel
theorem dX6_assignedTo_47 : decode cX6_assignedTo 47 = .ok (.iadd, 1) := by decide +kernel
theorem dX6_assignedTo_48 : decode cX6_assignedTo 48 = .ok (.istore_n 2, 1) := by decide +kernel
theorem dX6_assignedTo_49 : decode cX6_assignedTo 49 = .ok (.iinc 3 1, 3) := by decide +kernel
theorem dX6_assignedTo_52 : decode cX6_assignedTo 52 = .ok (.goto (-48), 3) := by decide +kernel
theorem dX6_assignedTo_55 : decode cX6_assignedTo 55 = .ok (.iload_n 2, 1) := by decide +kernel
theorem dX6_assignedTo_56 : decode cX6_assignedTo 56 = .ok (.ireturn, 1) := by decide +kernel
theorem dX6_proposalsOf_0 : decode cX6_proposalsOf 0 = .ok (.iconst 0, 1) := by decide +kernel
theorem dX6_proposalsOf_1 : decode cX6_proposalsOf 1 = .ok (.istore_n 2, 1) := by decide +kernel
theorem dX6_proposalsOf_2 : decode cX6_proposalsOf 2 = .ok (.aload_n 0, 1) := by decide +kernel
theorem dX6_proposalsOf_3 : decode cX6_proposalsOf 3 = .ok (.getfield 29, 3) := by decide +kernel
theorem dX6_proposalsOf_6 : decode cX6_proposalsOf 6 = .ok (.astore_n 3, 1) := by decide +kernel
theorem dX6_proposalsOf_7 : decode cX6_proposalsOf 7 = .ok (.aload_n 3, 1) := by decide +kernel
theorem dX6_proposalsOf_8 : decode cX6_proposalsOf 8 = .ok (.arraylength, 1) := by decide +kernel
theorem dX6_proposalsOf_9 : decode cX6_proposalsOf 9 = .ok (.istore 4, 2) := by decide +kernel
theorem dX6_proposalsOf_11 : decode cX6_proposalsOf 11 = .ok (.iconst 0, 1) := by decide +kernel
theorem dX6_proposalsOf_12 : decode cX6_proposalsOf 12 = .ok (.istore 5, 2) := by decide +kernel
theorem dX6_proposalsOf_14 : decode cX6_proposalsOf 14 = .ok (.iload 5, 2) := by decide +kernel
theorem dX6_proposalsOf_16 : decode cX6_proposalsOf 16 = .ok (.iload 4, 2) := by decide +kernel
theorem dX6_proposalsOf_18 : decode cX6_proposalsOf 18 = .ok (.if_icmp .ge 37, 3) := by decide +kernel
theorem dX6_proposalsOf_21 : decode cX6_proposalsOf 21 = .ok (.aload_n 3, 1) := by decide +kernel
theorem dX6_proposalsOf_22 : decode cX6_proposalsOf 22 = .ok (.iload 5, 2) := by decide +kernel
theorem dX6_proposalsOf_24 : decode cX6_proposalsOf 24 = .ok (.aaload, 1) := by decide +kernel
theorem dX6_proposalsOf_25 : decode cX6_proposalsOf 25 = .ok (.astore 6, 2) := by decide +kernel
theorem dX6_proposalsOf_27 : decode cX6_proposalsOf 27 = .ok (.iload_n 2, 1) := by decide +kernel
theorem dX6_proposalsOf_28 : decode cX6_proposalsOf 28 = .ok (.aload 6, 2) := by decide +kernel
theorem dX6_proposalsOf_30 : decode cX6_proposalsOf 30 = .ok (.getfield 186, 3) := by decide +kernel
theorem dX6_proposalsOf_33 : decode cX6_proposalsOf 33 = .ok (.iload_n 1, 1) := by decide +kernel
theorem dX6_proposalsOf_34 : decode cX6_proposalsOf 34 = .ok (.iaload, 1) := by decide +kernel
theorem dX6_proposalsOf_35 : decode cX6_proposalsOf 35 = .ok (.iconst (-1), 1) := by decide +kernel
theorem dX6_proposalsOf_36 : decode cX6_proposalsOf 36 = .ok (.if_icmp .eq 7, 3) := by decide +kernel
theorem dX6_proposalsOf_39 : decode cX6_proposalsOf 39 = .ok (.iconst 1, 1) := by decide +kernel
theorem dX6_proposalsOf_40 : decode cX6_proposalsOf 40 = .ok (.goto 4, 3) := by decide +kernel
theorem dX6_proposalsOf_43 : decode cX6_proposalsOf 43 = .ok (.iconst 0, 1) := by decide +kernel
theorem dX6_proposalsOf_44 : decode cX6_proposalsOf 44 = .ok (.invokestatic 182, 3) := by decide +kernel
theorem dX6_proposalsOf_47 : decode cX6_proposalsOf 47 = .ok (.iadd, 1) := by decide +kernel
theorem dX6_proposalsOf_48 : decode cX6_proposalsOf 48 = .ok (.istore_n 2, 1) := by decide +kernel
theorem dX6_proposalsOf_49 : decode cX6_proposalsOf 49 = .ok (.iinc 5 1, 3) := by decide +kernel
theorem dX6_proposalsOf_52 : decode cX6_proposalsOf 52 = .ok (.goto (-38), 3) := by decide +kernel
theorem dX6_proposalsOf_55 : decode cX6_proposalsOf 55 = .ok (.iload_n 2, 1) := by decide +kernel
theorem dX6_proposalsOf_56 : decode cX6_proposalsOf 56 = .ok (.ireturn, 1) := by decide +kernel
theorem dX6_occurrences_0 : decode cX6_occurrences 0 = .ok (.iconst 0, 1) := by decide +kernel
theorem dX6_occurrences_1 : decode cX6_occurrences 1 = .ok (.istore_n 2, 1) := by decide +kernel
theorem dX6_occurrences_2 : decode cX6_occurrences 2 = .ok (.iconst 0, 1) := by decide +kernel
theorem dX6_occurrences_3 : decode cX6_occurrences 3 = .ok (.istore_n 3, 1) := by decide +kernel
theorem dX6_occurrences_4 : decode cX6_occurrences 4 = .ok (.iload_n 3, 1) := by decide +kernel
theorem dX6_occurrences_5 : decode cX6_occurrences 5 = .ok (.aload_n 0, 1) := by decide +kernel
theorem dX6_occurrences_6 : decode cX6_occurrences 6 = .ok (.getfield 39, 3) := by decide +kernel
theorem dX6_occurrences_9 : decode cX6_occurrences 9 = .ok (.if_icmp .ge 29, 3) := by decide +kernel
theorem dX6_occurrences_12 : decode cX6_occurrences 12 = .ok (.iload_n 2, 1) := by decide +kernel
theorem dX6_occurrences_13 : decode cX6_occurrences 13 = .ok (.aload_n 0, 1) := by decide +kernel
theorem dX6_occurrences_14 : decode cX6_occurrences 14 = .ok (.getfield 35, 3) := by decide +kernel
theorem dX6_occurrences_17 : decode cX6_occurrences 17 = .ok (.iload_n 3, 1) := by decide +kernel
theorem dX6_occurrences_18 : decode cX6_occurrences 18 = .ok (.aaload, 1) := by decide +kernel
theorem dX6_occurrences_19 : decode cX6_occurrences 19 = .ok (.getfield 88, 3) := by decide +kernel
theorem dX6_occurrences_22 : decode cX6_occurrences 22 = .ok (.getfield 189, 3) := by decide +kernel
theorem dX6_occurrences_25 : decode cX6_occurrences 25 = .ok (.iload_n 1, 1) := by decide +kernel
theorem dX6_occurrences_26 : decode cX6_occurrences 26 = .ok (.iaload, 1) := by decide +kernel
theorem dX6_occurrences_27 : decode cX6_occurrences 27 = .ok (.invokestatic 192, 3) := by decide +kernel
theorem dX6_occurrences_30 : decode cX6_occurrences 30 = .ok (.iadd, 1) := by decide +kernel
theorem dX6_occurrences_31 : decode cX6_occurrences 31 = .ok (.istore_n 2, 1) := by decide +kernel
theorem dX6_occurrences_32 : decode cX6_occurrences 32 = .ok (.iinc 3 1, 3) := by decide +kernel
theorem dX6_occurrences_35 : decode cX6_occurrences 35 = .ok (.goto (-31), 3) := by decide +kernel
theorem dX6_occurrences_38 : decode cX6_occurrences 38 = .ok (.iload_n 2, 1) := by decide +kernel
theorem dX6_occurrences_39 : decode cX6_occurrences 39 = .ok (.ireturn, 1) := by decide +kernel
theorem dX6_wordsOfAll_0 : decode cX6_wordsOfAll 0 = .ok (.iconst 0, 1) := by decide +kernel
theorem dX6_wordsOfAll_1 : decode cX6_wordsOfAll 1 = .ok (.istore_n 1, 1) := by decide +kernel
theorem dX6_wordsOfAll_2 : decode cX6_wordsOfAll 2 = .ok (.iconst 0, 1) := by decide +kernel
theorem dX6_wordsOfAll_3 : decode cX6_wordsOfAll 3 = .ok (.istore_n 2, 1) := by decide +kernel
theorem dX6_wordsOfAll_4 : decode cX6_wordsOfAll 4 = .ok (.iload_n 2, 1) := by decide +kernel
theorem dX6_wordsOfAll_5 : decode cX6_wordsOfAll 5 = .ok (.aload_n 0, 1) := by decide +kernel
theorem dX6_wordsOfAll_6 : decode cX6_wordsOfAll 6 = .ok (.getfield 39, 3) := by decide +kernel
theorem dX6_wordsOfAll_9 : decode cX6_wordsOfAll 9 = .ok (.if_icmp .ge 24, 3) := by decide +kernel
theorem dX6_wordsOfAll_12 : decode cX6_wordsOfAll 12 = .ok (.iload_n 1, 1) := by decide +kernel
theorem dX6_wordsOfAll_13 : decode cX6_wordsOfAll 13 = .ok (.aload_n 0, 1) := by decide +kernel
theorem dX6_wordsOfAll_14 : decode cX6_wordsOfAll 14 = .ok (.getfield 35, 3) := by decide +kernel
theorem dX6_wordsOfAll_17 : decode cX6_wordsOfAll 17 = .ok (.iload_n 2, 1) := by decide +kernel
theorem dX6_wordsOfAll_18 : decode cX6_wordsOfAll 18 = .ok (.aaload, 1) := by decide +kernel
theorem dX6_wordsOfAll_19 : decode cX6_wordsOfAll 19 = .ok (.getfield 88, 3) := by decide +kernel
theorem dX6_wordsOfAll_22 : decode cX6_wordsOfAll 22 = .ok (.getfield 110, 3) := by decide +kernel
theorem dX6_wordsOfAll_25 : decode cX6_wordsOfAll 25 = .ok (.iadd, 1) := by decide +kernel
theorem dX6_wordsOfAll_26 : decode cX6_wordsOfAll 26 = .ok (.istore_n 1, 1) := by decide +kernel
theorem dX6_wordsOfAll_27 : decode cX6_wordsOfAll 27 = .ok (.iinc 2 1, 3) := by decide +kernel
theorem dX6_wordsOfAll_30 : decode cX6_wordsOfAll 30 = .ok (.goto (-26), 3) := by decide +kernel
theorem dX6_wordsOfAll_33 : decode cX6_wordsOfAll 33 = .ok (.iload_n 1, 1) := by decide +kernel
theorem dX6_wordsOfAll_34 : decode cX6_wordsOfAll 34 = .ok (.ireturn, 1) := by decide +kernel
theorem dX6_deliveredWords_0 : decode cX6_deliveredWords 0 = .ok (.iconst 0, 1) := by decide +kernel
theorem dX6_deliveredWords_1 : decode cX6_deliveredWords 1 = .ok (.istore_n 1, 1) := by decide +kernel
theorem dX6_deliveredWords_2 : decode cX6_deliveredWords 2 = .ok (.aload_n 0, 1) := by decide +kernel
theorem dX6_deliveredWords_3 : decode cX6_deliveredWords 3 = .ok (.getfield 17, 3) := by decide +kernel
theorem dX6_deliveredWords_6 : decode cX6_deliveredWords 6 = .ok (.astore_n 2, 1) := by decide +kernel
theorem dX6_deliveredWords_7 : decode cX6_deliveredWords 7 = .ok (.aload_n 2, 1) := by decide +kernel
theorem dX6_deliveredWords_8 : decode cX6_deliveredWords 8 = .ok (.arraylength, 1) := by decide +kernel
theorem dX6_deliveredWords_9 : decode cX6_deliveredWords 9 = .ok (.istore_n 3, 1) := by decide +kernel
theorem dX6_deliveredWords_10 : decode cX6_deliveredWords 10 = .ok (.iconst 0, 1) := by decide +kernel
theorem dX6_deliveredWords_11 : decode cX6_deliveredWords 11 = .ok (.istore 4, 2) := by decide +kernel
theorem dX6_deliveredWords_13 : decode cX6_deliveredWords 13 = .ok (.iload 4, 2) := by decide +kernel
theorem dX6_deliveredWords_15 : decode cX6_deliveredWords 15 = .ok (.iload_n 3, 1) := by decide +kernel
theorem dX6_deliveredWords_16 : decode cX6_deliveredWords 16 = .ok (.if_icmp .ge 23, 3) := by decide +kernel
theorem dX6_deliveredWords_19 : decode cX6_deliveredWords 19 = .ok (.aload_n 2, 1) := by decide +kernel
theorem dX6_deliveredWords_20 : decode cX6_deliveredWords 20 = .ok (.iload 4, 2) := by decide +kernel
theorem dX6_deliveredWords_22 : decode cX6_deliveredWords 22 = .ok (.aaload, 1) := by decide +kernel
theorem dX6_deliveredWords_23 : decode cX6_deliveredWords 23 = .ok (.astore 5, 2) := by decide +kernel
theorem dX6_deliveredWords_25 : decode cX6_deliveredWords 25 = .ok (.iload_n 1, 1) := by decide +kernel
theorem dX6_deliveredWords_26 : decode cX6_deliveredWords 26 = .ok (.aload 5, 2) := by decide +kernel
theorem dX6_deliveredWords_28 : decode cX6_deliveredWords 28 = .ok (.getfield 128, 3) := by decide +kernel
theorem dX6_deliveredWords_31 : decode cX6_deliveredWords 31 = .ok (.iadd, 1) := by decide +kernel
theorem dX6_deliveredWords_32 : decode cX6_deliveredWords 32 = .ok (.istore_n 1, 1) := by decide +kernel
theorem dX6_deliveredWords_33 : decode cX6_deliveredWords 33 = .ok (.iinc 4 1, 3) := by decide +kernel
theorem dX6_deliveredWords_36 : decode cX6_deliveredWords 36 = .ok (.goto (-23), 3) := by decide +kernel
theorem dX6_deliveredWords_39 : decode cX6_deliveredWords 39 = .ok (.iload_n 1, 1) := by decide +kernel
theorem dX6_deliveredWords_40 : decode cX6_deliveredWords 40 = .ok (.ireturn, 1) := by decide +kernel
theorem dX6_earnedByAll_0 : decode cX6_earnedByAll 0 = .ok (.iconst 0, 1) := by decide +kernel
theorem dX6_earnedByAll_1 : decode cX6_earnedByAll 1 = .ok (.istore_n 1, 1) := by decide +kernel
theorem dX6_earnedByAll_2 : decode cX6_earnedByAll 2 = .ok (.aload_n 0, 1) := by decide +kernel
theorem dX6_earnedByAll_3 : decode cX6_earnedByAll 3 = .ok (.getfield 17, 3) := by decide +kernel
theorem dX6_earnedByAll_6 : decode cX6_earnedByAll 6 = .ok (.astore_n 2, 1) := by decide +kernel
theorem dX6_earnedByAll_7 : decode cX6_earnedByAll 7 = .ok (.aload_n 2, 1) := by decide +kernel
theorem dX6_earnedByAll_8 : decode cX6_earnedByAll 8 = .ok (.arraylength, 1) := by decide +kernel
theorem dX6_earnedByAll_9 : decode cX6_earnedByAll 9 = .ok (.istore_n 3, 1) := by decide +kernel
theorem dX6_earnedByAll_10 : decode cX6_earnedByAll 10 = .ok (.iconst 0, 1) := by decide +kernel
theorem dX6_earnedByAll_11 : decode cX6_earnedByAll 11 = .ok (.istore 4, 2) := by decide +kernel
theorem dX6_earnedByAll_13 : decode cX6_earnedByAll 13 = .ok (.iload 4, 2) := by decide +kernel
theorem dX6_earnedByAll_15 : decode cX6_earnedByAll 15 = .ok (.iload_n 3, 1) := by decide +kernel
theorem dX6_earnedByAll_16 : decode cX6_earnedByAll 16 = .ok (.if_icmp .ge 23, 3) := by decide +kernel
theorem dX6_earnedByAll_19 : decode cX6_earnedByAll 19 = .ok (.aload_n 2, 1) := by decide +kernel
theorem dX6_earnedByAll_20 : decode cX6_earnedByAll 20 = .ok (.iload 4, 2) := by decide +kernel
theorem dX6_earnedByAll_22 : decode cX6_earnedByAll 22 = .ok (.aaload, 1) := by decide +kernel
theorem dX6_earnedByAll_23 : decode cX6_earnedByAll 23 = .ok (.astore 5, 2) := by decide +kernel
theorem dX6_earnedByAll_25 : decode cX6_earnedByAll 25 = .ok (.iload_n 1, 1) := by decide +kernel
theorem dX6_earnedByAll_26 : decode cX6_earnedByAll 26 = .ok (.aload 5, 2) := by decide +kernel
theorem dX6_earnedByAll_28 : decode cX6_earnedByAll 28 = .ok (.getfield 125, 3) := by decide +kernel
theorem dX6_earnedByAll_31 : decode cX6_earnedByAll 31 = .ok (.iadd, 1) := by decide +kernel
theorem dX6_earnedByAll_32 : decode cX6_earnedByAll 32 = .ok (.istore_n 1, 1) := by decide +kernel
theorem dX6_earnedByAll_33 : decode cX6_earnedByAll 33 = .ok (.iinc 4 1, 3) := by decide +kernel
theorem dX6_earnedByAll_36 : decode cX6_earnedByAll 36 = .ok (.goto (-23), 3) := by decide +kernel
theorem dX6_earnedByAll_39 : decode cX6_earnedByAll 39 = .ok (.iload_n 1, 1) := by decide +kernel
theorem dX6_earnedByAll_40 : decode cX6_earnedByAll 40 = .ok (.ireturn, 1) := by decide +kernel
theorem dX6_disputedWords_0 : decode cX6_disputedWords 0 = .ok (.iconst 0, 1) := by decide +kernel
theorem dX6_disputedWords_1 : decode cX6_disputedWords 1 = .ok (.istore_n 1, 1) := by decide +kernel
theorem dX6_disputedWords_2 : decode cX6_disputedWords 2 = .ok (.aload_n 0, 1) := by decide +kernel
theorem dX6_disputedWords_3 : decode cX6_disputedWords 3 = .ok (.getfield 29, 3) := by decide +kernel
theorem dX6_disputedWords_6 : decode cX6_disputedWords 6 = .ok (.astore_n 2, 1) := by decide +kernel
theorem dX6_disputedWords_7 : decode cX6_disputedWords 7 = .ok (.aload_n 2, 1) := by decide +kernel
theorem dX6_disputedWords_8 : decode cX6_disputedWords 8 = .ok (.arraylength, 1) := by decide +kernel
theorem dX6_disputedWords_9 : decode cX6_disputedWords 9 = .ok (.istore_n 3, 1) := by decide +kernel
theorem dX6_disputedWords_10 : decode cX6_disputedWords 10 = .ok (.iconst 0, 1) := by decide +kernel
theorem dX6_disputedWords_11 : decode cX6_disputedWords 11 = .ok (.istore 4, 2) := by decide +kernel
theorem dX6_disputedWords_13 : decode cX6_disputedWords 13 = .ok (.iload 4, 2) := by decide +kernel
theorem dX6_disputedWords_15 : decode cX6_disputedWords 15 = .ok (.iload_n 3, 1) := by decide +kernel
theorem dX6_disputedWords_16 : decode cX6_disputedWords 16 = .ok (.if_icmp .ge 26, 3) := by decide +kernel
theorem dX6_disputedWords_19 : decode cX6_disputedWords 19 = .ok (.aload_n 2, 1) := by decide +kernel
theorem dX6_disputedWords_20 : decode cX6_disputedWords 20 = .ok (.iload 4, 2) := by decide +kernel
theorem dX6_disputedWords_22 : decode cX6_disputedWords 22 = .ok (.aaload, 1) := by decide +kernel
theorem dX6_disputedWords_23 : decode cX6_disputedWords 23 = .ok (.astore 5, 2) := by decide +kernel
theorem dX6_disputedWords_25 : decode cX6_disputedWords 25 = .ok (.iload_n 1, 1) := by decide +kernel
theorem dX6_disputedWords_26 : decode cX6_disputedWords 26 = .ok (.aload 5, 2) := by decide +kernel
theorem dX6_disputedWords_28 : decode cX6_disputedWords 28 = .ok (.invokevirtual 178, 3) := by decide +kernel
theorem dX6_disputedWords_31 : decode cX6_disputedWords 31 = .ok (.invokestatic 182, 3) := by decide +kernel
theorem dX6_disputedWords_34 : decode cX6_disputedWords 34 = .ok (.iadd, 1) := by decide +kernel
theorem dX6_disputedWords_35 : decode cX6_disputedWords 35 = .ok (.istore_n 1, 1) := by decide +kernel
theorem dX6_disputedWords_36 : decode cX6_disputedWords 36 = .ok (.iinc 4 1, 3) := by decide +kernel
theorem dX6_disputedWords_39 : decode cX6_disputedWords 39 = .ok (.goto (-26), 3) := by decide +kernel
theorem dX6_disputedWords_42 : decode cX6_disputedWords 42 = .ok (.iload_n 1, 1) := by decide +kernel
theorem dX6_disputedWords_43 : decode cX6_disputedWords 43 = .ok (.ireturn, 1) := by decide +kernel
theorem dX6_ruledWords_0 : decode cX6_ruledWords 0 = .ok (.iconst 0, 1) := by decide +kernel
theorem dX6_ruledWords_1 : decode cX6_ruledWords 1 = .ok (.istore_n 1, 1) := by decide +kernel
theorem dX6_ruledWords_2 : decode cX6_ruledWords 2 = .ok (.aload_n 0, 1) := by decide +kernel
theorem dX6_ruledWords_3 : decode cX6_ruledWords 3 = .ok (.getfield 29, 3) := by decide +kernel
theorem dX6_ruledWords_6 : decode cX6_ruledWords 6 = .ok (.astore_n 2, 1) := by decide +kernel
theorem dX6_ruledWords_7 : decode cX6_ruledWords 7 = .ok (.aload_n 2, 1) := by decide +kernel
theorem dX6_ruledWords_8 : decode cX6_ruledWords 8 = .ok (.arraylength, 1) := by decide +kernel
theorem dX6_ruledWords_9 : decode cX6_ruledWords 9 = .ok (.istore_n 3, 1) := by decide +kernel
theorem dX6_ruledWords_10 : decode cX6_ruledWords 10 = .ok (.iconst 0, 1) := by decide +kernel
theorem dX6_ruledWords_11 : decode cX6_ruledWords 11 = .ok (.istore 4, 2) := by decide +kernel
theorem dX6_ruledWords_13 : decode cX6_ruledWords 13 = .ok (.iload 4, 2) := by decide +kernel
theorem dX6_ruledWords_15 : decode cX6_ruledWords 15 = .ok (.iload_n 3, 1) := by decide +kernel
theorem dX6_ruledWords_16 : decode cX6_ruledWords 16 = .ok (.if_icmp .ge 35, 3) := by decide +kernel
theorem dX6_ruledWords_19 : decode cX6_ruledWords 19 = .ok (.aload_n 2, 1) := by decide +kernel
theorem dX6_ruledWords_20 : decode cX6_ruledWords 20 = .ok (.iload 4, 2) := by decide +kernel
theorem dX6_ruledWords_22 : decode cX6_ruledWords 22 = .ok (.aaload, 1) := by decide +kernel
theorem dX6_ruledWords_23 : decode cX6_ruledWords 23 = .ok (.astore 5, 2) := by decide +kernel
theorem dX6_ruledWords_25 : decode cX6_ruledWords 25 = .ok (.iload_n 1, 1) := by decide +kernel
theorem dX6_ruledWords_26 : decode cX6_ruledWords 26 = .ok (.aload 5, 2) := by decide +kernel
theorem dX6_ruledWords_28 : decode cX6_ruledWords 28 = .ok (.getfield 197, 3) := by decide +kernel
theorem dX6_ruledWords_31 : decode cX6_ruledWords 31 = .ok (.iconst (-1), 1) := by decide +kernel
theorem dX6_ruledWords_32 : decode cX6_ruledWords 32 = .ok (.if_icmp .eq 7, 3) := by decide +kernel
theorem dX6_ruledWords_35 : decode cX6_ruledWords 35 = .ok (.iconst 1, 1) := by decide +kernel
theorem dX6_ruledWords_36 : decode cX6_ruledWords 36 = .ok (.goto 4, 3) := by decide +kernel
theorem dX6_ruledWords_39 : decode cX6_ruledWords 39 = .ok (.iconst 0, 1) := by decide +kernel
theorem dX6_ruledWords_40 : decode cX6_ruledWords 40 = .ok (.invokestatic 182, 3) := by decide +kernel
theorem dX6_ruledWords_43 : decode cX6_ruledWords 43 = .ok (.iadd, 1) := by decide +kernel
theorem dX6_ruledWords_44 : decode cX6_ruledWords 44 = .ok (.istore_n 1, 1) := by decide +kernel
theorem dX6_ruledWords_45 : decode cX6_ruledWords 45 = .ok (.iinc 4 1, 3) := by decide +kernel
theorem dX6_ruledWords_48 : decode cX6_ruledWords 48 = .ok (.goto (-35), 3) := by decide +kernel
theorem dX6_ruledWords_51 : decode cX6_ruledWords 51 = .ok (.iload_n 1, 1) := by decide +kernel
theorem dX6_ruledWords_52 : decode cX6_ruledWords 52 = .ok (.ireturn, 1) := by decide +kernel
theorem dX7_init_0 : decode cX7_init 0 = .ok (.aload_n 0, 1) := by decide +kernel
theorem dX7_init_1 : decode cX7_init 1 = .ok (.invokespecial 3, 3) := by decide +kernel
theorem dX7_init_4 : decode cX7_init 4 = .ok (.aload_n 0, 1) := by decide +kernel
theorem dX7_init_5 : decode cX7_init 5 = .ok (.iconst 4, 1) := by decide +kernel
theorem dX7_init_6 : decode cX7_init 6 = .ok (.newarray .int, 2) := by decide +kernel
theorem dX7_init_8 : decode cX7_init 8 = .ok (.dup, 1) := by decide +kernel
theorem dX7_init_9 : decode cX7_init 9 = .ok (.iconst 0, 1) := by decide +kernel
theorem dX7_init_10 : decode cX7_init 10 = .ok (.iconst (-1), 1) := by decide +kernel
theorem dX7_init_11 : decode cX7_init 11 = .ok (.iastore, 1) := by decide +kernel
theorem dX7_init_12 : decode cX7_init 12 = .ok (.dup, 1) := by decide +kernel
theorem dX7_init_13 : decode cX7_init 13 = .ok (.iconst 1, 1) := by decide +kernel
theorem dX7_init_14 : decode cX7_init 14 = .ok (.iconst (-1), 1) := by decide +kernel
theorem dX7_init_15 : decode cX7_init 15 = .ok (.iastore, 1) := by decide +kernel
theorem dX7_init_16 : decode cX7_init 16 = .ok (.dup, 1) := by decide +kernel
theorem dX7_init_17 : decode cX7_init 17 = .ok (.iconst 2, 1) := by decide +kernel
theorem dX7_init_18 : decode cX7_init 18 = .ok (.iconst (-1), 1) := by decide +kernel
theorem dX7_init_19 : decode cX7_init 19 = .ok (.iastore, 1) := by decide +kernel
theorem dX7_init_20 : decode cX7_init 20 = .ok (.dup, 1) := by decide +kernel
theorem dX7_init_21 : decode cX7_init 21 = .ok (.iconst 3, 1) := by decide +kernel
theorem dX7_init_22 : decode cX7_init 22 = .ok (.iconst (-1), 1) := by decide +kernel
theorem dX7_init_23 : decode cX7_init 23 = .ok (.iastore, 1) := by decide +kernel
theorem dX7_init_24 : decode cX7_init 24 = .ok (.putfield 9, 3) := by decide +kernel
theorem dX7_init_27 : decode cX7_init 27 = .ok (.aload_n 0, 1) := by decide +kernel
theorem dX7_init_28 : decode cX7_init 28 = .ok (.iconst (-1), 1) := by decide +kernel
theorem dX7_init_29 : decode cX7_init 29 = .ok (.putfield 15, 3) := by decide +kernel
theorem dX7_init_32 : decode cX7_init 32 = .ok (.return_, 1) := by decide +kernel
theorem dX7_isProposed_0 : decode cX7_isProposed 0 = .ok (.aload_n 0, 1) := by decide +kernel
theorem dX7_isProposed_1 : decode cX7_isProposed 1 = .ok (.getfield 9, 3) := by decide +kernel
theorem dX7_isProposed_4 : decode cX7_isProposed 4 = .ok (.astore_n 2, 1) := by decide +kernel
theorem dX7_isProposed_5 : decode cX7_isProposed 5 = .ok (.aload_n 2, 1) := by decide +kernel
theorem dX7_isProposed_6 : decode cX7_isProposed 6 = .ok (.arraylength, 1) := by decide +kernel
theorem dX7_isProposed_7 : decode cX7_isProposed 7 = .ok (.istore_n 3, 1) := by decide +kernel
theorem dX7_isProposed_8 : decode cX7_isProposed 8 = .ok (.iconst 0, 1) := by decide +kernel
theorem dX7_isProposed_9 : decode cX7_isProposed 9 = .ok (.istore 4, 2) := by decide +kernel
theorem dX7_isProposed_11 : decode cX7_isProposed 11 = .ok (.iload 4, 2) := by decide +kernel
theorem dX7_isProposed_13 : decode cX7_isProposed 13 = .ok (.iload_n 3, 1) := by decide +kernel
theorem dX7_isProposed_14 : decode cX7_isProposed 14 = .ok (.if_icmp .ge 23, 3) := by decide +kernel
theorem dX7_isProposed_17 : decode cX7_isProposed 17 = .ok (.aload_n 2, 1) := by decide +kernel
theorem dX7_isProposed_18 : decode cX7_isProposed 18 = .ok (.iload 4, 2) := by decide +kernel
theorem dX7_isProposed_20 : decode cX7_isProposed 20 = .ok (.iaload, 1) := by decide +kernel
theorem dX7_isProposed_21 : decode cX7_isProposed 21 = .ok (.istore 5, 2) := by decide +kernel
theorem dX7_isProposed_23 : decode cX7_isProposed 23 = .ok (.iload 5, 2) := by decide +kernel
theorem dX7_isProposed_25 : decode cX7_isProposed 25 = .ok (.iload_n 1, 1) := by decide +kernel
theorem dX7_isProposed_26 : decode cX7_isProposed 26 = .ok (.if_icmp .ne 5, 3) := by decide +kernel
theorem dX7_isProposed_29 : decode cX7_isProposed 29 = .ok (.iconst 1, 1) := by decide +kernel
theorem dX7_isProposed_30 : decode cX7_isProposed 30 = .ok (.ireturn, 1) := by decide +kernel
theorem dX7_isProposed_31 : decode cX7_isProposed 31 = .ok (.iinc 4 1, 3) := by decide +kernel
theorem dX7_isProposed_34 : decode cX7_isProposed 34 = .ok (.goto (-23), 3) := by decide +kernel
theorem dX7_isProposed_37 : decode cX7_isProposed 37 = .ok (.iconst 0, 1) := by decide +kernel
theorem dX7_isProposed_38 : decode cX7_isProposed 38 = .ok (.ireturn, 1) := by decide +kernel
theorem dX7_otherProposals_0 : decode cX7_otherProposals 0 = .ok (.iconst 0, 1) := by decide +kernel
theorem dX7_otherProposals_1 : decode cX7_otherProposals 1 = .ok (.istore_n 2, 1) := by decide +kernel
theorem dX7_otherProposals_2 : decode cX7_otherProposals 2 = .ok (.aload_n 0, 1) := by decide +kernel
theorem dX7_otherProposals_3 : decode cX7_otherProposals 3 = .ok (.getfield 9, 3) := by decide +kernel
theorem dX7_otherProposals_6 : decode cX7_otherProposals 6 = .ok (.astore_n 3, 1) := by decide +kernel
theorem dX7_otherProposals_7 : decode cX7_otherProposals 7 = .ok (.aload_n 3, 1) := by decide +kernel
theorem dX7_otherProposals_8 : decode cX7_otherProposals 8 = .ok (.arraylength, 1) := by decide +kernel
theorem dX7_otherProposals_9 : decode cX7_otherProposals 9 = .ok (.istore 4, 2) := by decide +kernel
theorem dX7_otherProposals_11 : decode cX7_otherProposals 11 = .ok (.iconst 0, 1) := by decide +kernel
theorem dX7_otherProposals_12 : decode cX7_otherProposals 12 = .ok (.istore 5, 2) := by decide +kernel
theorem dX7_otherProposals_14 : decode cX7_otherProposals 14 = .ok (.iload 5, 2) := by decide +kernel
theorem dX7_otherProposals_16 : decode cX7_otherProposals 16 = .ok (.iload 4, 2) := by decide +kernel
theorem dX7_otherProposals_18 : decode cX7_otherProposals 18 = .ok (.if_icmp .ge 38, 3) := by decide +kernel
theorem dX7_otherProposals_21 : decode cX7_otherProposals 21 = .ok (.aload_n 3, 1) := by decide +kernel
theorem dX7_otherProposals_22 : decode cX7_otherProposals 22 = .ok (.iload 5, 2) := by decide +kernel
theorem dX7_otherProposals_24 : decode cX7_otherProposals 24 = .ok (.iaload, 1) := by decide +kernel
theorem dX7_otherProposals_25 : decode cX7_otherProposals 25 = .ok (.istore 6, 2) := by decide +kernel
theorem dX7_otherProposals_27 : decode cX7_otherProposals 27 = .ok (.iload_n 2, 1) := by decide +kernel
theorem dX7_otherProposals_28 : decode cX7_otherProposals 28 = .ok (.iload 6, 2) := by decide +kernel
theorem dX7_otherProposals_30 : decode cX7_otherProposals 30 = .ok (.iconst (-1), 1) := by decide +kernel
theorem dX7_otherProposals_31 : decode cX7_otherProposals 31 = .ok (.if_icmp .eq 13, 3) := by decide +kernel
theorem dX7_otherProposals_34 : decode cX7_otherProposals 34 = .ok (.iload 6, 2) := by decide +kernel
theorem dX7_otherProposals_36 : decode cX7_otherProposals 36 = .ok (.iload_n 1, 1) := by decide +kernel
theorem dX7_otherProposals_37 : decode cX7_otherProposals 37 = .ok (.if_icmp .eq 7, 3) := by decide +kernel
theorem dX7_otherProposals_40 : decode cX7_otherProposals 40 = .ok (.iconst 1, 1) := by decide +kernel
theorem dX7_otherProposals_41 : decode cX7_otherProposals 41 = .ok (.goto 4, 3) := by decide +kernel
theorem dX7_otherProposals_44 : decode cX7_otherProposals 44 = .ok (.iconst 0, 1) := by decide +kernel
theorem dX7_otherProposals_45 : decode cX7_otherProposals 45 = .ok (.invokestatic 19, 3) := by decide +kernel
theorem dX7_otherProposals_48 : decode cX7_otherProposals 48 = .ok (.iadd, 1) := by decide +kernel
theorem dX7_otherProposals_49 : decode cX7_otherProposals 49 = .ok (.istore_n 2, 1) := by decide +kernel
theorem dX7_otherProposals_50 : decode cX7_otherProposals 50 = .ok (.iinc 5 1, 3) := by decide +kernel
theorem dX7_otherProposals_53 : decode cX7_otherProposals 53 = .ok (.goto (-39), 3) := by decide +kernel
theorem dX7_otherProposals_56 : decode cX7_otherProposals 56 = .ok (.iload_n 2, 1) := by decide +kernel
theorem dX7_otherProposals_57 : decode cX7_otherProposals 57 = .ok (.ireturn, 1) := by decide +kernel
theorem dX7_unlikeProposals_0 : decode cX7_unlikeProposals 0 = .ok (.iconst 0, 1) := by decide +kernel
theorem dX7_unlikeProposals_1 : decode cX7_unlikeProposals 1 = .ok (.istore_n 1, 1) := by decide +kernel
theorem dX7_unlikeProposals_2 : decode cX7_unlikeProposals 2 = .ok (.iconst 0, 1) := by decide +kernel
theorem dX7_unlikeProposals_3 : decode cX7_unlikeProposals 3 = .ok (.istore_n 2, 1) := by decide +kernel
theorem dX7_unlikeProposals_4 : decode cX7_unlikeProposals 4 = .ok (.iload_n 2, 1) := by decide +kernel
theorem dX7_unlikeProposals_5 : decode cX7_unlikeProposals 5 = .ok (.bipush 9, 2) := by decide +kernel
theorem dX7_unlikeProposals_7 : decode cX7_unlikeProposals 7 = .ok (.if_icmp .gt 20, 3) := by decide +kernel
theorem dX7_unlikeProposals_10 : decode cX7_unlikeProposals 10 = .ok (.iload_n 1, 1) := by decide +kernel
theorem dX7_unlikeProposals_11 : decode cX7_unlikeProposals 11 = .ok (.aload_n 0, 1) := by decide +kernel
theorem dX7_unlikeProposals_12 : decode cX7_unlikeProposals 12 = .ok (.iload_n 2, 1) := by decide +kernel
theorem dX7_unlikeProposals_13 : decode cX7_unlikeProposals 13 = .ok (.invokevirtual 23, 3) := by decide +kernel
theorem dX7_unlikeProposals_16 : decode cX7_unlikeProposals 16 = .ok (.invokestatic 19, 3) := by decide +kernel
theorem dX7_unlikeProposals_19 : decode cX7_unlikeProposals 19 = .ok (.iadd, 1) := by decide +kernel
theorem dX7_unlikeProposals_20 : decode cX7_unlikeProposals 20 = .ok (.istore_n 1, 1) := by decide +kernel
theorem dX7_unlikeProposals_21 : decode cX7_unlikeProposals 21 = .ok (.iinc 2 1, 3) := by decide +kernel
theorem dX7_unlikeProposals_24 : decode cX7_unlikeProposals 24 = .ok (.goto (-20), 3) := by decide +kernel
theorem dX7_unlikeProposals_27 : decode cX7_unlikeProposals 27 = .ok (.iload_n 1, 1) := by decide +kernel
theorem dX7_unlikeProposals_28 : decode cX7_unlikeProposals 28 = .ok (.ireturn, 1) := by decide +kernel
theorem dX7_isDisputed_0 : decode cX7_isDisputed 0 = .ok (.aload_n 0, 1) := by decide +kernel
theorem dX7_isDisputed_1 : decode cX7_isDisputed 1 = .ok (.getfield 15, 3) := by decide +kernel
theorem dX7_isDisputed_4 : decode cX7_isDisputed 4 = .ok (.iconst (-1), 1) := by decide +kernel
theorem dX7_isDisputed_5 : decode cX7_isDisputed 5 = .ok (.if_icmp .ne 15, 3) := by decide +kernel
theorem dX7_isDisputed_8 : decode cX7_isDisputed 8 = .ok (.aload_n 0, 1) := by decide +kernel
theorem dX7_isDisputed_9 : decode cX7_isDisputed 9 = .ok (.invokevirtual 27, 3) := by decide +kernel
theorem dX7_isDisputed_12 : decode cX7_isDisputed 12 = .ok (.iconst 1, 1) := by decide +kernel
theorem dX7_isDisputed_13 : decode cX7_isDisputed 13 = .ok (.if_icmp .le 7, 3) := by decide +kernel
theorem dX7_isDisputed_16 : decode cX7_isDisputed 16 = .ok (.iconst 1, 1) := by decide +kernel
theorem dX7_isDisputed_17 : decode cX7_isDisputed 17 = .ok (.goto 4, 3) := by decide +kernel
theorem dX7_isDisputed_20 : decode cX7_isDisputed 20 = .ok (.iconst 0, 1) := by decide +kernel
theorem dX7_isDisputed_21 : decode cX7_isDisputed 21 = .ok (.ireturn, 1) := by decide +kernel
theorem dX7_copyFrom_0 : decode cX7_copyFrom 0 = .ok (.aload_n 1, 1) := by decide +kernel
theorem dX7_copyFrom_1 : decode cX7_copyFrom 1 = .ok (.getfield 9, 3) := by decide +kernel
theorem dX7_copyFrom_4 : decode cX7_copyFrom 4 = .ok (.iconst 0, 1) := by decide +kernel
theorem dX7_copyFrom_5 : decode cX7_copyFrom 5 = .ok (.aload_n 0, 1) := by decide +kernel
theorem dX7_copyFrom_6 : decode cX7_copyFrom 6 = .ok (.getfield 9, 3) := by decide +kernel
theorem dX7_copyFrom_9 : decode cX7_copyFrom 9 = .ok (.iconst 0, 1) := by decide +kernel
theorem dX7_copyFrom_10 : decode cX7_copyFrom 10 = .ok (.iconst 4, 1) := by decide +kernel
theorem dX7_copyFrom_11 : decode cX7_copyFrom 11 = .ok (.invokestatic 31, 3) := by decide +kernel
theorem dX7_copyFrom_14 : decode cX7_copyFrom 14 = .ok (.aload_n 0, 1) := by decide +kernel
theorem dX7_copyFrom_15 : decode cX7_copyFrom 15 = .ok (.aload_n 1, 1) := by decide +kernel
theorem dX7_copyFrom_16 : decode cX7_copyFrom 16 = .ok (.getfield 15, 3) := by decide +kernel
theorem dX7_copyFrom_19 : decode cX7_copyFrom 19 = .ok (.putfield 15, 3) := by decide +kernel
theorem dX7_copyFrom_22 : decode cX7_copyFrom 22 = .ok (.return_, 1) := by decide +kernel
theorem dX8_init_0 : decode cX8_init 0 = .ok (.aload_n 0, 1) := by decide +kernel
theorem dX8_init_1 : decode cX8_init 1 = .ok (.invokespecial 3, 3) := by decide +kernel
theorem dX8_init_4 : decode cX8_init 4 = .ok (.aload_n 0, 1) := by decide +kernel
theorem dX8_init_5 : decode cX8_init 5 = .ok (.bipush 10, 2) := by decide +kernel
theorem dX8_init_7 : decode cX8_init 7 = .ok (.putfield 9, 3) := by decide +kernel
theorem dX8_init_10 : decode cX8_init 10 = .ok (.aload_n 0, 1) := by decide +kernel
theorem dX8_init_11 : decode cX8_init 11 = .ok (.iconst 0, 1) := by decide +kernel
theorem dX8_init_12 : decode cX8_init 12 = .ok (.putfield 15, 3) := by decide +kernel
theorem dX8_init_15 : decode cX8_init 15 = .ok (.aload_n 0, 1) := by decide +kernel
theorem dX8_init_16 : decode cX8_init 16 = .ok (.iconst 0, 1) := by decide +kernel
theorem dX8_init_17 : decode cX8_init 17 = .ok (.putfield 18, 3) := by decide +kernel
theorem dX8_init_20 : decode cX8_init 20 = .ok (.aload_n 0, 1) := by decide +kernel
theorem dX8_init_21 : decode cX8_init 21 = .ok (.iconst 0, 1) := by decide +kernel
theorem dX8_init_22 : decode cX8_init 22 = .ok (.putfield 21, 3) := by decide +kernel
theorem dX8_init_25 : decode cX8_init 25 = .ok (.aload_n 0, 1) := by decide +kernel
theorem dX8_init_26 : decode cX8_init 26 = .ok (.iconst 0, 1) := by decide +kernel
theorem dX8_init_27 : decode cX8_init 27 = .ok (.putfield 24, 3) := by decide +kernel
theorem dX8_init_30 : decode cX8_init 30 = .ok (.return_, 1) := by decide +kernel
theorem dX8_copyFrom_0 : decode cX8_copyFrom 0 = .ok (.aload_n 0, 1) := by decide +kernel
theorem dX8_copyFrom_1 : decode cX8_copyFrom 1 = .ok (.aload_n 1, 1) := by decide +kernel
theorem dX8_copyFrom_2 : decode cX8_copyFrom 2 = .ok (.getfield 9, 3) := by decide +kernel
theorem dX8_copyFrom_5 : decode cX8_copyFrom 5 = .ok (.putfield 9, 3) := by decide +kernel
theorem dX8_copyFrom_8 : decode cX8_copyFrom 8 = .ok (.aload_n 0, 1) := by decide +kernel
theorem dX8_copyFrom_9 : decode cX8_copyFrom 9 = .ok (.aload_n 1, 1) := by decide +kernel
theorem dX8_copyFrom_10 : decode cX8_copyFrom 10 = .ok (.getfield 15, 3) := by decide +kernel
theorem dX8_copyFrom_13 : decode cX8_copyFrom 13 = .ok (.putfield 15, 3) := by decide +kernel
theorem dX8_copyFrom_16 : decode cX8_copyFrom 16 = .ok (.aload_n 0, 1) := by decide +kernel
theorem dX8_copyFrom_17 : decode cX8_copyFrom 17 = .ok (.aload_n 1, 1) := by decide +kernel
theorem dX8_copyFrom_18 : decode cX8_copyFrom 18 = .ok (.getfield 18, 3) := by decide +kernel
theorem dX8_copyFrom_21 : decode cX8_copyFrom 21 = .ok (.putfield 18, 3) := by decide +kernel
theorem dX8_copyFrom_24 : decode cX8_copyFrom 24 = .ok (.aload_n 0, 1) := by decide +kernel
theorem dX8_copyFrom_25 : decode cX8_copyFrom 25 = .ok (.aload_n 1, 1) := by decide +kernel
theorem dX8_copyFrom_26 : decode cX8_copyFrom 26 = .ok (.getfield 21, 3) := by decide +kernel
theorem dX8_copyFrom_29 : decode cX8_copyFrom 29 = .ok (.putfield 21, 3) := by decide +kernel
theorem dX8_copyFrom_32 : decode cX8_copyFrom 32 = .ok (.aload_n 0, 1) := by decide +kernel
theorem dX8_copyFrom_33 : decode cX8_copyFrom 33 = .ok (.aload_n 1, 1) := by decide +kernel
theorem dX8_copyFrom_34 : decode cX8_copyFrom 34 = .ok (.getfield 24, 3) := by decide +kernel
theorem dX8_copyFrom_37 : decode cX8_copyFrom 37 = .ok (.putfield 24, 3) := by decide +kernel
theorem dX8_copyFrom_40 : decode cX8_copyFrom 40 = .ok (.return_, 1) := by decide +kernel
theorem dX9_init_0 : decode cX9_init 0 = .ok (.aload_n 0, 1) := by decide +kernel
theorem dX9_init_1 : decode cX9_init 1 = .ok (.invokespecial 1, 3) := by decide +kernel
theorem dX9_init_4 : decode cX9_init 4 = .ok (.aload_n 0, 1) := by decide +kernel
theorem dX9_init_5 : decode cX9_init 5 = .ok (.new 7, 3) := by decide +kernel
theorem dX9_init_8 : decode cX9_init 8 = .ok (.dup, 1) := by decide +kernel
theorem dX9_init_9 : decode cX9_init 9 = .ok (.invokespecial 9, 3) := by decide +kernel
theorem dX9_init_12 : decode cX9_init 12 = .ok (.putfield 10, 3) := by decide +kernel
theorem dX9_init_15 : decode cX9_init 15 = .ok (.aload_n 0, 1) := by decide +kernel
theorem dX9_init_16 : decode cX9_init 16 = .ok (.new 16, 3) := by decide +kernel
theorem dX9_init_19 : decode cX9_init 19 = .ok (.dup, 1) := by decide +kernel
theorem dX9_init_20 : decode cX9_init 20 = .ok (.invokespecial 18, 3) := by decide +kernel
theorem dX9_init_23 : decode cX9_init 23 = .ok (.putfield 19, 3) := by decide +kernel
theorem dX9_init_26 : decode cX9_init 26 = .ok (.aload_n 0, 1) := by decide +kernel
theorem dX9_init_27 : decode cX9_init 27 = .ok (.new 23, 3) := by decide +kernel
theorem dX9_init_30 : decode cX9_init 30 = .ok (.dup, 1) := by decide +kernel
theorem dX9_init_31 : decode cX9_init 31 = .ok (.invokespecial 25, 3) := by decide +kernel
theorem dX9_init_34 : decode cX9_init 34 = .ok (.putfield 26, 3) := by decide +kernel
theorem dX9_init_37 : decode cX9_init 37 = .ok (.return_, 1) := by decide +kernel
theorem dX9_rate_0 : decode cX9_rate 0 = .ok (.iload_n 1, 1) := by decide +kernel
theorem dX9_rate_1 : decode cX9_rate 1 = .ok (.iconst 4, 1) := by decide +kernel
theorem dX9_rate_2 : decode cX9_rate 2 = .ok (.invokestatic 30, 3) := by decide +kernel
theorem dX9_rate_5 : decode cX9_rate 5 = .ok (.iload_n 2, 1) := by decide +kernel
theorem dX9_rate_6 : decode cX9_rate 6 = .ok (.iconst 1, 1) := by decide +kernel
theorem dX9_rate_7 : decode cX9_rate 7 = .ok (.bipush 99, 2) := by decide +kernel
theorem dX9_rate_9 : decode cX9_rate 9 = .ok (.invokestatic 34, 3) := by decide +kernel
theorem dX9_rate_12 : decode cX9_rate 12 = .ok (.aload_n 0, 1) := by decide +kernel
theorem dX9_rate_13 : decode cX9_rate 13 = .ok (.getfield 19, 3) := by decide +kernel
theorem dX9_rate_16 : decode cX9_rate 16 = .ok (.aload_n 0, 1) := by decide +kernel
theorem dX9_rate_17 : decode cX9_rate 17 = .ok (.getfield 10, 3) := by decide +kernel
theorem dX9_rate_20 : decode cX9_rate 20 = .ok (.invokevirtual 38, 3) := by decide +kernel
theorem dX9_rate_23 : decode cX9_rate 23 = .ok (.aload_n 0, 1) := by decide +kernel
theorem dX9_rate_24 : decode cX9_rate 24 = .ok (.getfield 10, 3) := by decide +kernel
theorem dX9_rate_27 : decode cX9_rate 27 = .ok (.getfield 42, 3) := by decide +kernel
theorem dX9_rate_30 : decode cX9_rate 30 = .ok (.iload_n 1, 1) := by decide +kernel
theorem dX9_rate_31 : decode cX9_rate 31 = .ok (.aaload, 1) := by decide +kernel
theorem dX9_rate_32 : decode cX9_rate 32 = .ok (.astore_n 3, 1) := by decide +kernel
theorem dX9_rate_33 : decode cX9_rate 33 = .ok (.aload_n 3, 1) := by decide +kernel
theorem dX9_rate_34 : decode cX9_rate 34 = .ok (.getfield 46, 3) := by decide +kernel
theorem dX9_rate_37 : decode cX9_rate 37 = .ok (.istore 4, 2) := by decide +kernel
theorem dX9_rate_39 : decode cX9_rate 39 = .ok (.aload_n 3, 1) := by decide +kernel
theorem dX9_rate_40 : decode cX9_rate 40 = .ok (.iload_n 2, 1) := by decide +kernel
theorem dX9_rate_41 : decode cX9_rate 41 = .ok (.putfield 46, 3) := by decide +kernel
theorem dX9_rate_44 : decode cX9_rate 44 = .ok (.iload 4, 2) := by decide +kernel
theorem dX9_rate_46 : decode cX9_rate 46 = .ok (.ireturn, 1) := by decide +kernel
theorem dX9_pays_0 : decode cX9_pays 0 = .ok (.iload_n 1, 1) := by decide +kernel
theorem dX9_pays_1 : decode cX9_pays 1 = .ok (.iconst 5, 1) := by decide +kernel
theorem dX9_pays_2 : decode cX9_pays 2 = .ok (.invokestatic 30, 3) := by decide +kernel
theorem dX9_pays_5 : decode cX9_pays 5 = .ok (.iload_n 2, 1) := by decide +kernel
theorem dX9_pays_6 : decode cX9_pays 6 = .ok (.iconst 0, 1) := by decide +kernel
theorem dX9_pays_7 : decode cX9_pays 7 = .ok (.bipush 100, 2) := by decide +kernel
theorem dX9_pays_9 : decode cX9_pays 9 = .ok (.invokestatic 34, 3) := by decide +kernel
theorem dX9_pays_12 : decode cX9_pays 12 = .ok (.aload_n 0, 1) := by decide +kernel
theorem dX9_pays_13 : decode cX9_pays 13 = .ok (.getfield 19, 3) := by decide +kernel
theorem dX9_pays_16 : decode cX9_pays 16 = .ok (.aload_n 0, 1) := by decide +kernel
theorem dX9_pays_17 : decode cX9_pays 17 = .ok (.getfield 10, 3) := by decide +kernel
theorem dX9_pays_20 : decode cX9_pays 20 = .ok (.invokevirtual 38, 3) := by decide +kernel
theorem dX9_pays_23 : decode cX9_pays 23 = .ok (.aload_n 0, 1) := by decide +kernel
theorem dX9_pays_24 : decode cX9_pays 24 = .ok (.getfield 10, 3) := by decide +kernel
theorem dX9_pays_27 : decode cX9_pays 27 = .ok (.getfield 52, 3) := by decide +kernel
theorem dX9_pays_30 : decode cX9_pays 30 = .ok (.iload_n 1, 1) := by decide +kernel
theorem dX9_pays_31 : decode cX9_pays 31 = .ok (.aaload, 1) := by decide +kernel
theorem dX9_pays_32 : decode cX9_pays 32 = .ok (.astore_n 3, 1) := by decide +kernel
theorem dX9_pays_33 : decode cX9_pays 33 = .ok (.aload_n 3, 1) := by decide +kernel
theorem dX9_pays_34 : decode cX9_pays 34 = .ok (.getfield 56, 3) := by decide +kernel
theorem dX9_pays_37 : decode cX9_pays 37 = .ok (.istore 4, 2) := by decide +kernel
theorem dX9_pays_39 : decode cX9_pays 39 = .ok (.aload_n 3, 1) := by decide +kernel
theorem dX9_pays_40 : decode cX9_pays 40 = .ok (.iload_n 2, 1) := by decide +kernel
theorem dX9_pays_41 : decode cX9_pays 41 = .ok (.putfield 56, 3) := by decide +kernel
theorem dX9_pays_44 : decode cX9_pays 44 = .ok (.iload 4, 2) := by decide +kernel
theorem dX9_pays_46 : decode cX9_pays 46 = .ok (.ireturn, 1) := by decide +kernel
theorem dX9_set_0 : decode cX9_set 0 = .ok (.iload_n 1, 1) := by decide +kernel
theorem dX9_set_1 : decode cX9_set 1 = .ok (.iconst 2, 1) := by decide +kernel
theorem dX9_set_2 : decode cX9_set 2 = .ok (.invokestatic 30, 3) := by decide +kernel
theorem dX9_set_5 : decode cX9_set 5 = .ok (.iload_n 2, 1) := by decide +kernel
theorem dX9_set_6 : decode cX9_set 6 = .ok (.iconst 0, 1) := by decide +kernel
theorem dX9_set_7 : decode cX9_set 7 = .ok (.getstatic 61, 3) := by decide +kernel
theorem dX9_set_10 : decode cX9_set 10 = .ok (.iload_n 1, 1) := by decide +kernel
theorem dX9_set_11 : decode cX9_set 11 = .ok (.iaload, 1) := by decide +kernel
theorem dX9_set_12 : decode cX9_set 12 = .ok (.invokestatic 34, 3) := by decide +kernel
theorem dX9_set_15 : decode cX9_set 15 = .ok (.aload_n 0, 1) := by decide +kernel
theorem dX9_set_16 : decode cX9_set 16 = .ok (.getfield 19, 3) := by decide +kernel
theorem dX9_set_19 : decode cX9_set 19 = .ok (.aload_n 0, 1) := by decide +kernel
theorem dX9_set_20 : decode cX9_set 20 = .ok (.getfield 10, 3) := by decide +kernel
theorem dX9_set_23 : decode cX9_set 23 = .ok (.invokevirtual 38, 3) := by decide +kernel
theorem dX9_set_26 : decode cX9_set 26 = .ok (.aload_n 0, 1) := by decide +kernel
theorem dX9_set_27 : decode cX9_set 27 = .ok (.getfield 10, 3) := by decide +kernel
theorem dX9_set_30 : decode cX9_set 30 = .ok (.getfield 65, 3) := by decide +kernel
theorem dX9_set_33 : decode cX9_set 33 = .ok (.iload_n 1, 1) := by decide +kernel
theorem dX9_set_34 : decode cX9_set 34 = .ok (.iaload, 1) := by decide +kernel
theorem dX9_set_35 : decode cX9_set 35 = .ok (.istore_n 3, 1) := by decide +kernel
theorem dX9_set_36 : decode cX9_set 36 = .ok (.aload_n 0, 1) := by decide +kernel
theorem dX9_set_37 : decode cX9_set 37 = .ok (.getfield 10, 3) := by decide +kernel
theorem dX9_set_40 : decode cX9_set 40 = .ok (.getfield 65, 3) := by decide +kernel
theorem dX9_set_43 : decode cX9_set 43 = .ok (.iload_n 1, 1) := by decide +kernel
theorem dX9_set_44 : decode cX9_set 44 = .ok (.iload_n 2, 1) := by decide +kernel
theorem dX9_set_45 : decode cX9_set 45 = .ok (.iastore, 1) := by decide +kernel
theorem dX9_set_46 : decode cX9_set 46 = .ok (.iload_n 3, 1) := by decide +kernel
theorem dX9_set_47 : decode cX9_set 47 = .ok (.ireturn, 1) := by decide +kernel
theorem dX9_assign_0 : decode cX9_assign 0 = .ok (.iload_n 1, 1) := by decide +kernel
theorem dX9_assign_1 : decode cX9_assign 1 = .ok (.aload_n 0, 1) := by decide +kernel
theorem dX9_assign_2 : decode cX9_assign 2 = .ok (.getfield 10, 3) := by decide +kernel
theorem dX9_assign_5 : decode cX9_assign 5 = .ok (.getfield 68, 3) := by decide +kernel
theorem dX9_assign_8 : decode cX9_assign 8 = .ok (.invokestatic 30, 3) := by decide +kernel
theorem dX9_assign_11 : decode cX9_assign 11 = .ok (.iload_n 2, 1) := by decide +kernel
theorem dX9_assign_12 : decode cX9_assign 12 = .ok (.iconst 4, 1) := by decide +kernel
theorem dX9_assign_13 : decode cX9_assign 13 = .ok (.invokestatic 30, 3) := by decide +kernel
theorem dX9_assign_16 : decode cX9_assign 16 = .ok (.aload_n 0, 1) := by decide +kernel
theorem dX9_assign_17 : decode cX9_assign 17 = .ok (.getfield 10, 3) := by decide +kernel
theorem dX9_assign_20 : decode cX9_assign 20 = .ok (.getfield 71, 3) := by decide +kernel
theorem dX9_assign_23 : decode cX9_assign 23 = .ok (.iload_n 1, 1) := by decide +kernel
theorem dX9_assign_24 : decode cX9_assign 24 = .ok (.aaload, 1) := by decide +kernel
theorem dX9_assign_25 : decode cX9_assign 25 = .ok (.astore_n 3, 1) := by decide +kernel
theorem dX9_assign_26 : decode cX9_assign 26 = .ok (.aload_n 3, 1) := by decide +kernel
theorem dX9_assign_27 : decode cX9_assign 27 = .ok (.getfield 75, 3) := by decide +kernel
theorem dX9_assign_30 : decode cX9_assign 30 = .ok (.ifCond .ne 7, 3) := by decide +kernel
theorem dX9_assign_33 : decode cX9_assign 33 = .ok (.iconst 1, 1) := by decide +kernel
theorem dX9_assign_34 : decode cX9_assign 34 = .ok (.goto 4, 3) := by decide +kernel
theorem dX9_assign_37 : decode cX9_assign 37 = .ok (.iconst 0, 1) := by decide +kernel
theorem dX9_assign_38 : decode cX9_assign 38 = .ok (.invokestatic 80, 3) := by decide +kernel
theorem dX9_assign_41 : decode cX9_assign 41 = .ok (.aload_n 0, 1) := by decide +kernel
theorem dX9_assign_42 : decode cX9_assign 42 = .ok (.getfield 19, 3) := by decide +kernel
theorem dX9_assign_45 : decode cX9_assign 45 = .ok (.aload_n 0, 1) := by decide +kernel
theorem dX9_assign_46 : decode cX9_assign 46 = .ok (.getfield 10, 3) := by decide +kernel
theorem dX9_assign_49 : decode cX9_assign 49 = .ok (.invokevirtual 38, 3) := by decide +kernel
theorem dX9_assign_52 : decode cX9_assign 52 = .ok (.aload_n 3, 1) := by decide +kernel
theorem dX9_assign_53 : decode cX9_assign 53 = .ok (.iconst 1, 1) := by decide +kernel
theorem dX9_assign_54 : decode cX9_assign 54 = .ok (.putfield 75, 3) := by decide +kernel
theorem dX9_assign_57 : decode cX9_assign 57 = .ok (.aload_n 3, 1) := by decide +kernel
theorem dX9_assign_58 : decode cX9_assign 58 = .ok (.iload_n 2, 1) := by decide +kernel
theorem dX9_assign_59 : decode cX9_assign 59 = .ok (.putfield 84, 3) := by decide +kernel
theorem dX9_assign_62 : decode cX9_assign 62 = .ok (.aload_n 0, 1) := by decide +kernel
theorem dX9_assign_63 : decode cX9_assign 63 = .ok (.getfield 10, 3) := by decide +kernel
theorem dX9_assign_66 : decode cX9_assign 66 = .ok (.aload_n 3, 1) := by decide +kernel
theorem dX9_assign_67 : decode cX9_assign 67 = .ok (.invokevirtual 87, 3) := by decide +kernel
theorem dX9_assign_70 : decode cX9_assign 70 = .ok (.aload_n 3, 1) := by decide +kernel
theorem dX9_assign_71 : decode cX9_assign 71 = .ok (.getfield 91, 3) := by decide +kernel
theorem dX9_assign_74 : decode cX9_assign 74 = .ok (.ireturn, 1) := by decide +kernel
theorem dX9_deliver_0 : decode cX9_deliver 0 = .ok (.iload_n 1, 1) := by decide +kernel
theorem dX9_deliver_1 : decode cX9_deliver 1 = .ok (.aload_n 0, 1) := by decide +kernel
theorem dX9_deliver_2 : decode cX9_deliver 2 = .ok (.getfield 10, 3) := by decide +kernel
theorem dX9_deliver_5 : decode cX9_deliver 5 = .ok (.getfield 68, 3) := by decide +kernel
theorem dX9_deliver_8 : decode cX9_deliver 8 = .ok (.invokestatic 30, 3) := by decide +kernel
theorem dX9_deliver_11 : decode cX9_deliver 11 = .ok (.aload_n 0, 1) := by decide +kernel
theorem dX9_deliver_12 : decode cX9_deliver 12 = .ok (.getfield 10, 3) := by decide +kernel
theorem dX9_deliver_15 : decode cX9_deliver 15 = .ok (.getfield 71, 3) := by decide +kernel
theorem dX9_deliver_18 : decode cX9_deliver 18 = .ok (.iload_n 1, 1) := by decide +kernel
theorem dX9_deliver_19 : decode cX9_deliver 19 = .ok (.aaload, 1) := by decide +kernel
theorem dX9_deliver_20 : decode cX9_deliver 20 = .ok (.astore_n 2, 1) := by decide +kernel
theorem dX9_deliver_21 : decode cX9_deliver 21 = .ok (.aload_n 2, 1) := by decide +kernel
theorem dX9_deliver_22 : decode cX9_deliver 22 = .ok (.iconst 1, 1) := by decide +kernel
theorem dX9_deliver_23 : decode cX9_deliver 23 = .ok (.invokevirtual 94, 3) := by decide +kernel
theorem dX9_deliver_26 : decode cX9_deliver 26 = .ok (.ifCond .eq 21, 3) := by decide +kernel
theorem dX9_deliver_29 : decode cX9_deliver 29 = .ok (.aload_n 0, 1) := by decide +kernel
theorem dX9_deliver_30 : decode cX9_deliver 30 = .ok (.getfield 10, 3) := by decide +kernel
theorem dX9_deliver_33 : decode cX9_deliver 33 = .ok (.aload_n 2, 1) := by decide +kernel
theorem dX9_deliver_34 : decode cX9_deliver 34 = .ok (.getfield 98, 3) := by decide +kernel
theorem dX9_deliver_37 : decode cX9_deliver 37 = .ok (.invokevirtual 102, 3) := by decide +kernel
theorem dX9_deliver_40 : decode cX9_deliver 40 = .ok (.ifCond .ne 7, 3) := by decide +kernel
theorem dX9_deliver_43 : decode cX9_deliver 43 = .ok (.iconst 1, 1) := by decide +kernel
theorem dX9_deliver_44 : decode cX9_deliver 44 = .ok (.goto 4, 3) := by decide +kernel
theorem dX9_deliver_47 : decode cX9_deliver 47 = .ok (.iconst 0, 1) := by decide +kernel
theorem dX9_deliver_48 : decode cX9_deliver 48 = .ok (.invokestatic 80, 3) := by decide +kernel
theorem dX9_deliver_51 : decode cX9_deliver 51 = .ok (.aload_n 0, 1) := by decide +kernel
theorem dX9_deliver_52 : decode cX9_deliver 52 = .ok (.getfield 19, 3) := by decide +kernel
theorem dX9_deliver_55 : decode cX9_deliver 55 = .ok (.aload_n 0, 1) := by decide +kernel
theorem dX9_deliver_56 : decode cX9_deliver 56 = .ok (.getfield 10, 3) := by decide +kernel
theorem dX9_deliver_59 : decode cX9_deliver 59 = .ok (.invokevirtual 38, 3) := by decide +kernel
theorem dX9_deliver_62 : decode cX9_deliver 62 = .ok (.aload_n 0, 1) := by decide +kernel
theorem dX9_deliver_63 : decode cX9_deliver 63 = .ok (.getfield 10, 3) := by decide +kernel
theorem dX9_deliver_66 : decode cX9_deliver 66 = .ok (.aload_n 2, 1) := by decide +kernel
theorem dX9_deliver_67 : decode cX9_deliver 67 = .ok (.invokevirtual 106, 3) := by decide +kernel
theorem dX9_deliver_70 : decode cX9_deliver 70 = .ok (.aload_n 2, 1) := by decide +kernel
theorem dX9_deliver_71 : decode cX9_deliver 71 = .ok (.getfield 109, 3) := by decide +kernel
theorem dX9_deliver_74 : decode cX9_deliver 74 = .ok (.ireturn, 1) := by decide +kernel
theorem dX9_revise_0 : decode cX9_revise 0 = .ok (.iload_n 1, 1) := by decide +kernel
theorem dX9_revise_1 : decode cX9_revise 1 = .ok (.aload_n 0, 1) := by decide +kernel
theorem dX9_revise_2 : decode cX9_revise 2 = .ok (.getfield 10, 3) := by decide +kernel
theorem dX9_revise_5 : decode cX9_revise 5 = .ok (.getfield 68, 3) := by decide +kernel
theorem dX9_revise_8 : decode cX9_revise 8 = .ok (.invokestatic 30, 3) := by decide +kernel
theorem dX9_revise_11 : decode cX9_revise 11 = .ok (.iload_n 2, 1) := by decide +kernel
theorem dX9_revise_12 : decode cX9_revise 12 = .ok (.iconst 4, 1) := by decide +kernel
theorem dX9_revise_13 : decode cX9_revise 13 = .ok (.invokestatic 30, 3) := by decide +kernel
theorem dX9_revise_16 : decode cX9_revise 16 = .ok (.aload_n 0, 1) := by decide +kernel
theorem dX9_revise_17 : decode cX9_revise 17 = .ok (.getfield 10, 3) := by decide +kernel
theorem dX9_revise_20 : decode cX9_revise 20 = .ok (.getfield 71, 3) := by decide +kernel
theorem dX9_revise_23 : decode cX9_revise 23 = .ok (.iload_n 1, 1) := by decide +kernel
theorem dX9_revise_24 : decode cX9_revise 24 = .ok (.aaload, 1) := by decide +kernel
theorem dX9_revise_25 : decode cX9_revise 25 = .ok (.astore 4, 2) := by decide +kernel
theorem dX9_revise_27 : decode cX9_revise 27 = .ok (.iload_n 3, 1) := by decide +kernel
theorem dX9_revise_28 : decode cX9_revise 28 = .ok (.iconst 0, 1) := by decide +kernel
theorem dX9_revise_29 : decode cX9_revise 29 = .ok (.aload 4, 2) := by decide +kernel
theorem dX9_revise_31 : decode cX9_revise 31 = .ok (.getfield 98, 3) := by decide +kernel
theorem dX9_revise_34 : decode cX9_revise 34 = .ok (.getfield 112, 3) := by decide +kernel
theorem dX9_revise_37 : decode cX9_revise 37 = .ok (.invokestatic 34, 3) := by decide +kernel
theorem dX9_revise_40 : decode cX9_revise 40 = .ok (.aload 4, 2) := by decide +kernel
theorem dX9_revise_42 : decode cX9_revise 42 = .ok (.iconst 2, 1) := by decide +kernel
theorem dX9_revise_43 : decode cX9_revise 43 = .ok (.invokevirtual 94, 3) := by decide +kernel
theorem dX9_revise_46 : decode cX9_revise 46 = .ok (.ifCond .eq 16, 3) := by decide +kernel
theorem dX9_revise_49 : decode cX9_revise 49 = .ok (.aload 4, 2) := by decide +kernel
theorem dX9_revise_51 : decode cX9_revise 51 = .ok (.getfield 84, 3) := by decide +kernel
theorem dX9_revise_54 : decode cX9_revise 54 = .ok (.iload_n 2, 1) := by decide +kernel
theorem dX9_revise_55 : decode cX9_revise 55 = .ok (.if_icmp .eq 7, 3) := by decide +kernel
theorem dX9_revise_58 : decode cX9_revise 58 = .ok (.iconst 1, 1) := by decide +kernel
theorem dX9_revise_59 : decode cX9_revise 59 = .ok (.goto 4, 3) := by decide +kernel
theorem dX9_revise_62 : decode cX9_revise 62 = .ok (.iconst 0, 1) := by decide +kernel
theorem dX9_revise_63 : decode cX9_revise 63 = .ok (.invokestatic 80, 3) := by decide +kernel
theorem dX9_revise_66 : decode cX9_revise 66 = .ok (.aload_n 0, 1) := by decide +kernel
theorem dX9_revise_67 : decode cX9_revise 67 = .ok (.getfield 19, 3) := by decide +kernel
theorem dX9_revise_70 : decode cX9_revise 70 = .ok (.aload_n 0, 1) := by decide +kernel
theorem dX9_revise_71 : decode cX9_revise 71 = .ok (.getfield 10, 3) := by decide +kernel
theorem dX9_revise_74 : decode cX9_revise 74 = .ok (.invokevirtual 38, 3) := by decide +kernel
theorem dX9_revise_77 : decode cX9_revise 77 = .ok (.aload_n 0, 1) := by decide +kernel
theorem dX9_revise_78 : decode cX9_revise 78 = .ok (.getfield 10, 3) := by decide +kernel
theorem dX9_revise_81 : decode cX9_revise 81 = .ok (.aload 4, 2) := by decide +kernel
theorem dX9_revise_83 : decode cX9_revise 83 = .ok (.iload_n 2, 1) := by decide +kernel
theorem dX9_revise_84 : decode cX9_revise 84 = .ok (.iload_n 3, 1) := by decide +kernel
theorem dX9_revise_85 : decode cX9_revise 85 = .ok (.invokevirtual 117, 3) := by decide +kernel
theorem dX9_revise_88 : decode cX9_revise 88 = .ok (.aload 4, 2) := by decide +kernel
theorem dX9_revise_90 : decode cX9_revise 90 = .ok (.getfield 109, 3) := by decide +kernel
theorem dX9_revise_93 : decode cX9_revise 93 = .ok (.ireturn, 1) := by decide +kernel
theorem dX9_propose_0 : decode cX9_propose 0 = .ok (.iload_n 1, 1) := by decide +kernel
theorem dX9_propose_1 : decode cX9_propose 1 = .ok (.bipush 8, 2) := by decide +kernel
theorem dX9_propose_3 : decode cX9_propose 3 = .ok (.invokestatic 30, 3) := by decide +kernel
theorem dX9_propose_6 : decode cX9_propose 6 = .ok (.iload_n 2, 1) := by decide +kernel
theorem dX9_propose_7 : decode cX9_propose 7 = .ok (.iconst 4, 1) := by decide +kernel
theorem dX9_propose_8 : decode cX9_propose 8 = .ok (.invokestatic 30, 3) := by decide +kernel
theorem dX9_propose_11 : decode cX9_propose 11 = .ok (.iload_n 3, 1) := by decide +kernel
theorem dX9_propose_12 : decode cX9_propose 12 = .ok (.iconst (-1), 1) := by decide +kernel
theorem dX9_propose_13 : decode cX9_propose 13 = .ok (.bipush 9, 2) := by decide +kernel
theorem dX9_propose_15 : decode cX9_propose 15 = .ok (.invokestatic 34, 3) := by decide +kernel
theorem dX9_propose_18 : decode cX9_propose 18 = .ok (.aload_n 0, 1) := by decide +kernel
theorem dX9_propose_19 : decode cX9_propose 19 = .ok (.getfield 10, 3) := by decide +kernel
theorem dX9_propose_22 : decode cX9_propose 22 = .ok (.getfield 121, 3) := by decide +kernel
theorem dX9_propose_25 : decode cX9_propose 25 = .ok (.iload_n 1, 1) := by decide +kernel
theorem dX9_propose_26 : decode cX9_propose 26 = .ok (.aaload, 1) := by decide +kernel
theorem dX9_propose_27 : decode cX9_propose 27 = .ok (.astore 4, 2) := by decide +kernel
theorem dX9_propose_29 : decode cX9_propose 29 = .ok (.aload 4, 2) := by decide +kernel
theorem dX9_propose_31 : decode cX9_propose 31 = .ok (.getfield 125, 3) := by decide +kernel
theorem dX9_propose_34 : decode cX9_propose 34 = .ok (.iconst (-1), 1) := by decide +kernel
theorem dX9_propose_35 : decode cX9_propose 35 = .ok (.if_icmp .ne 7, 3) := by decide +kernel
theorem dX9_propose_38 : decode cX9_propose 38 = .ok (.iconst 1, 1) := by decide +kernel
theorem dX9_propose_39 : decode cX9_propose 39 = .ok (.goto 4, 3) := by decide +kernel
theorem dX9_propose_42 : decode cX9_propose 42 = .ok (.iconst 0, 1) := by decide +kernel
theorem dX9_propose_43 : decode cX9_propose 43 = .ok (.invokestatic 80, 3) := by decide +kernel
theorem dX9_propose_46 : decode cX9_propose 46 = .ok (.aload_n 0, 1) := by decide +kernel
theorem dX9_propose_47 : decode cX9_propose 47 = .ok (.getfield 19, 3) := by decide +kernel
theorem dX9_propose_50 : decode cX9_propose 50 = .ok (.aload_n 0, 1) := by decide +kernel
theorem dX9_propose_51 : decode cX9_propose 51 = .ok (.getfield 10, 3) := by decide +kernel
theorem dX9_propose_54 : decode cX9_propose 54 = .ok (.invokevirtual 38, 3) := by decide +kernel
theorem dX9_propose_57 : decode cX9_propose 57 = .ok (.aload 4, 2) := by decide +kernel
theorem dX9_propose_59 : decode cX9_propose 59 = .ok (.getfield 130, 3) := by decide +kernel
theorem dX9_propose_62 : decode cX9_propose 62 = .ok (.iload_n 2, 1) := by decide +kernel
theorem dX9_propose_63 : decode cX9_propose 63 = .ok (.iaload, 1) := by decide +kernel
theorem dX9_propose_64 : decode cX9_propose 64 = .ok (.istore 5, 2) := by decide +kernel
theorem dX9_propose_66 : decode cX9_propose 66 = .ok (.aload 4, 2) := by decide +kernel
theorem dX9_propose_68 : decode cX9_propose 68 = .ok (.getfield 130, 3) := by decide +kernel
theorem dX9_propose_71 : decode cX9_propose 71 = .ok (.iload_n 2, 1) := by decide +kernel
theorem dX9_propose_72 : decode cX9_propose 72 = .ok (.iload_n 3, 1) := by decide +kernel
theorem dX9_propose_73 : decode cX9_propose 73 = .ok (.iastore, 1) := by decide +kernel
theorem dX9_propose_74 : decode cX9_propose 74 = .ok (.iload 5, 2) := by decide +kernel
theorem dX9_propose_76 : decode cX9_propose 76 = .ok (.ireturn, 1) := by decide +kernel
theorem dX9_rule_0 : decode cX9_rule 0 = .ok (.iload_n 1, 1) := by decide +kernel
theorem dX9_rule_1 : decode cX9_rule 1 = .ok (.bipush 8, 2) := by decide +kernel
theorem dX9_rule_3 : decode cX9_rule 3 = .ok (.invokestatic 30, 3) := by decide +kernel
theorem dX9_rule_6 : decode cX9_rule 6 = .ok (.iload_n 2, 1) := by decide +kernel
theorem dX9_rule_7 : decode cX9_rule 7 = .ok (.iconst 0, 1) := by decide +kernel
theorem dX9_rule_8 : decode cX9_rule 8 = .ok (.bipush 9, 2) := by decide +kernel
theorem dX9_rule_10 : decode cX9_rule 10 = .ok (.invokestatic 34, 3) := by decide +kernel
theorem dX9_rule_13 : decode cX9_rule 13 = .ok (.aload_n 0, 1) := by decide +kernel
theorem dX9_rule_14 : decode cX9_rule 14 = .ok (.getfield 10, 3) := by decide +kernel
theorem dX9_rule_17 : decode cX9_rule 17 = .ok (.getfield 121, 3) := by decide +kernel
theorem dX9_rule_20 : decode cX9_rule 20 = .ok (.iload_n 1, 1) := by decide +kernel
theorem dX9_rule_21 : decode cX9_rule 21 = .ok (.aaload, 1) := by decide +kernel
theorem dX9_rule_22 : decode cX9_rule 22 = .ok (.astore_n 3, 1) := by decide +kernel
theorem dX9_rule_23 : decode cX9_rule 23 = .ok (.aload_n 3, 1) := by decide +kernel
theorem dX9_rule_24 : decode cX9_rule 24 = .ok (.getfield 125, 3) := by decide +kernel
theorem dX9_rule_27 : decode cX9_rule 27 = .ok (.iconst (-1), 1) := by decide +kernel
theorem dX9_rule_28 : decode cX9_rule 28 = .ok (.if_icmp .ne 15, 3) := by decide +kernel
theorem dX9_rule_31 : decode cX9_rule 31 = .ok (.aload_n 3, 1) := by decide +kernel
theorem dX9_rule_32 : decode cX9_rule 32 = .ok (.iload_n 2, 1) := by decide +kernel
theorem dX9_rule_33 : decode cX9_rule 33 = .ok (.invokevirtual 133, 3) := by decide +kernel
theorem dX9_rule_36 : decode cX9_rule 36 = .ok (.ifCond .eq 7, 3) := by decide +kernel
theorem dX9_rule_39 : decode cX9_rule 39 = .ok (.iconst 1, 1) := by decide +kernel
theorem dX9_rule_40 : decode cX9_rule 40 = .ok (.goto 4, 3) := by decide +kernel
theorem dX9_rule_43 : decode cX9_rule 43 = .ok (.iconst 0, 1) := by decide +kernel
theorem dX9_rule_44 : decode cX9_rule 44 = .ok (.invokestatic 80, 3) := by decide +kernel
theorem dX9_rule_47 : decode cX9_rule 47 = .ok (.aload_n 0, 1) := by decide +kernel
theorem dX9_rule_48 : decode cX9_rule 48 = .ok (.getfield 19, 3) := by decide +kernel
theorem dX9_rule_51 : decode cX9_rule 51 = .ok (.aload_n 0, 1) := by decide +kernel
theorem dX9_rule_52 : decode cX9_rule 52 = .ok (.getfield 10, 3) := by decide +kernel
theorem dX9_rule_55 : decode cX9_rule 55 = .ok (.invokevirtual 38, 3) := by decide +kernel
theorem dX9_rule_58 : decode cX9_rule 58 = .ok (.aload_n 3, 1) := by decide +kernel
theorem dX9_rule_59 : decode cX9_rule 59 = .ok (.iload_n 2, 1) := by decide +kernel
theorem dX9_rule_60 : decode cX9_rule 60 = .ok (.putfield 125, 3) := by decide +kernel
theorem dX9_rule_63 : decode cX9_rule 63 = .ok (.aload_n 3, 1) := by decide +kernel
theorem dX9_rule_64 : decode cX9_rule 64 = .ok (.iload_n 2, 1) := by decide +kernel
theorem dX9_rule_65 : decode cX9_rule 65 = .ok (.invokevirtual 136, 3) := by decide +kernel
theorem dX9_rule_68 : decode cX9_rule 68 = .ok (.ireturn, 1) := by decide +kernel
theorem dX9_append_0 : decode cX9_append 0 = .ok (.iload_n 1, 1) := by decide +kernel
theorem dX9_append_1 : decode cX9_append 1 = .ok (.bipush 33, 2) := by decide +kernel
theorem dX9_append_3 : decode cX9_append 3 = .ok (.bipush 126, 2) := by decide +kernel
theorem dX9_append_5 : decode cX9_append 5 = .ok (.invokestatic 34, 3) := by decide +kernel
theorem dX9_append_8 : decode cX9_append 8 = .ok (.aload_n 0, 1) := by decide +kernel
theorem dX9_append_9 : decode cX9_append 9 = .ok (.getfield 26, 3) := by decide +kernel
theorem dX9_append_12 : decode cX9_append 12 = .ok (.getfield 140, 3) := by decide +kernel
theorem dX9_append_15 : decode cX9_append 15 = .ok (.bipush 60, 2) := by decide +kernel
theorem dX9_append_17 : decode cX9_append 17 = .ok (.if_icmp .ge 7, 3) := by decide +kernel
theorem dX9_append_20 : decode cX9_append 20 = .ok (.iconst 1, 1) := by decide +kernel
theorem dX9_append_21 : decode cX9_append 21 = .ok (.goto 4, 3) := by decide +kernel
theorem dX9_append_24 : decode cX9_append 24 = .ok (.iconst 0, 1) := by decide +kernel
theorem dX9_append_25 : decode cX9_append 25 = .ok (.invokestatic 80, 3) := by decide +kernel
theorem dX9_append_28 : decode cX9_append 28 = .ok (.aload_n 0, 1) := by decide +kernel
theorem dX9_append_29 : decode cX9_append 29 = .ok (.getfield 26, 3) := by decide +kernel
theorem dX9_append_32 : decode cX9_append 32 = .ok (.getfield 141, 3) := by decide +kernel
theorem dX9_append_35 : decode cX9_append 35 = .ok (.aload_n 0, 1) := by decide +kernel
theorem dX9_append_36 : decode cX9_append 36 = .ok (.getfield 26, 3) := by decide +kernel
theorem dX9_append_39 : decode cX9_append 39 = .ok (.getfield 140, 3) := by decide +kernel
theorem dX9_append_42 : decode cX9_append 42 = .ok (.iload_n 1, 1) := by decide +kernel
theorem dX9_append_43 : decode cX9_append 43 = .ok (.iastore, 1) := by decide +kernel
theorem dX9_append_44 : decode cX9_append 44 = .ok (.aload_n 0, 1) := by decide +kernel
theorem dX9_append_45 : decode cX9_append 45 = .ok (.getfield 26, 3) := by decide +kernel
theorem dX9_append_48 : decode cX9_append 48 = .ok (.dup, 1) := by decide +kernel
theorem dX9_append_49 : decode cX9_append 49 = .ok (.getfield 140, 3) := by decide +kernel
theorem dX9_append_52 : decode cX9_append 52 = .ok (.iconst 1, 1) := by decide +kernel
theorem dX9_append_53 : decode cX9_append 53 = .ok (.iadd, 1) := by decide +kernel
theorem dX9_append_54 : decode cX9_append 54 = .ok (.putfield 140, 3) := by decide +kernel
theorem dX9_append_57 : decode cX9_append 57 = .ok (.aload_n 0, 1) := by decide +kernel
theorem dX9_append_58 : decode cX9_append 58 = .ok (.getfield 26, 3) := by decide +kernel
theorem dX9_append_61 : decode cX9_append 61 = .ok (.getfield 140, 3) := by decide +kernel
theorem dX9_append_64 : decode cX9_append 64 = .ok (.ireturn, 1) := by decide +kernel
theorem dX9_clearBuffer_0 : decode cX9_clearBuffer 0 = .ok (.aload_n 0, 1) := by decide +kernel
theorem dX9_clearBuffer_1 : decode cX9_clearBuffer 1 = .ok (.getfield 26, 3) := by decide +kernel
theorem dX9_clearBuffer_4 : decode cX9_clearBuffer 4 = .ok (.getfield 140, 3) := by decide +kernel
theorem dX9_clearBuffer_7 : decode cX9_clearBuffer 7 = .ok (.istore_n 1, 1) := by decide +kernel
theorem dX9_clearBuffer_8 : decode cX9_clearBuffer 8 = .ok (.aload_n 0, 1) := by decide +kernel
theorem dX9_clearBuffer_9 : decode cX9_clearBuffer 9 = .ok (.getfield 26, 3) := by decide +kernel
theorem dX9_clearBuffer_12 : decode cX9_clearBuffer 12 = .ok (.iconst 0, 1) := by decide +kernel
theorem dX9_clearBuffer_13 : decode cX9_clearBuffer 13 = .ok (.putfield 140, 3) := by decide +kernel
theorem dX9_clearBuffer_16 : decode cX9_clearBuffer 16 = .ok (.iload_n 1, 1) := by decide +kernel
theorem dX9_clearBuffer_17 : decode cX9_clearBuffer 17 = .ok (.ireturn, 1) := by decide +kernel
theorem dX9_firstError_0 : decode cX9_firstError 0 = .ok (.aload_n 0, 1) := by decide +kernel
theorem dX9_firstError_1 : decode cX9_firstError 1 = .ok (.getfield 26, 3) := by decide +kernel
theorem dX9_firstError_4 : decode cX9_firstError 4 = .ok (.invokevirtual 144, 3) := by decide +kernel
theorem dX9_firstError_7 : decode cX9_firstError 7 = .ok (.ireturn, 1) := by decide +kernel
theorem dX9_add_0 : decode cX9_add 0 = .ok (.aload_n 0, 1) := by decide +kernel
theorem dX9_add_1 : decode cX9_add 1 = .ok (.getfield 26, 3) := by decide +kernel
theorem dX9_add_4 : decode cX9_add 4 = .ok (.invokevirtual 148, 3) := by decide +kernel
theorem dX9_add_7 : decode cX9_add 7 = .ok (.invokestatic 152, 3) := by decide +kernel
theorem dX9_add_10 : decode cX9_add 10 = .ok (.aload_n 0, 1) := by decide +kernel
theorem dX9_add_11 : decode cX9_add 11 = .ok (.getfield 10, 3) := by decide +kernel
theorem dX9_add_14 : decode cX9_add 14 = .ok (.getfield 68, 3) := by decide +kernel
theorem dX9_add_17 : decode cX9_add 17 = .ok (.aload_n 0, 1) := by decide +kernel
theorem dX9_add_18 : decode cX9_add 18 = .ok (.getfield 26, 3) := by decide +kernel
theorem dX9_add_21 : decode cX9_add 21 = .ok (.invokevirtual 155, 3) := by decide +kernel
theorem dX9_add_24 : decode cX9_add 24 = .ok (.iadd, 1) := by decide +kernel
theorem dX9_add_25 : decode cX9_add 25 = .ok (.bipush 10, 2) := by decide +kernel
theorem dX9_add_27 : decode cX9_add 27 = .ok (.if_icmp .gt 7, 3) := by decide +kernel
theorem dX9_add_30 : decode cX9_add 30 = .ok (.iconst 1, 1) := by decide +kernel
theorem dX9_add_31 : decode cX9_add 31 = .ok (.goto 4, 3) := by decide +kernel
theorem dX9_add_34 : decode cX9_add 34 = .ok (.iconst 0, 1) := by decide +kernel
theorem dX9_add_35 : decode cX9_add 35 = .ok (.invokestatic 80, 3) := by decide +kernel
theorem dX9_add_38 : decode cX9_add 38 = .ok (.aload_n 0, 1) := by decide +kernel
theorem dX9_add_39 : decode cX9_add 39 = .ok (.getfield 19, 3) := by decide +kernel
theorem dX9_add_42 : decode cX9_add 42 = .ok (.aload_n 0, 1) := by decide +kernel
theorem dX9_add_43 : decode cX9_add 43 = .ok (.getfield 10, 3) := by decide +kernel
theorem dX9_add_46 : decode cX9_add 46 = .ok (.invokevirtual 38, 3) := by decide +kernel
theorem dX9_add_49 : decode cX9_add 49 = .ok (.iconst 0, 1) := by decide +kernel
theorem dX9_add_50 : decode cX9_add 50 = .ok (.istore_n 1, 1) := by decide +kernel
theorem dX9_add_51 : decode cX9_add 51 = .ok (.iload_n 1, 1) := by decide +kernel
theorem dX9_add_52 : decode cX9_add 52 = .ok (.aload_n 0, 1) := by decide +kernel
theorem dX9_add_53 : decode cX9_add 53 = .ok (.getfield 26, 3) := by decide +kernel
theorem dX9_add_56 : decode cX9_add 56 = .ok (.getfield 140, 3) := by decide +kernel
theorem dX9_add_59 : decode cX9_add 59 = .ok (.if_icmp .ge 78, 3) := by decide +kernel
theorem dX9_add_62 : decode cX9_add 62 = .ok (.aload_n 0, 1) := by decide +kernel
theorem dX9_add_63 : decode cX9_add 63 = .ok (.getfield 10, 3) := by decide +kernel
theorem dX9_add_66 : decode cX9_add 66 = .ok (.getfield 68, 3) := by decide +kernel
theorem dX9_add_69 : decode cX9_add 69 = .ok (.bipush 10, 2) := by decide +kernel
theorem dX9_add_71 : decode cX9_add 71 = .ok (.if_icmp .ge 66, 3) := by decide +kernel
theorem dX9_add_74 : decode cX9_add 74 = .ok (.aload_n 0, 1) := by decide +kernel
theorem dX9_add_75 : decode cX9_add 75 = .ok (.getfield 26, 3) := by decide +kernel
theorem dX9_add_78 : decode cX9_add 78 = .ok (.iload_n 1, 1) := by decide +kernel
theorem dX9_add_79 : decode cX9_add 79 = .ok (.invokevirtual 158, 3) := by decide +kernel
theorem dX9_add_82 : decode cX9_add 82 = .ok (.istore_n 2, 1) := by decide +kernel
theorem dX9_add_83 : decode cX9_add 83 = .ok (.aload_n 0, 1) := by decide +kernel
theorem dX9_add_84 : decode cX9_add 84 = .ok (.getfield 10, 3) := by decide +kernel
theorem dX9_add_87 : decode cX9_add 87 = .ok (.getfield 71, 3) := by decide +kernel
theorem dX9_add_90 : decode cX9_add 90 = .ok (.aload_n 0, 1) := by decide +kernel
theorem dX9_add_91 : decode cX9_add 91 = .ok (.getfield 10, 3) := by decide +kernel
theorem dX9_add_94 : decode cX9_add 94 = .ok (.getfield 68, 3) := by decide +kernel
theorem dX9_add_97 : decode cX9_add 97 = .ok (.aaload, 1) := by decide +kernel
theorem dX9_add_98 : decode cX9_add 98 = .ok (.new 113, 3) := by decide +kernel
theorem dX9_add_101 : decode cX9_add 101 = .ok (.dup, 1) := by decide +kernel
theorem dX9_add_102 : decode cX9_add 102 = .ok (.aload_n 0, 1) := by decide +kernel
theorem dX9_add_103 : decode cX9_add 103 = .ok (.getfield 26, 3) := by decide +kernel
theorem dX9_add_106 : decode cX9_add 106 = .ok (.getfield 141, 3) := by decide +kernel
theorem dX9_add_109 : decode cX9_add 109 = .ok (.iload_n 1, 1) := by decide +kernel
theorem dX9_add_110 : decode cX9_add 110 = .ok (.iload_n 2, 1) := by decide +kernel
theorem dX9_add_111 : decode cX9_add 111 = .ok (.invokespecial 161, 3) := by decide +kernel
theorem dX9_add_114 : decode cX9_add 114 = .ok (.invokevirtual 164, 3) := by decide +kernel
theorem dX9_add_117 : decode cX9_add 117 = .ok (.aload_n 0, 1) := by decide +kernel
theorem dX9_add_118 : decode cX9_add 118 = .ok (.getfield 10, 3) := by decide +kernel
theorem dX9_add_121 : decode cX9_add 121 = .ok (.dup, 1) := by decide +kernel
theorem dX9_add_122 : decode cX9_add 122 = .ok (.getfield 68, 3) := by decide +kernel
theorem dX9_add_125 : decode cX9_add 125 = .ok (.iconst 1, 1) := by decide +kernel
theorem dX9_add_126 : decode cX9_add 126 = .ok (.iadd, 1) := by decide +kernel
theorem dX9_add_127 : decode cX9_add 127 = .ok (.putfield 68, 3) := by decide +kernel
theorem dX9_add_130 : decode cX9_add 130 = .ok (.iload_n 2, 1) := by decide +kernel
theorem dX9_add_131 : decode cX9_add 131 = .ok (.iconst 1, 1) := by decide +kernel
theorem dX9_add_132 : decode cX9_add 132 = .ok (.iadd, 1) := by decide +kernel
theorem dX9_add_133 : decode cX9_add 133 = .ok (.istore_n 1, 1) := by decide +kernel
theorem dX9_add_134 : decode cX9_add 134 = .ok (.goto (-83), 3) := by decide +kernel
theorem dX9_add_137 : decode cX9_add 137 = .ok (.aload_n 0, 1) := by decide +kernel
theorem dX9_add_138 : decode cX9_add 138 = .ok (.getfield 26, 3) := by decide +kernel
theorem dX9_add_141 : decode cX9_add 141 = .ok (.iconst 0, 1) := by decide +kernel
theorem dX9_add_142 : decode cX9_add 142 = .ok (.putfield 140, 3) := by decide +kernel
theorem dX9_add_145 : decode cX9_add 145 = .ok (.aload_n 0, 1) := by decide +kernel
theorem dX9_add_146 : decode cX9_add 146 = .ok (.getfield 10, 3) := by decide +kernel
theorem dX9_add_149 : decode cX9_add 149 = .ok (.getfield 68, 3) := by decide +kernel
theorem dX9_add_152 : decode cX9_add 152 = .ok (.ireturn, 1) := by decide +kernel
theorem dX9_change_0 : decode cX9_change 0 = .ok (.iload_n 1, 1) := by decide +kernel
theorem dX9_change_1 : decode cX9_change 1 = .ok (.aload_n 0, 1) := by decide +kernel
theorem dX9_change_2 : decode cX9_change 2 = .ok (.getfield 10, 3) := by decide +kernel
theorem dX9_change_5 : decode cX9_change 5 = .ok (.getfield 68, 3) := by decide +kernel
theorem dX9_change_8 : decode cX9_change 8 = .ok (.invokestatic 30, 3) := by decide +kernel
theorem dX9_change_11 : decode cX9_change 11 = .ok (.aload_n 0, 1) := by decide +kernel
theorem dX9_change_12 : decode cX9_change 12 = .ok (.getfield 26, 3) := by decide +kernel
theorem dX9_change_15 : decode cX9_change 15 = .ok (.invokevirtual 148, 3) := by decide +kernel
theorem dX9_change_18 : decode cX9_change 18 = .ok (.ifCond .eq 18, 3) := by decide +kernel
theorem dX9_change_21 : decode cX9_change 21 = .ok (.aload_n 0, 1) := by decide +kernel
theorem dX9_change_22 : decode cX9_change 22 = .ok (.getfield 26, 3) := by decide +kernel
theorem dX9_change_25 : decode cX9_change 25 = .ok (.invokevirtual 155, 3) := by decide +kernel
theorem dX9_change_28 : decode cX9_change 28 = .ok (.iconst 1, 1) := by decide +kernel
theorem dX9_change_29 : decode cX9_change 29 = .ok (.if_icmp .ne 7, 3) := by decide +kernel
theorem dX9_change_32 : decode cX9_change 32 = .ok (.iconst 1, 1) := by decide +kernel
theorem dX9_change_33 : decode cX9_change 33 = .ok (.goto 4, 3) := by decide +kernel
theorem dX9_change_36 : decode cX9_change 36 = .ok (.iconst 0, 1) := by decide +kernel
theorem dX9_change_37 : decode cX9_change 37 = .ok (.invokestatic 152, 3) := by decide +kernel
theorem dX9_change_40 : decode cX9_change 40 = .ok (.aload_n 0, 1) := by decide +kernel
theorem dX9_change_41 : decode cX9_change 41 = .ok (.getfield 19, 3) := by decide +kernel
theorem dX9_change_44 : decode cX9_change 44 = .ok (.aload_n 0, 1) := by decide +kernel
theorem dX9_change_45 : decode cX9_change 45 = .ok (.getfield 10, 3) := by decide +kernel
theorem dX9_change_48 : decode cX9_change 48 = .ok (.invokevirtual 38, 3) := by decide +kernel
theorem dX9_change_51 : decode cX9_change 51 = .ok (.aload_n 0, 1) := by decide +kernel
theorem dX9_change_52 : decode cX9_change 52 = .ok (.getfield 10, 3) := by decide +kernel
theorem dX9_change_55 : decode cX9_change 55 = .ok (.getfield 71, 3) := by decide +kernel
theorem dX9_change_58 : decode cX9_change 58 = .ok (.iload_n 1, 1) := by decide +kernel
theorem dX9_change_59 : decode cX9_change 59 = .ok (.aaload, 1) := by decide +kernel
theorem dX9_change_60 : decode cX9_change 60 = .ok (.astore_n 2, 1) := by decide +kernel
theorem dX9_change_61 : decode cX9_change 61 = .ok (.aload_n 0, 1) := by decide +kernel
theorem dX9_change_62 : decode cX9_change 62 = .ok (.getfield 10, 3) := by decide +kernel
theorem dX9_change_65 : decode cX9_change 65 = .ok (.aload_n 2, 1) := by decide +kernel
theorem dX9_change_66 : decode cX9_change 66 = .ok (.new 113, 3) := by decide +kernel
theorem dX9_change_69 : decode cX9_change 69 = .ok (.dup, 1) := by decide +kernel
theorem dX9_change_70 : decode cX9_change 70 = .ok (.aload_n 0, 1) := by decide +kernel
theorem dX9_change_71 : decode cX9_change 71 = .ok (.getfield 26, 3) := by decide +kernel
theorem dX9_change_74 : decode cX9_change 74 = .ok (.getfield 141, 3) := by decide +kernel
theorem dX9_change_77 : decode cX9_change 77 = .ok (.iconst 0, 1) := by decide +kernel
theorem dX9_change_78 : decode cX9_change 78 = .ok (.aload_n 0, 1) := by decide +kernel
theorem dX9_change_79 : decode cX9_change 79 = .ok (.getfield 26, 3) := by decide +kernel
theorem dX9_change_82 : decode cX9_change 82 = .ok (.getfield 140, 3) := by decide +kernel
theorem dX9_change_85 : decode cX9_change 85 = .ok (.invokespecial 161, 3) := by decide +kernel
theorem dX9_change_88 : decode cX9_change 88 = .ok (.invokevirtual 168, 3) := by decide +kernel
theorem dX9_change_91 : decode cX9_change 91 = .ok (.aload_n 0, 1) := by decide +kernel
theorem dX9_change_92 : decode cX9_change 92 = .ok (.getfield 26, 3) := by decide +kernel
theorem dX9_change_95 : decode cX9_change 95 = .ok (.iconst 0, 1) := by decide +kernel
theorem dX9_change_96 : decode cX9_change 96 = .ok (.putfield 140, 3) := by decide +kernel
theorem dX9_change_99 : decode cX9_change 99 = .ok (.aload_n 2, 1) := by decide +kernel
theorem dX9_change_100 : decode cX9_change 100 = .ok (.getfield 75, 3) := by decide +kernel
theorem dX9_change_103 : decode cX9_change 103 = .ok (.ireturn, 1) := by decide +kernel
theorem dX9_undo_0 : decode cX9_undo 0 = .ok (.aload_n 0, 1) := by decide +kernel
theorem dX9_undo_1 : decode cX9_undo 1 = .ok (.getfield 19, 3) := by decide +kernel
theorem dX9_undo_4 : decode cX9_undo 4 = .ok (.getfield 172, 3) := by decide +kernel
theorem dX9_undo_7 : decode cX9_undo 7 = .ok (.ifCond .le 7, 3) := by decide +kernel
theorem dX9_undo_10 : decode cX9_undo 10 = .ok (.iconst 1, 1) := by decide +kernel
theorem dX9_undo_11 : decode cX9_undo 11 = .ok (.goto 4, 3) := by decide +kernel
theorem dX9_undo_14 : decode cX9_undo 14 = .ok (.iconst 0, 1) := by decide +kernel
theorem dX9_undo_15 : decode cX9_undo 15 = .ok (.invokestatic 80, 3) := by decide +kernel
theorem dX9_undo_18 : decode cX9_undo 18 = .ok (.aload_n 0, 1) := by decide +kernel
theorem dX9_undo_19 : decode cX9_undo 19 = .ok (.getfield 19, 3) := by decide +kernel
theorem dX9_undo_22 : decode cX9_undo 22 = .ok (.aload_n 0, 1) := by decide +kernel
theorem dX9_undo_23 : decode cX9_undo 23 = .ok (.getfield 10, 3) := by decide +kernel
theorem dX9_undo_26 : decode cX9_undo 26 = .ok (.invokevirtual 173, 3) := by decide +kernel
theorem dX9_undo_29 : decode cX9_undo 29 = .ok (.aload_n 0, 1) := by decide +kernel
theorem dX9_undo_30 : decode cX9_undo 30 = .ok (.getfield 19, 3) := by decide +kernel
theorem dX9_undo_33 : decode cX9_undo 33 = .ok (.getfield 172, 3) := by decide +kernel
theorem dX9_undo_36 : decode cX9_undo 36 = .ok (.ireturn, 1) := by decide +kernel
theorem dX9_segment_0 : decode cX9_segment 0 = .ok (.iload_n 1, 1) := by decide +kernel
theorem dX9_segment_1 : decode cX9_segment 1 = .ok (.aload_n 0, 1) := by decide +kernel
theorem dX9_segment_2 : decode cX9_segment 2 = .ok (.getfield 10, 3) := by decide +kernel
theorem dX9_segment_5 : decode cX9_segment 5 = .ok (.getfield 68, 3) := by decide +kernel
theorem dX9_segment_8 : decode cX9_segment 8 = .ok (.invokestatic 30, 3) := by decide +kernel
theorem dX9_segment_11 : decode cX9_segment 11 = .ok (.iload_n 2, 1) := by decide +kernel
theorem dX9_segment_12 : decode cX9_segment 12 = .ok (.iconst 0, 1) := by decide +kernel
theorem dX9_segment_13 : decode cX9_segment 13 = .ok (.bipush 11, 2) := by decide +kernel
theorem dX9_segment_15 : decode cX9_segment 15 = .ok (.invokestatic 34, 3) := by decide +kernel
theorem dX9_segment_18 : decode cX9_segment 18 = .ok (.aload_n 0, 1) := by decide +kernel
theorem dX9_segment_19 : decode cX9_segment 19 = .ok (.getfield 10, 3) := by decide +kernel
theorem dX9_segment_22 : decode cX9_segment 22 = .ok (.getfield 71, 3) := by decide +kernel
theorem dX9_segment_25 : decode cX9_segment 25 = .ok (.iload_n 1, 1) := by decide +kernel
theorem dX9_segment_26 : decode cX9_segment 26 = .ok (.aaload, 1) := by decide +kernel
theorem dX9_segment_27 : decode cX9_segment 27 = .ok (.astore_n 3, 1) := by decide +kernel
theorem dX9_segment_28 : decode cX9_segment 28 = .ok (.iload_n 2, 1) := by decide +kernel
theorem dX9_segment_29 : decode cX9_segment 29 = .ok (.tableswitch 138 0 10 #[59, 67, 72, 77, 93, 108, 113, 118, 123, 128, 133], 59) := by decide +kernel
theorem dX9_segment_88 : decode cX9_segment 88 = .ok (.aload_n 3, 1) := by decide +kernel
theorem dX9_segment_89 : decode cX9_segment 89 = .ok (.getfield 98, 3) := by decide +kernel
theorem dX9_segment_92 : decode cX9_segment 92 = .ok (.getfield 112, 3) := by decide +kernel
theorem dX9_segment_95 : decode cX9_segment 95 = .ok (.ireturn, 1) := by decide +kernel
theorem dX9_segment_96 : decode cX9_segment 96 = .ok (.aload_n 3, 1) := by decide +kernel
theorem dX9_segment_97 : decode cX9_segment 97 = .ok (.getfield 75, 3) := by decide +kernel
theorem dX9_segment_100 : decode cX9_segment 100 = .ok (.ireturn, 1) := by decide +kernel
theorem dX9_segment_101 : decode cX9_segment 101 = .ok (.aload_n 3, 1) := by decide +kernel
theorem dX9_segment_102 : decode cX9_segment 102 = .ok (.getfield 84, 3) := by decide +kernel
theorem dX9_segment_105 : decode cX9_segment 105 = .ok (.ireturn, 1) := by decide +kernel
theorem dX9_segment_106 : decode cX9_segment 106 = .ok (.aload_n 0, 1) := by decide +kernel
theorem dX9_segment_107 : decode cX9_segment 107 = .ok (.getfield 10, 3) := by decide +kernel
theorem dX9_segment_110 : decode cX9_segment 110 = .ok (.getfield 176, 3) := by decide +kernel
theorem dX9_segment_113 : decode cX9_segment 113 = .ok (.aload_n 3, 1) := by decide +kernel
theorem dX9_segment_114 : decode cX9_segment 114 = .ok (.getfield 98, 3) := by decide +kernel
theorem dX9_segment_117 : decode cX9_segment 117 = .ok (.iconst 0, 1) := by decide +kernel
theorem dX9_segment_118 : decode cX9_segment 118 = .ok (.invokevirtual 180, 3) := by decide +kernel
theorem dX9_segment_121 : decode cX9_segment 121 = .ok (.ireturn, 1) := by decide +kernel
theorem dX9_segment_122 : decode cX9_segment 122 = .ok (.aload_n 0, 1) := by decide +kernel
theorem dX9_segment_123 : decode cX9_segment 123 = .ok (.getfield 10, 3) := by decide +kernel
theorem dX9_segment_126 : decode cX9_segment 126 = .ok (.getfield 176, 3) := by decide +kernel
theorem dX9_segment_129 : decode cX9_segment 129 = .ok (.aload_n 3, 1) := by decide +kernel
theorem dX9_segment_130 : decode cX9_segment 130 = .ok (.getfield 98, 3) := by decide +kernel
theorem dX9_segment_133 : decode cX9_segment 133 = .ok (.invokevirtual 186, 3) := by decide +kernel
theorem dX9_segment_136 : decode cX9_segment 136 = .ok (.ireturn, 1) := by decide +kernel
theorem dX9_segment_137 : decode cX9_segment 137 = .ok (.aload_n 3, 1) := by decide +kernel
theorem dX9_segment_138 : decode cX9_segment 138 = .ok (.getfield 91, 3) := by decide +kernel
theorem dX9_segment_141 : decode cX9_segment 141 = .ok (.ireturn, 1) := by decide +kernel
theorem dX9_segment_142 : decode cX9_segment 142 = .ok (.aload_n 3, 1) := by decide +kernel
theorem dX9_segment_143 : decode cX9_segment 143 = .ok (.getfield 190, 3) := by decide +kernel
theorem dX9_segment_146 : decode cX9_segment 146 = .ok (.ireturn, 1) := by decide +kernel
theorem dX9_segment_147 : decode cX9_segment 147 = .ok (.aload_n 3, 1) := by decide +kernel
theorem dX9_segment_148 : decode cX9_segment 148 = .ok (.getfield 109, 3) := by decide +kernel
theorem dX9_segment_151 : decode cX9_segment 151 = .ok (.ireturn, 1) := by decide +kernel
theorem dX9_segment_152 : decode cX9_segment 152 = .ok (.aload_n 3, 1) := by decide +kernel
theorem dX9_segment_153 : decode cX9_segment 153 = .ok (.getfield 191, 3) := by decide +kernel
theorem dX9_segment_156 : decode cX9_segment 156 = .ok (.ireturn, 1) := by decide +kernel
theorem dX9_segment_157 : decode cX9_segment 157 = .ok (.aload_n 3, 1) := by decide +kernel
theorem dX9_segment_158 : decode cX9_segment 158 = .ok (.getfield 194, 3) := by decide +kernel
theorem dX9_segment_161 : decode cX9_segment 161 = .ok (.ireturn, 1) := by decide +kernel
theorem dX9_segment_162 : decode cX9_segment 162 = .ok (.aload_n 3, 1) := by decide +kernel
theorem dX9_segment_163 : decode cX9_segment 163 = .ok (.getfield 197, 3) := by decide +kernel
theorem dX9_segment_166 : decode cX9_segment 166 = .ok (.ireturn, 1) := by decide +kernel
theorem dX9_segment_167 : decode cX9_segment 167 = .ok (.aload_n 0, 1) := by decide +kernel
theorem dX9_segment_168 : decode cX9_segment 168 = .ok (.getfield 10, 3) := by decide +kernel
theorem dX9_segment_171 : decode cX9_segment 171 = .ok (.aload_n 3, 1) := by decide +kernel
theorem dX9_segment_172 : decode cX9_segment 172 = .ok (.getfield 98, 3) := by decide +kernel
theorem dX9_segment_175 : decode cX9_segment 175 = .ok (.invokevirtual 102, 3) := by decide +kernel
theorem dX9_segment_178 : decode cX9_segment 178 = .ok (.invokestatic 200, 3) := by decide +kernel
theorem dX9_segment_181 : decode cX9_segment 181 = .ok (.ireturn, 1) := by decide +kernel
theorem dX9_word_0 : decode cX9_word 0 = .ok (.iload_n 1, 1) := by decide +kernel
theorem dX9_word_1 : decode cX9_word 1 = .ok (.aload_n 0, 1) := by decide +kernel
theorem dX9_word_2 : decode cX9_word 2 = .ok (.getfield 10, 3) := by decide +kernel
theorem dX9_word_5 : decode cX9_word 5 = .ok (.getfield 68, 3) := by decide +kernel
theorem dX9_word_8 : decode cX9_word 8 = .ok (.invokestatic 30, 3) := by decide +kernel
theorem dX9_word_11 : decode cX9_word 11 = .ok (.iload_n 2, 1) := by decide +kernel
theorem dX9_word_12 : decode cX9_word 12 = .ok (.iconst 0, 1) := by decide +kernel
theorem dX9_word_13 : decode cX9_word 13 = .ok (.bipush 11, 2) := by decide +kernel
theorem dX9_word_15 : decode cX9_word 15 = .ok (.invokestatic 34, 3) := by decide +kernel
theorem dX9_word_18 : decode cX9_word 18 = .ok (.aload_n 0, 1) := by decide +kernel
theorem dX9_word_19 : decode cX9_word 19 = .ok (.getfield 10, 3) := by decide +kernel
theorem dX9_word_22 : decode cX9_word 22 = .ok (.getfield 71, 3) := by decide +kernel
theorem dX9_word_25 : decode cX9_word 25 = .ok (.iload_n 1, 1) := by decide +kernel
theorem dX9_word_26 : decode cX9_word 26 = .ok (.aaload, 1) := by decide +kernel
theorem dX9_word_27 : decode cX9_word 27 = .ok (.getfield 98, 3) := by decide +kernel
theorem dX9_word_30 : decode cX9_word 30 = .ok (.iload_n 2, 1) := by decide +kernel
theorem dX9_word_31 : decode cX9_word 31 = .ok (.invokevirtual 204, 3) := by decide +kernel
theorem dX9_word_34 : decode cX9_word 34 = .ok (.ireturn, 1) := by decide +kernel
theorem dX9_remembered_0 : decode cX9_remembered 0 = .ok (.iload_n 1, 1) := by decide +kernel
theorem dX9_remembered_1 : decode cX9_remembered 1 = .ok (.aload_n 0, 1) := by decide +kernel
theorem dX9_remembered_2 : decode cX9_remembered 2 = .ok (.getfield 10, 3) := by decide +kernel
theorem dX9_remembered_5 : decode cX9_remembered 5 = .ok (.getfield 176, 3) := by decide +kernel
theorem dX9_remembered_8 : decode cX9_remembered 8 = .ok (.getfield 207, 3) := by decide +kernel
theorem dX9_remembered_11 : decode cX9_remembered 11 = .ok (.invokestatic 30, 3) := by decide +kernel
theorem dX9_remembered_14 : decode cX9_remembered 14 = .ok (.iload_n 2, 1) := by decide +kernel
theorem dX9_remembered_15 : decode cX9_remembered 15 = .ok (.iconst 0, 1) := by decide +kernel
theorem dX9_remembered_16 : decode cX9_remembered 16 = .ok (.bipush 11, 2) := by decide +kernel
theorem dX9_remembered_18 : decode cX9_remembered 18 = .ok (.invokestatic 34, 3) := by decide +kernel
theorem dX9_remembered_21 : decode cX9_remembered 21 = .ok (.aload_n 0, 1) := by decide +kernel
theorem dX9_remembered_22 : decode cX9_remembered 22 = .ok (.getfield 10, 3) := by decide +kernel
theorem dX9_remembered_25 : decode cX9_remembered 25 = .ok (.getfield 176, 3) := by decide +kernel
theorem dX9_remembered_28 : decode cX9_remembered 28 = .ok (.getfield 208, 3) := by decide +kernel
theorem dX9_remembered_31 : decode cX9_remembered 31 = .ok (.iload_n 1, 1) := by decide +kernel
theorem dX9_remembered_32 : decode cX9_remembered 32 = .ok (.aaload, 1) := by decide +kernel
theorem dX9_remembered_33 : decode cX9_remembered 33 = .ok (.iload_n 2, 1) := by decide +kernel
theorem dX9_remembered_34 : decode cX9_remembered 34 = .ok (.invokevirtual 204, 3) := by decide +kernel
theorem dX9_remembered_37 : decode cX9_remembered 37 = .ok (.ireturn, 1) := by decide +kernel
theorem dX9_translator_0 : decode cX9_translator 0 = .ok (.iload_n 1, 1) := by decide +kernel
theorem dX9_translator_1 : decode cX9_translator 1 = .ok (.iconst 4, 1) := by decide +kernel
theorem dX9_translator_2 : decode cX9_translator 2 = .ok (.invokestatic 30, 3) := by decide +kernel
theorem dX9_translator_5 : decode cX9_translator 5 = .ok (.iload_n 2, 1) := by decide +kernel
theorem dX9_translator_6 : decode cX9_translator 6 = .ok (.iconst 0, 1) := by decide +kernel
theorem dX9_translator_7 : decode cX9_translator 7 = .ok (.bipush 6, 2) := by decide +kernel
theorem dX9_translator_9 : decode cX9_translator 9 = .ok (.invokestatic 34, 3) := by decide +kernel
theorem dX9_translator_12 : decode cX9_translator 12 = .ok (.aload_n 0, 1) := by decide +kernel
theorem dX9_translator_13 : decode cX9_translator 13 = .ok (.getfield 10, 3) := by decide +kernel
theorem dX9_translator_16 : decode cX9_translator 16 = .ok (.getfield 42, 3) := by decide +kernel
theorem dX9_translator_19 : decode cX9_translator 19 = .ok (.iload_n 1, 1) := by decide +kernel
theorem dX9_translator_20 : decode cX9_translator 20 = .ok (.aaload, 1) := by decide +kernel
theorem dX9_translator_21 : decode cX9_translator 21 = .ok (.astore_n 3, 1) := by decide +kernel
theorem dX9_translator_22 : decode cX9_translator 22 = .ok (.iload_n 2, 1) := by decide +kernel
theorem dX9_translator_23 : decode cX9_translator 23 = .ok (.tableswitch 71 0 5 #[37, 42, 47, 56, 61, 66], 37) := by decide +kernel
theorem dX9_translator_60 : decode cX9_translator 60 = .ok (.aload_n 3, 1) := by decide +kernel
theorem dX9_translator_61 : decode cX9_translator 61 = .ok (.getfield 46, 3) := by decide +kernel
theorem dX9_translator_64 : decode cX9_translator 64 = .ok (.ireturn, 1) := by decide +kernel
theorem dX9_translator_65 : decode cX9_translator 65 = .ok (.aload_n 3, 1) := by decide +kernel
theorem dX9_translator_66 : decode cX9_translator 66 = .ok (.getfield 212, 3) := by decide +kernel
theorem dX9_translator_69 : decode cX9_translator 69 = .ok (.ireturn, 1) := by decide +kernel
theorem dX9_translator_70 : decode cX9_translator 70 = .ok (.aload_n 0, 1) := by decide +kernel
theorem dX9_translator_71 : decode cX9_translator 71 = .ok (.getfield 10, 3) := by decide +kernel
theorem dX9_translator_74 : decode cX9_translator 74 = .ok (.iload_n 1, 1) := by decide +kernel
theorem dX9_translator_75 : decode cX9_translator 75 = .ok (.invokevirtual 215, 3) := by decide +kernel
theorem dX9_translator_78 : decode cX9_translator 78 = .ok (.ireturn, 1) := by decide +kernel
theorem dX9_translator_79 : decode cX9_translator 79 = .ok (.aload_n 3, 1) := by decide +kernel
theorem dX9_translator_80 : decode cX9_translator 80 = .ok (.getfield 218, 3) := by decide +kernel
theorem dX9_translator_83 : decode cX9_translator 83 = .ok (.ireturn, 1) := by decide +kernel
theorem dX9_translator_84 : decode cX9_translator 84 = .ok (.aload_n 3, 1) := by decide +kernel
theorem dX9_translator_85 : decode cX9_translator 85 = .ok (.getfield 221, 3) := by decide +kernel
theorem dX9_translator_88 : decode cX9_translator 88 = .ok (.ireturn, 1) := by decide +kernel
theorem dX9_translator_89 : decode cX9_translator 89 = .ok (.aload_n 3, 1) := by decide +kernel
theorem dX9_translator_90 : decode cX9_translator 90 = .ok (.getfield 222, 3) := by decide +kernel
theorem dX9_translator_93 : decode cX9_translator 93 = .ok (.ireturn, 1) := by decide +kernel
theorem dX9_translator_94 : decode cX9_translator 94 = .ok (.aload_n 0, 1) := by decide +kernel
theorem dX9_translator_95 : decode cX9_translator 95 = .ok (.getfield 10, 3) := by decide +kernel
theorem dX9_translator_98 : decode cX9_translator 98 = .ok (.iload_n 1, 1) := by decide +kernel
theorem dX9_translator_99 : decode cX9_translator 99 = .ok (.invokevirtual 225, 3) := by decide +kernel
theorem dX9_translator_102 : decode cX9_translator 102 = .ok (.ireturn, 1) := by decide +kernel
theorem dX9_term_0 : decode cX9_term 0 = .ok (.iload_n 1, 1) := by decide +kernel
theorem dX9_term_1 : decode cX9_term 1 = .ok (.bipush 8, 2) := by decide +kernel
theorem dX9_term_3 : decode cX9_term 3 = .ok (.invokestatic 30, 3) := by decide +kernel
theorem dX9_term_6 : decode cX9_term 6 = .ok (.iload_n 2, 1) := by decide +kernel
theorem dX9_term_7 : decode cX9_term 7 = .ok (.iconst 0, 1) := by decide +kernel
theorem dX9_term_8 : decode cX9_term 8 = .ok (.bipush 7, 2) := by decide +kernel
theorem dX9_term_10 : decode cX9_term 10 = .ok (.invokestatic 34, 3) := by decide +kernel
theorem dX9_term_13 : decode cX9_term 13 = .ok (.aload_n 0, 1) := by decide +kernel
theorem dX9_term_14 : decode cX9_term 14 = .ok (.getfield 10, 3) := by decide +kernel
theorem dX9_term_17 : decode cX9_term 17 = .ok (.getfield 121, 3) := by decide +kernel
theorem dX9_term_20 : decode cX9_term 20 = .ok (.iload_n 1, 1) := by decide +kernel
theorem dX9_term_21 : decode cX9_term 21 = .ok (.aaload, 1) := by decide +kernel
theorem dX9_term_22 : decode cX9_term 22 = .ok (.astore_n 3, 1) := by decide +kernel
theorem dX9_term_23 : decode cX9_term 23 = .ok (.iload_n 2, 1) := by decide +kernel
theorem dX9_term_24 : decode cX9_term 24 = .ok (.iconst 4, 1) := by decide +kernel
theorem dX9_term_25 : decode cX9_term 25 = .ok (.if_icmp .ge 10, 3) := by decide +kernel
theorem dX9_term_28 : decode cX9_term 28 = .ok (.aload_n 3, 1) := by decide +kernel
theorem dX9_term_29 : decode cX9_term 29 = .ok (.getfield 130, 3) := by decide +kernel
theorem dX9_term_32 : decode cX9_term 32 = .ok (.iload_n 2, 1) := by decide +kernel
theorem dX9_term_33 : decode cX9_term 33 = .ok (.iaload, 1) := by decide +kernel
theorem dX9_term_34 : decode cX9_term 34 = .ok (.ireturn, 1) := by decide +kernel
theorem dX9_term_35 : decode cX9_term 35 = .ok (.iload_n 2, 1) := by decide +kernel
theorem dX9_term_36 : decode cX9_term 36 = .ok (.tableswitch 46 4 6 #[28, 33, 41], 28) := by decide +kernel
theorem dX9_term_64 : decode cX9_term 64 = .ok (.aload_n 3, 1) := by decide +kernel
theorem dX9_term_65 : decode cX9_term 65 = .ok (.getfield 125, 3) := by decide +kernel
theorem dX9_term_68 : decode cX9_term 68 = .ok (.ireturn, 1) := by decide +kernel
theorem dX9_term_69 : decode cX9_term 69 = .ok (.aload_n 3, 1) := by decide +kernel
theorem dX9_term_70 : decode cX9_term 70 = .ok (.invokevirtual 228, 3) := by decide +kernel
theorem dX9_term_73 : decode cX9_term 73 = .ok (.invokestatic 200, 3) := by decide +kernel
theorem dX9_term_76 : decode cX9_term 76 = .ok (.ireturn, 1) := by decide +kernel
theorem dX9_term_77 : decode cX9_term 77 = .ok (.aload_n 3, 1) := by decide +kernel
theorem dX9_term_78 : decode cX9_term 78 = .ok (.invokevirtual 231, 3) := by decide +kernel
theorem dX9_term_81 : decode cX9_term 81 = .ok (.ireturn, 1) := by decide +kernel
theorem dX9_term_82 : decode cX9_term 82 = .ok (.aload_n 0, 1) := by decide +kernel
theorem dX9_term_83 : decode cX9_term 83 = .ok (.getfield 10, 3) := by decide +kernel
theorem dX9_term_86 : decode cX9_term 86 = .ok (.iload_n 1, 1) := by decide +kernel
theorem dX9_term_87 : decode cX9_term 87 = .ok (.invokevirtual 234, 3) := by decide +kernel
theorem dX9_term_90 : decode cX9_term 90 = .ok (.ireturn, 1) := by decide +kernel
theorem dX9_band_0 : decode cX9_band 0 = .ok (.iload_n 1, 1) := by decide +kernel
theorem dX9_band_1 : decode cX9_band 1 = .ok (.iconst 5, 1) := by decide +kernel
theorem dX9_band_2 : decode cX9_band 2 = .ok (.invokestatic 30, 3) := by decide +kernel
theorem dX9_band_5 : decode cX9_band 5 = .ok (.iload_n 2, 1) := by decide +kernel
theorem dX9_band_6 : decode cX9_band 6 = .ok (.iconst 0, 1) := by decide +kernel
theorem dX9_band_7 : decode cX9_band 7 = .ok (.iconst 2, 1) := by decide +kernel
theorem dX9_band_8 : decode cX9_band 8 = .ok (.invokestatic 34, 3) := by decide +kernel
theorem dX9_band_11 : decode cX9_band 11 = .ok (.aload_n 0, 1) := by decide +kernel
theorem dX9_band_12 : decode cX9_band 12 = .ok (.getfield 10, 3) := by decide +kernel
theorem dX9_band_15 : decode cX9_band 15 = .ok (.getfield 52, 3) := by decide +kernel
theorem dX9_band_18 : decode cX9_band 18 = .ok (.iload_n 1, 1) := by decide +kernel
theorem dX9_band_19 : decode cX9_band 19 = .ok (.aaload, 1) := by decide +kernel
theorem dX9_band_20 : decode cX9_band 20 = .ok (.astore_n 3, 1) := by decide +kernel
theorem dX9_band_21 : decode cX9_band 21 = .ok (.iload_n 2, 1) := by decide +kernel
theorem dX9_band_22 : decode cX9_band 22 = .ok (.lookupswitch 36 #[(0, 26), (1, 31)], 26) := by decide +kernel
theorem dX9_band_48 : decode cX9_band 48 = .ok (.aload_n 3, 1) := by decide +kernel
theorem dX9_band_49 : decode cX9_band 49 = .ok (.getfield 56, 3) := by decide +kernel
theorem dX9_band_52 : decode cX9_band 52 = .ok (.ireturn, 1) := by decide +kernel
theorem dX9_band_53 : decode cX9_band 53 = .ok (.aload_n 3, 1) := by decide +kernel
theorem dX9_band_54 : decode cX9_band 54 = .ok (.getfield 237, 3) := by decide +kernel
theorem dX9_band_57 : decode cX9_band 57 = .ok (.ireturn, 1) := by decide +kernel
theorem dX9_band_58 : decode cX9_band 58 = .ok (.aload_n 3, 1) := by decide +kernel
theorem dX9_band_59 : decode cX9_band 59 = .ok (.getfield 240, 3) := by decide +kernel
theorem dX9_band_62 : decode cX9_band 62 = .ok (.ireturn, 1) := by decide +kernel
theorem dX9_count_0 : decode cX9_count 0 = .ok (.iload_n 1, 1) := by decide +kernel
theorem dX9_count_1 : decode cX9_count 1 = .ok (.iconst 0, 1) := by decide +kernel
theorem dX9_count_2 : decode cX9_count 2 = .ok (.bipush 11, 2) := by decide +kernel
theorem dX9_count_4 : decode cX9_count 4 = .ok (.invokestatic 34, 3) := by decide +kernel
theorem dX9_count_7 : decode cX9_count 7 = .ok (.iload_n 1, 1) := by decide +kernel
theorem dX9_count_8 : decode cX9_count 8 = .ok (.tableswitch 155 0 10 #[60, 68, 77, 86, 95, 104, 115, 123, 131, 139, 147], 60) := by decide +kernel
theorem dX9_count_68 : decode cX9_count 68 = .ok (.aload_n 0, 1) := by decide +kernel
theorem dX9_count_69 : decode cX9_count 69 = .ok (.getfield 10, 3) := by decide +kernel
theorem dX9_count_72 : decode cX9_count 72 = .ok (.getfield 68, 3) := by decide +kernel
theorem dX9_count_75 : decode cX9_count 75 = .ok (.ireturn, 1) := by decide +kernel
theorem dX9_count_76 : decode cX9_count 76 = .ok (.aload_n 0, 1) := by decide +kernel
theorem dX9_count_77 : decode cX9_count 77 = .ok (.getfield 10, 3) := by decide +kernel
theorem dX9_count_80 : decode cX9_count 80 = .ok (.iconst 0, 1) := by decide +kernel
theorem dX9_count_81 : decode cX9_count 81 = .ok (.invokevirtual 243, 3) := by decide +kernel
theorem dX9_count_84 : decode cX9_count 84 = .ok (.ireturn, 1) := by decide +kernel
theorem dX9_count_85 : decode cX9_count 85 = .ok (.aload_n 0, 1) := by decide +kernel
theorem dX9_count_86 : decode cX9_count 86 = .ok (.getfield 10, 3) := by decide +kernel
theorem dX9_count_89 : decode cX9_count 89 = .ok (.iconst 1, 1) := by decide +kernel
theorem dX9_count_90 : decode cX9_count 90 = .ok (.invokevirtual 243, 3) := by decide +kernel
theorem dX9_count_93 : decode cX9_count 93 = .ok (.ireturn, 1) := by decide +kernel
theorem dX9_count_94 : decode cX9_count 94 = .ok (.aload_n 0, 1) := by decide +kernel
theorem dX9_count_95 : decode cX9_count 95 = .ok (.getfield 10, 3) := by decide +kernel
theorem dX9_count_98 : decode cX9_count 98 = .ok (.iconst 2, 1) := by decide +kernel
theorem dX9_count_99 : decode cX9_count 99 = .ok (.invokevirtual 243, 3) := by decide +kernel
theorem dX9_count_102 : decode cX9_count 102 = .ok (.ireturn, 1) := by decide +kernel
theorem dX9_count_103 : decode cX9_count 103 = .ok (.aload_n 0, 1) := by decide +kernel
theorem dX9_count_104 : decode cX9_count 104 = .ok (.getfield 10, 3) := by decide +kernel
theorem dX9_count_107 : decode cX9_count 107 = .ok (.iconst 3, 1) := by decide +kernel
theorem dX9_count_108 : decode cX9_count 108 = .ok (.invokevirtual 243, 3) := by decide +kernel
theorem dX9_count_111 : decode cX9_count 111 = .ok (.ireturn, 1) := by decide +kernel
theorem dX9_count_112 : decode cX9_count 112 = .ok (.aload_n 0, 1) := by decide +kernel
theorem dX9_count_113 : decode cX9_count 113 = .ok (.getfield 10, 3) := by decide +kernel
theorem dX9_count_116 : decode cX9_count 116 = .ok (.getfield 176, 3) := by decide +kernel
theorem dX9_count_119 : decode cX9_count 119 = .ok (.getfield 207, 3) := by decide +kernel
theorem dX9_count_122 : decode cX9_count 122 = .ok (.ireturn, 1) := by decide +kernel
theorem dX9_count_123 : decode cX9_count 123 = .ok (.aload_n 0, 1) := by decide +kernel
theorem dX9_count_124 : decode cX9_count 124 = .ok (.getfield 10, 3) := by decide +kernel
theorem dX9_count_127 : decode cX9_count 127 = .ok (.invokevirtual 246, 3) := by decide +kernel
theorem dX9_count_130 : decode cX9_count 130 = .ok (.ireturn, 1) := by decide +kernel
theorem dX9_count_131 : decode cX9_count 131 = .ok (.aload_n 0, 1) := by decide +kernel
theorem dX9_count_132 : decode cX9_count 132 = .ok (.getfield 10, 3) := by decide +kernel
theorem dX9_count_135 : decode cX9_count 135 = .ok (.invokevirtual 249, 3) := by decide +kernel
theorem dX9_count_138 : decode cX9_count 138 = .ok (.ireturn, 1) := by decide +kernel
theorem dX9_count_139 : decode cX9_count 139 = .ok (.aload_n 0, 1) := by decide +kernel
theorem dX9_count_140 : decode cX9_count 140 = .ok (.getfield 10, 3) := by decide +kernel
theorem dX9_count_143 : decode cX9_count 143 = .ok (.invokevirtual 251, 3) := by decide +kernel
theorem dX9_count_146 : decode cX9_count 146 = .ok (.ireturn, 1) := by decide +kernel
theorem dX9_count_147 : decode cX9_count 147 = .ok (.aload_n 0, 1) := by decide +kernel
theorem dX9_count_148 : decode cX9_count 148 = .ok (.getfield 10, 3) := by decide +kernel
theorem dX9_count_151 : decode cX9_count 151 = .ok (.invokevirtual 254, 3) := by decide +kernel
theorem dX9_count_154 : decode cX9_count 154 = .ok (.ireturn, 1) := by decide +kernel
theorem dX9_count_155 : decode cX9_count 155 = .ok (.aload_n 0, 1) := by decide +kernel
theorem dX9_count_156 : decode cX9_count 156 = .ok (.getfield 10, 3) := by decide +kernel
theorem dX9_count_159 : decode cX9_count 159 = .ok (.invokevirtual 257, 3) := by decide +kernel
theorem dX9_count_162 : decode cX9_count 162 = .ok (.ireturn, 1) := by decide +kernel
theorem dX9_count_163 : decode cX9_count 163 = .ok (.aload_n 0, 1) := by decide +kernel
theorem dX9_count_164 : decode cX9_count 164 = .ok (.getfield 19, 3) := by decide +kernel
theorem dX9_count_167 : decode cX9_count 167 = .ok (.getfield 172, 3) := by decide +kernel
theorem dX9_count_170 : decode cX9_count 170 = .ok (.ireturn, 1) := by decide +kernel
theorem dX9_setting_0 : decode cX9_setting 0 = .ok (.iload_n 1, 1) := by decide +kernel
theorem dX9_setting_1 : decode cX9_setting 1 = .ok (.iconst 2, 1) := by decide +kernel
theorem dX9_setting_2 : decode cX9_setting 2 = .ok (.invokestatic 30, 3) := by decide +kernel
theorem dX9_setting_5 : decode cX9_setting 5 = .ok (.aload_n 0, 1) := by decide +kernel
theorem dX9_setting_6 : decode cX9_setting 6 = .ok (.getfield 10, 3) := by decide +kernel
theorem dX9_setting_9 : decode cX9_setting 9 = .ok (.getfield 65, 3) := by decide +kernel
theorem dX9_setting_12 : decode cX9_setting 12 = .ok (.iload_n 1, 1) := by decide +kernel
theorem dX9_setting_13 : decode cX9_setting 13 = .ok (.iaload, 1) := by decide +kernel
theorem dX9_setting_14 : decode cX9_setting 14 = .ok (.ireturn, 1) := by decide +kernel
theorem dX9_near_0 : decode cX9_near 0 = .ok (.iload_n 1, 1) := by decide +kernel
theorem dX9_near_1 : decode cX9_near 1 = .ok (.aload_n 0, 1) := by decide +kernel
theorem dX9_near_2 : decode cX9_near 2 = .ok (.getfield 10, 3) := by decide +kernel
theorem dX9_near_5 : decode cX9_near 5 = .ok (.getfield 68, 3) := by decide +kernel
theorem dX9_near_8 : decode cX9_near 8 = .ok (.invokestatic 30, 3) := by decide +kernel
theorem dX9_near_11 : decode cX9_near 11 = .ok (.iload_n 2, 1) := by decide +kernel
theorem dX9_near_12 : decode cX9_near 12 = .ok (.aload_n 0, 1) := by decide +kernel
theorem dX9_near_13 : decode cX9_near 13 = .ok (.getfield 10, 3) := by decide +kernel
theorem dX9_near_16 : decode cX9_near 16 = .ok (.getfield 176, 3) := by decide +kernel
theorem dX9_near_19 : decode cX9_near 19 = .ok (.getfield 207, 3) := by decide +kernel
theorem dX9_near_22 : decode cX9_near 22 = .ok (.invokestatic 30, 3) := by decide +kernel
theorem dX9_near_25 : decode cX9_near 25 = .ok (.iload_n 3, 1) := by decide +kernel
theorem dX9_near_26 : decode cX9_near 26 = .ok (.iconst 0, 1) := by decide +kernel
theorem dX9_near_27 : decode cX9_near 27 = .ok (.iconst 2, 1) := by decide +kernel
theorem dX9_near_28 : decode cX9_near 28 = .ok (.invokestatic 34, 3) := by decide +kernel
theorem dX9_near_31 : decode cX9_near 31 = .ok (.aload_n 0, 1) := by decide +kernel
theorem dX9_near_32 : decode cX9_near 32 = .ok (.getfield 10, 3) := by decide +kernel
theorem dX9_near_35 : decode cX9_near 35 = .ok (.getfield 71, 3) := by decide +kernel
theorem dX9_near_38 : decode cX9_near 38 = .ok (.iload_n 1, 1) := by decide +kernel
theorem dX9_near_39 : decode cX9_near 39 = .ok (.aaload, 1) := by decide +kernel
theorem dX9_near_40 : decode cX9_near 40 = .ok (.getfield 98, 3) := by decide +kernel
theorem dX9_near_43 : decode cX9_near 43 = .ok (.astore 4, 2) := by decide +kernel
theorem dX9_near_45 : decode cX9_near 45 = .ok (.aload_n 0, 1) := by decide +kernel
theorem dX9_near_46 : decode cX9_near 46 = .ok (.getfield 10, 3) := by decide +kernel
theorem dX9_near_49 : decode cX9_near 49 = .ok (.getfield 176, 3) := by decide +kernel
theorem dX9_near_52 : decode cX9_near 52 = .ok (.getfield 208, 3) := by decide +kernel
theorem dX9_near_55 : decode cX9_near 55 = .ok (.iload_n 2, 1) := by decide +kernel
theorem dX9_near_56 : decode cX9_near 56 = .ok (.aaload, 1) := by decide +kernel
theorem dX9_near_57 : decode cX9_near 57 = .ok (.astore 5, 2) := by decide +kernel
theorem dX9_near_59 : decode cX9_near 59 = .ok (.iload_n 3, 1) := by decide +kernel
theorem dX9_near_60 : decode cX9_near 60 = .ok (.lookupswitch 46 #[(0, 28), (1, 36)], 28) := by decide +kernel
theorem dX9_near_88 : decode cX9_near 88 = .ok (.aload 4, 2) := by decide +kernel
theorem dX9_near_90 : decode cX9_near 90 = .ok (.aload 5, 2) := by decide +kernel
theorem dX9_near_92 : decode cX9_near 92 = .ok (.invokevirtual 260, 3) := by decide +kernel
theorem dX9_near_95 : decode cX9_near 95 = .ok (.ireturn, 1) := by decide +kernel
theorem dX9_near_96 : decode cX9_near 96 = .ok (.aload 4, 2) := by decide +kernel
theorem dX9_near_98 : decode cX9_near 98 = .ok (.iconst 0, 1) := by decide +kernel
theorem dX9_near_99 : decode cX9_near 99 = .ok (.aload 5, 2) := by decide +kernel
theorem dX9_near_101 : decode cX9_near 101 = .ok (.iconst 0, 1) := by decide +kernel
theorem dX9_near_102 : decode cX9_near 102 = .ok (.invokevirtual 263, 3) := by decide +kernel
theorem dX9_near_105 : decode cX9_near 105 = .ok (.ireturn, 1) := by decide +kernel
theorem dX9_near_106 : decode cX9_near 106 = .ok (.aload 4, 2) := by decide +kernel
theorem dX9_near_108 : decode cX9_near 108 = .ok (.aload 5, 2) := by decide +kernel
theorem dX9_near_110 : decode cX9_near 110 = .ok (.invokevirtual 267, 3) := by decide +kernel
theorem dX9_near_113 : decode cX9_near 113 = .ok (.invokestatic 271, 3) := by decide +kernel
theorem dX9_near_116 : decode cX9_near 116 = .ok (.ireturn, 1) := by decide +kernel
theorem dX9_common_0 : decode cX9_common 0 = .ok (.iload_n 1, 1) := by decide +kernel
theorem dX9_common_1 : decode cX9_common 1 = .ok (.aload_n 0, 1) := by decide +kernel
theorem dX9_common_2 : decode cX9_common 2 = .ok (.getfield 10, 3) := by decide +kernel
theorem dX9_common_5 : decode cX9_common 5 = .ok (.getfield 68, 3) := by decide +kernel
theorem dX9_common_8 : decode cX9_common 8 = .ok (.invokestatic 30, 3) := by decide +kernel
theorem dX9_common_11 : decode cX9_common 11 = .ok (.iload_n 2, 1) := by decide +kernel
theorem dX9_common_12 : decode cX9_common 12 = .ok (.aload_n 0, 1) := by decide +kernel
theorem dX9_common_13 : decode cX9_common 13 = .ok (.getfield 10, 3) := by decide +kernel
theorem dX9_common_16 : decode cX9_common 16 = .ok (.getfield 68, 3) := by decide +kernel
theorem dX9_common_19 : decode cX9_common 19 = .ok (.invokestatic 30, 3) := by decide +kernel
theorem dX9_common_22 : decode cX9_common 22 = .ok (.iload_n 3, 1) := by decide +kernel
theorem dX9_common_23 : decode cX9_common 23 = .ok (.iconst 0, 1) := by decide +kernel
theorem dX9_common_24 : decode cX9_common 24 = .ok (.bipush 11, 2) := by decide +kernel
theorem dX9_common_26 : decode cX9_common 26 = .ok (.invokestatic 34, 3) := by decide +kernel
theorem dX9_common_29 : decode cX9_common 29 = .ok (.aload_n 0, 1) := by decide +kernel
theorem dX9_common_30 : decode cX9_common 30 = .ok (.getfield 10, 3) := by decide +kernel
theorem dX9_common_33 : decode cX9_common 33 = .ok (.getfield 71, 3) := by decide +kernel
theorem dX9_common_36 : decode cX9_common 36 = .ok (.iload_n 1, 1) := by decide +kernel
theorem dX9_common_37 : decode cX9_common 37 = .ok (.aaload, 1) := by decide +kernel
theorem dX9_common_38 : decode cX9_common 38 = .ok (.getfield 98, 3) := by decide +kernel
theorem dX9_common_41 : decode cX9_common 41 = .ok (.aload_n 0, 1) := by decide +kernel
theorem dX9_common_42 : decode cX9_common 42 = .ok (.getfield 10, 3) := by decide +kernel
theorem dX9_common_45 : decode cX9_common 45 = .ok (.getfield 71, 3) := by decide +kernel
theorem dX9_common_48 : decode cX9_common 48 = .ok (.iload_n 2, 1) := by decide +kernel
theorem dX9_common_49 : decode cX9_common 49 = .ok (.aaload, 1) := by decide +kernel
theorem dX9_common_50 : decode cX9_common 50 = .ok (.getfield 98, 3) := by decide +kernel
theorem dX9_common_53 : decode cX9_common 53 = .ok (.iload_n 3, 1) := by decide +kernel
theorem dX9_common_54 : decode cX9_common 54 = .ok (.invokevirtual 275, 3) := by decide +kernel
theorem dX9_common_57 : decode cX9_common 57 = .ok (.ireturn, 1) := by decide +kernel
theorem dX9_ifPaid_0 : decode cX9_ifPaid 0 = .ok (.iload_n 1, 1) := by decide +kernel
theorem dX9_ifPaid_1 : decode cX9_ifPaid 1 = .ok (.aload_n 0, 1) := by decide +kernel
theorem dX9_ifPaid_2 : decode cX9_ifPaid 2 = .ok (.getfield 10, 3) := by decide +kernel
theorem dX9_ifPaid_5 : decode cX9_ifPaid 5 = .ok (.getfield 68, 3) := by decide +kernel
theorem dX9_ifPaid_8 : decode cX9_ifPaid 8 = .ok (.invokestatic 30, 3) := by decide +kernel
theorem dX9_ifPaid_11 : decode cX9_ifPaid 11 = .ok (.iload_n 2, 1) := by decide +kernel
theorem dX9_ifPaid_12 : decode cX9_ifPaid 12 = .ok (.iconst 4, 1) := by decide +kernel
theorem dX9_ifPaid_13 : decode cX9_ifPaid 13 = .ok (.invokestatic 30, 3) := by decide +kernel
theorem dX9_ifPaid_16 : decode cX9_ifPaid 16 = .ok (.aload_n 0, 1) := by decide +kernel
theorem dX9_ifPaid_17 : decode cX9_ifPaid 17 = .ok (.getfield 10, 3) := by decide +kernel
theorem dX9_ifPaid_20 : decode cX9_ifPaid 20 = .ok (.getfield 71, 3) := by decide +kernel
theorem dX9_ifPaid_23 : decode cX9_ifPaid 23 = .ok (.iload_n 1, 1) := by decide +kernel
theorem dX9_ifPaid_24 : decode cX9_ifPaid 24 = .ok (.aaload, 1) := by decide +kernel
theorem dX9_ifPaid_25 : decode cX9_ifPaid 25 = .ok (.astore_n 3, 1) := by decide +kernel
theorem dX9_ifPaid_26 : decode cX9_ifPaid 26 = .ok (.aload_n 3, 1) := by decide +kernel
theorem dX9_ifPaid_27 : decode cX9_ifPaid 27 = .ok (.getfield 75, 3) := by decide +kernel
theorem dX9_ifPaid_30 : decode cX9_ifPaid 30 = .ok (.ifCond .ne 17, 3) := by decide +kernel
theorem dX9_ifPaid_33 : decode cX9_ifPaid 33 = .ok (.aload_n 0, 1) := by decide +kernel
theorem dX9_ifPaid_34 : decode cX9_ifPaid 34 = .ok (.getfield 10, 3) := by decide +kernel
theorem dX9_ifPaid_37 : decode cX9_ifPaid 37 = .ok (.aload_n 3, 1) := by decide +kernel
theorem dX9_ifPaid_38 : decode cX9_ifPaid 38 = .ok (.getfield 98, 3) := by decide +kernel
theorem dX9_ifPaid_41 : decode cX9_ifPaid 41 = .ok (.invokevirtual 278, 3) := by decide +kernel
theorem dX9_ifPaid_44 : decode cX9_ifPaid 44 = .ok (.goto 7, 3) := by decide +kernel
theorem dX9_ifPaid_47 : decode cX9_ifPaid 47 = .ok (.aload_n 3, 1) := by decide +kernel
theorem dX9_ifPaid_48 : decode cX9_ifPaid 48 = .ok (.getfield 190, 3) := by decide +kernel
theorem dX9_ifPaid_51 : decode cX9_ifPaid 51 = .ok (.istore 4, 2) := by decide +kernel
theorem dX9_ifPaid_53 : decode cX9_ifPaid 53 = .ok (.aload_n 3, 1) := by decide +kernel
theorem dX9_ifPaid_54 : decode cX9_ifPaid 54 = .ok (.getfield 98, 3) := by decide +kernel
theorem dX9_ifPaid_57 : decode cX9_ifPaid 57 = .ok (.getfield 112, 3) := by decide +kernel
theorem dX9_ifPaid_60 : decode cX9_ifPaid 60 = .ok (.aload_n 0, 1) := by decide +kernel
theorem dX9_ifPaid_61 : decode cX9_ifPaid 61 = .ok (.getfield 10, 3) := by decide +kernel
theorem dX9_ifPaid_64 : decode cX9_ifPaid 64 = .ok (.getfield 42, 3) := by decide +kernel
theorem dX9_ifPaid_67 : decode cX9_ifPaid 67 = .ok (.iload_n 2, 1) := by decide +kernel
theorem dX9_ifPaid_68 : decode cX9_ifPaid 68 = .ok (.aaload, 1) := by decide +kernel
theorem dX9_ifPaid_69 : decode cX9_ifPaid 69 = .ok (.getfield 46, 3) := by decide +kernel
theorem dX9_ifPaid_72 : decode cX9_ifPaid 72 = .ok (.imul, 1) := by decide +kernel
theorem dX9_ifPaid_73 : decode cX9_ifPaid 73 = .ok (.iload 4, 2) := by decide +kernel
theorem dX9_ifPaid_75 : decode cX9_ifPaid 75 = .ok (.imul, 1) := by decide +kernel
theorem dX9_ifPaid_76 : decode cX9_ifPaid 76 = .ok (.bipush 100, 2) := by decide +kernel
theorem dX9_ifPaid_78 : decode cX9_ifPaid 78 = .ok (.idiv, 1) := by decide +kernel
theorem dX9_ifPaid_79 : decode cX9_ifPaid 79 = .ok (.ireturn, 1) := by decide +kernel
theorem dX9_orderMatters_0 : decode cX9_orderMatters 0 = .ok (.iload_n 1, 1) := by decide +kernel
theorem dX9_orderMatters_1 : decode cX9_orderMatters 1 = .ok (.aload_n 0, 1) := by decide +kernel
theorem dX9_orderMatters_2 : decode cX9_orderMatters 2 = .ok (.getfield 10, 3) := by decide +kernel
theorem dX9_orderMatters_5 : decode cX9_orderMatters 5 = .ok (.getfield 68, 3) := by decide +kernel
theorem dX9_orderMatters_8 : decode cX9_orderMatters 8 = .ok (.invokestatic 30, 3) := by decide +kernel
theorem dX9_orderMatters_11 : decode cX9_orderMatters 11 = .ok (.iload_n 2, 1) := by decide +kernel
theorem dX9_orderMatters_12 : decode cX9_orderMatters 12 = .ok (.aload_n 0, 1) := by decide +kernel
theorem dX9_orderMatters_13 : decode cX9_orderMatters 13 = .ok (.getfield 10, 3) := by decide +kernel
theorem dX9_orderMatters_16 : decode cX9_orderMatters 16 = .ok (.getfield 68, 3) := by decide +kernel
theorem dX9_orderMatters_19 : decode cX9_orderMatters 19 = .ok (.invokestatic 30, 3) := by decide +kernel
theorem dX9_orderMatters_22 : decode cX9_orderMatters 22 = .ok (.iload_n 1, 1) := by decide +kernel
theorem dX9_orderMatters_23 : decode cX9_orderMatters 23 = .ok (.iload_n 2, 1) := by decide +kernel
theorem dX9_orderMatters_24 : decode cX9_orderMatters 24 = .ok (.if_icmp .eq 7, 3) := by decide +kernel
theorem dX9_orderMatters_27 : decode cX9_orderMatters 27 = .ok (.iconst 1, 1) := by decide +kernel
theorem dX9_orderMatters_28 : decode cX9_orderMatters 28 = .ok (.goto 4, 3) := by decide +kernel
theorem dX9_orderMatters_31 : decode cX9_orderMatters 31 = .ok (.iconst 0, 1) := by decide +kernel
theorem dX9_orderMatters_32 : decode cX9_orderMatters 32 = .ok (.invokestatic 152, 3) := by decide +kernel
theorem dX9_orderMatters_35 : decode cX9_orderMatters 35 = .ok (.aload_n 0, 1) := by decide +kernel
theorem dX9_orderMatters_36 : decode cX9_orderMatters 36 = .ok (.getfield 10, 3) := by decide +kernel
theorem dX9_orderMatters_39 : decode cX9_orderMatters 39 = .ok (.getfield 71, 3) := by decide +kernel
theorem dX9_orderMatters_42 : decode cX9_orderMatters 42 = .ok (.iload_n 1, 1) := by decide +kernel
theorem dX9_orderMatters_43 : decode cX9_orderMatters 43 = .ok (.aaload, 1) := by decide +kernel
theorem dX9_orderMatters_44 : decode cX9_orderMatters 44 = .ok (.astore_n 3, 1) := by decide +kernel
theorem dX9_orderMatters_45 : decode cX9_orderMatters 45 = .ok (.aload_n 0, 1) := by decide +kernel
theorem dX9_orderMatters_46 : decode cX9_orderMatters 46 = .ok (.getfield 10, 3) := by decide +kernel
theorem dX9_orderMatters_49 : decode cX9_orderMatters 49 = .ok (.getfield 71, 3) := by decide +kernel
theorem dX9_orderMatters_52 : decode cX9_orderMatters 52 = .ok (.iload_n 2, 1) := by decide +kernel
theorem dX9_orderMatters_53 : decode cX9_orderMatters 53 = .ok (.aaload, 1) := by decide +kernel
theorem dX9_orderMatters_54 : decode cX9_orderMatters 54 = .ok (.astore 4, 2) := by decide +kernel
theorem dX9_orderMatters_56 : decode cX9_orderMatters 56 = .ok (.aload_n 3, 1) := by decide +kernel
theorem dX9_orderMatters_57 : decode cX9_orderMatters 57 = .ok (.getfield 75, 3) := by decide +kernel
theorem dX9_orderMatters_60 : decode cX9_orderMatters 60 = .ok (.ifCond .ne 15, 3) := by decide +kernel
theorem dX9_orderMatters_63 : decode cX9_orderMatters 63 = .ok (.aload 4, 2) := by decide +kernel
theorem dX9_orderMatters_65 : decode cX9_orderMatters 65 = .ok (.getfield 75, 3) := by decide +kernel
theorem dX9_orderMatters_68 : decode cX9_orderMatters 68 = .ok (.ifCond .ne 7, 3) := by decide +kernel
theorem dX9_orderMatters_71 : decode cX9_orderMatters 71 = .ok (.iconst 1, 1) := by decide +kernel
theorem dX9_orderMatters_72 : decode cX9_orderMatters 72 = .ok (.goto 4, 3) := by decide +kernel
theorem dX9_orderMatters_75 : decode cX9_orderMatters 75 = .ok (.iconst 0, 1) := by decide +kernel
theorem dX9_orderMatters_76 : decode cX9_orderMatters 76 = .ok (.invokestatic 80, 3) := by decide +kernel
theorem dX9_orderMatters_79 : decode cX9_orderMatters 79 = .ok (.aload_n 0, 1) := by decide +kernel
theorem dX9_orderMatters_80 : decode cX9_orderMatters 80 = .ok (.getfield 10, 3) := by decide +kernel
theorem dX9_orderMatters_83 : decode cX9_orderMatters 83 = .ok (.aload_n 3, 1) := by decide +kernel
theorem dX9_orderMatters_84 : decode cX9_orderMatters 84 = .ok (.getfield 98, 3) := by decide +kernel
theorem dX9_orderMatters_87 : decode cX9_orderMatters 87 = .ok (.aload 4, 2) := by decide +kernel
theorem dX9_orderMatters_89 : decode cX9_orderMatters 89 = .ok (.getfield 98, 3) := by decide +kernel
theorem dX9_orderMatters_92 : decode cX9_orderMatters 92 = .ok (.invokevirtual 281, 3) := by decide +kernel
theorem dX9_orderMatters_95 : decode cX9_orderMatters 95 = .ok (.aload_n 0, 1) := by decide +kernel
theorem dX9_orderMatters_96 : decode cX9_orderMatters 96 = .ok (.getfield 10, 3) := by decide +kernel
theorem dX9_orderMatters_99 : decode cX9_orderMatters 99 = .ok (.aload 4, 2) := by decide +kernel
theorem dX9_orderMatters_101 : decode cX9_orderMatters 101 = .ok (.getfield 98, 3) := by decide +kernel
theorem dX9_orderMatters_104 : decode cX9_orderMatters 104 = .ok (.aload_n 3, 1) := by decide +kernel
