theorem dX10_personOf_37 : decode cX10_personOf 37 = .ok (.goto 6, 3) := by decide +kernel
theorem dX10_personOf_40 : decode cX10_personOf 40 = .ok (.iload_n 2, 1) := by decide +kernel
theorem dX10_personOf_41 : decode cX10_personOf 41 = .ok (.iconst 1, 1) := by decide +kernel
theorem dX10_personOf_42 : decode cX10_personOf 42 = .ok (.isub, 1) := by decide +kernel
theorem dX10_personOf_43 : decode cX10_personOf 43 = .ok (.iadd, 1) := by decide +kernel
theorem dX10_personOf_44 : decode cX10_personOf 44 = .ok (.iaload, 1) := by decide +kernel
theorem dX10_personOf_45 : decode cX10_personOf 45 = .ok (.ireturn, 1) := by decide +kernel
theorem dX10_translator_0 : decode cX10_translator 0 = .ok (.aload_n 0, 1) := by decide +kernel
theorem dX10_translator_1 : decode cX10_translator 1 = .ok (.iconst 0, 1) := by decide +kernel
theorem dX10_translator_2 : decode cX10_translator 2 = .ok (.putfield 34, 3) := by decide +kernel
theorem dX10_translator_5 : decode cX10_translator 5 = .ok (.iload_n 1, 1) := by decide +kernel
theorem dX10_translator_6 : decode cX10_translator 6 = .ok (.invokestatic 92, 3) := by decide +kernel
theorem dX10_translator_9 : decode cX10_translator 9 = .ok (.ifCond .ne 9, 3) := by decide +kernel
theorem dX10_translator_12 : decode cX10_translator 12 = .ok (.aload_n 0, 1) := by decide +kernel
theorem dX10_translator_13 : decode cX10_translator 13 = .ok (.iconst 1, 1) := by decide +kernel
theorem dX10_translator_14 : decode cX10_translator 14 = .ok (.invokevirtual 95, 3) := by decide +kernel
theorem dX10_translator_17 : decode cX10_translator 17 = .ok (.ireturn, 1) := by decide +kernel
theorem dX10_translator_18 : decode cX10_translator 18 = .ok (.iload_n 2, 1) := by decide +kernel
theorem dX10_translator_19 : decode cX10_translator 19 = .ok (.iconst 0, 1) := by decide +kernel
theorem dX10_translator_20 : decode cX10_translator 20 = .ok (.bipush 6, 2) := by decide +kernel
theorem dX10_translator_22 : decode cX10_translator 22 = .ok (.invokestatic 41, 3) := by decide +kernel
theorem dX10_translator_25 : decode cX10_translator 25 = .ok (.ifCond .eq 12, 3) := by decide +kernel
theorem dX10_translator_28 : decode cX10_translator 28 = .ok (.aload_n 0, 1) := by decide +kernel
theorem dX10_translator_29 : decode cX10_translator 29 = .ok (.iload_n 1, 1) := by decide +kernel
theorem dX10_translator_30 : decode cX10_translator 30 = .ok (.iload_n 2, 1) := by decide +kernel
theorem dX10_translator_31 : decode cX10_translator 31 = .ok (.invokevirtual 160, 3) := by decide +kernel
theorem dX10_translator_34 : decode cX10_translator 34 = .ok (.goto 8, 3) := by decide +kernel
theorem dX10_translator_37 : decode cX10_translator 37 = .ok (.aload_n 0, 1) := by decide +kernel
theorem dX10_translator_38 : decode cX10_translator 38 = .ok (.iconst 2, 1) := by decide +kernel
theorem dX10_translator_39 : decode cX10_translator 39 = .ok (.invokevirtual 95, 3) := by decide +kernel
theorem dX10_translator_42 : decode cX10_translator 42 = .ok (.ireturn, 1) := by decide +kernel
theorem dX10_often_0 : decode cX10_often 0 = .ok (.iconst 0, 1) := by decide +kernel
theorem dX10_often_1 : decode cX10_often 1 = .ok (.istore_n 2, 1) := by decide +kernel
theorem dX10_often_2 : decode cX10_often 2 = .ok (.iconst 0, 1) := by decide +kernel
theorem dX10_often_3 : decode cX10_often 3 = .ok (.istore_n 3, 1) := by decide +kernel
theorem dX10_often_4 : decode cX10_often 4 = .ok (.iload_n 3, 1) := by decide +kernel
theorem dX10_often_5 : decode cX10_often 5 = .ok (.aload_n 0, 1) := by decide +kernel
theorem dX10_often_6 : decode cX10_often 6 = .ok (.getfield 7, 3) := by decide +kernel
theorem dX10_often_9 : decode cX10_often 9 = .ok (.iconst 0, 1) := by decide +kernel
theorem dX10_often_10 : decode cX10_often 10 = .ok (.iaload, 1) := by decide +kernel
theorem dX10_often_11 : decode cX10_often 11 = .ok (.if_icmp .ge 59, 3) := by decide +kernel
theorem dX10_often_14 : decode cX10_often 14 = .ok (.iconst 0, 1) := by decide +kernel
theorem dX10_often_15 : decode cX10_often 15 = .ok (.istore 4, 2) := by decide +kernel
theorem dX10_often_17 : decode cX10_often 17 = .ok (.iload 4, 2) := by decide +kernel
theorem dX10_often_19 : decode cX10_often 19 = .ok (.aload_n 0, 1) := by decide +kernel
theorem dX10_often_20 : decode cX10_often 20 = .ok (.getfield 7, 3) := by decide +kernel
theorem dX10_often_23 : decode cX10_often 23 = .ok (.iload_n 3, 1) := by decide +kernel
theorem dX10_often_24 : decode cX10_often 24 = .ok (.invokestatic 45, 3) := by decide +kernel
theorem dX10_often_27 : decode cX10_often 27 = .ok (.iaload, 1) := by decide +kernel
theorem dX10_often_28 : decode cX10_often 28 = .ok (.if_icmp .ge 36, 3) := by decide +kernel
theorem dX10_often_31 : decode cX10_often 31 = .ok (.iload_n 2, 1) := by decide +kernel
theorem dX10_often_32 : decode cX10_often 32 = .ok (.aload_n 0, 1) := by decide +kernel
theorem dX10_often_33 : decode cX10_often 33 = .ok (.getfield 7, 3) := by decide +kernel
theorem dX10_often_36 : decode cX10_often 36 = .ok (.iload_n 3, 1) := by decide +kernel
theorem dX10_often_37 : decode cX10_often 37 = .ok (.invokestatic 45, 3) := by decide +kernel
theorem dX10_often_40 : decode cX10_often 40 = .ok (.bipush 10, 2) := by decide +kernel
theorem dX10_often_42 : decode cX10_often 42 = .ok (.iadd, 1) := by decide +kernel
theorem dX10_often_43 : decode cX10_often 43 = .ok (.iload 4, 2) := by decide +kernel
theorem dX10_often_45 : decode cX10_often 45 = .ok (.iadd, 1) := by decide +kernel
theorem dX10_often_46 : decode cX10_often 46 = .ok (.iaload, 1) := by decide +kernel
theorem dX10_often_47 : decode cX10_often 47 = .ok (.iload_n 1, 1) := by decide +kernel
theorem dX10_often_48 : decode cX10_often 48 = .ok (.if_icmp .ne 7, 3) := by decide +kernel
theorem dX10_often_51 : decode cX10_often 51 = .ok (.iconst 1, 1) := by decide +kernel
theorem dX10_often_52 : decode cX10_often 52 = .ok (.goto 4, 3) := by decide +kernel
theorem dX10_often_55 : decode cX10_often 55 = .ok (.iconst 0, 1) := by decide +kernel
theorem dX10_often_56 : decode cX10_often 56 = .ok (.iadd, 1) := by decide +kernel
theorem dX10_often_57 : decode cX10_often 57 = .ok (.istore_n 2, 1) := by decide +kernel
theorem dX10_often_58 : decode cX10_often 58 = .ok (.iinc 4 1, 3) := by decide +kernel
theorem dX10_often_61 : decode cX10_often 61 = .ok (.goto (-44), 3) := by decide +kernel
theorem dX10_often_64 : decode cX10_often 64 = .ok (.iinc 3 1, 3) := by decide +kernel
theorem dX10_often_67 : decode cX10_often 67 = .ok (.goto (-63), 3) := by decide +kernel
theorem dX10_often_70 : decode cX10_often 70 = .ok (.iload_n 2, 1) := by decide +kernel
theorem dX10_often_71 : decode cX10_often 71 = .ok (.ireturn, 1) := by decide +kernel
theorem dX10_termOf_0 : decode cX10_termOf 0 = .ok (.iload_n 2, 1) := by decide +kernel
theorem dX10_termOf_1 : decode cX10_termOf 1 = .ok (.iconst 4, 1) := by decide +kernel
theorem dX10_termOf_2 : decode cX10_termOf 2 = .ok (.if_icmp .ge 14, 3) := by decide +kernel
theorem dX10_termOf_5 : decode cX10_termOf 5 = .ok (.aload_n 0, 1) := by decide +kernel
theorem dX10_termOf_6 : decode cX10_termOf 6 = .ok (.getfield 7, 3) := by decide +kernel
theorem dX10_termOf_9 : decode cX10_termOf 9 = .ok (.iload_n 1, 1) := by decide +kernel
theorem dX10_termOf_10 : decode cX10_termOf 10 = .ok (.iload_n 2, 1) := by decide +kernel
theorem dX10_termOf_11 : decode cX10_termOf 11 = .ok (.invokestatic 84, 3) := by decide +kernel
theorem dX10_termOf_14 : decode cX10_termOf 14 = .ok (.iaload, 1) := by decide +kernel
theorem dX10_termOf_15 : decode cX10_termOf 15 = .ok (.ireturn, 1) := by decide +kernel
theorem dX10_termOf_16 : decode cX10_termOf 16 = .ok (.iload_n 2, 1) := by decide +kernel
theorem dX10_termOf_17 : decode cX10_termOf 17 = .ok (.iconst 4, 1) := by decide +kernel
theorem dX10_termOf_18 : decode cX10_termOf 18 = .ok (.if_icmp .ne 13, 3) := by decide +kernel
theorem dX10_termOf_21 : decode cX10_termOf 21 = .ok (.aload_n 0, 1) := by decide +kernel
theorem dX10_termOf_22 : decode cX10_termOf 22 = .ok (.getfield 7, 3) := by decide +kernel
theorem dX10_termOf_25 : decode cX10_termOf 25 = .ok (.bipush 56, 2) := by decide +kernel
theorem dX10_termOf_27 : decode cX10_termOf 27 = .ok (.iload_n 1, 1) := by decide +kernel
theorem dX10_termOf_28 : decode cX10_termOf 28 = .ok (.iadd, 1) := by decide +kernel
theorem dX10_termOf_29 : decode cX10_termOf 29 = .ok (.iaload, 1) := by decide +kernel
theorem dX10_termOf_30 : decode cX10_termOf 30 = .ok (.ireturn, 1) := by decide +kernel
theorem dX10_termOf_31 : decode cX10_termOf 31 = .ok (.iload_n 2, 1) := by decide +kernel
theorem dX10_termOf_32 : decode cX10_termOf 32 = .ok (.iconst 5, 1) := by decide +kernel
theorem dX10_termOf_33 : decode cX10_termOf 33 = .ok (.if_icmp .ne 19, 3) := by decide +kernel
theorem dX10_termOf_36 : decode cX10_termOf 36 = .ok (.aload_n 0, 1) := by decide +kernel
theorem dX10_termOf_37 : decode cX10_termOf 37 = .ok (.iload_n 1, 1) := by decide +kernel
theorem dX10_termOf_38 : decode cX10_termOf 38 = .ok (.invokevirtual 88, 3) := by decide +kernel
theorem dX10_termOf_41 : decode cX10_termOf 41 = .ok (.ifCond .eq 7, 3) := by decide +kernel
theorem dX10_termOf_44 : decode cX10_termOf 44 = .ok (.iconst 1, 1) := by decide +kernel
theorem dX10_termOf_45 : decode cX10_termOf 45 = .ok (.goto 26, 3) := by decide +kernel
theorem dX10_termOf_48 : decode cX10_termOf 48 = .ok (.iconst 0, 1) := by decide +kernel
theorem dX10_termOf_49 : decode cX10_termOf 49 = .ok (.goto 22, 3) := by decide +kernel
theorem dX10_termOf_52 : decode cX10_termOf 52 = .ok (.iload_n 2, 1) := by decide +kernel
theorem dX10_termOf_53 : decode cX10_termOf 53 = .ok (.bipush 6, 2) := by decide +kernel
theorem dX10_termOf_55 : decode cX10_termOf 55 = .ok (.if_icmp .ne 11, 3) := by decide +kernel
theorem dX10_termOf_58 : decode cX10_termOf 58 = .ok (.aload_n 0, 1) := by decide +kernel
theorem dX10_termOf_59 : decode cX10_termOf 59 = .ok (.iload_n 1, 1) := by decide +kernel
theorem dX10_termOf_60 : decode cX10_termOf 60 = .ok (.invokevirtual 81, 3) := by decide +kernel
theorem dX10_termOf_63 : decode cX10_termOf 63 = .ok (.goto 8, 3) := by decide +kernel
theorem dX10_termOf_66 : decode cX10_termOf 66 = .ok (.aload_n 0, 1) := by decide +kernel
theorem dX10_termOf_67 : decode cX10_termOf 67 = .ok (.iload_n 1, 1) := by decide +kernel
theorem dX10_termOf_68 : decode cX10_termOf 68 = .ok (.invokevirtual 163, 3) := by decide +kernel
theorem dX10_termOf_71 : decode cX10_termOf 71 = .ok (.ireturn, 1) := by decide +kernel
theorem dX10_term_0 : decode cX10_term 0 = .ok (.aload_n 0, 1) := by decide +kernel
theorem dX10_term_1 : decode cX10_term 1 = .ok (.iconst 0, 1) := by decide +kernel
theorem dX10_term_2 : decode cX10_term 2 = .ok (.putfield 34, 3) := by decide +kernel
theorem dX10_term_5 : decode cX10_term 5 = .ok (.iload_n 1, 1) := by decide +kernel
theorem dX10_term_6 : decode cX10_term 6 = .ok (.invokestatic 119, 3) := by decide +kernel
theorem dX10_term_9 : decode cX10_term 9 = .ok (.ifCond .ne 9, 3) := by decide +kernel
theorem dX10_term_12 : decode cX10_term 12 = .ok (.aload_n 0, 1) := by decide +kernel
theorem dX10_term_13 : decode cX10_term 13 = .ok (.iconst 1, 1) := by decide +kernel
theorem dX10_term_14 : decode cX10_term 14 = .ok (.invokevirtual 95, 3) := by decide +kernel
theorem dX10_term_17 : decode cX10_term 17 = .ok (.ireturn, 1) := by decide +kernel
theorem dX10_term_18 : decode cX10_term 18 = .ok (.iload_n 2, 1) := by decide +kernel
theorem dX10_term_19 : decode cX10_term 19 = .ok (.iconst 0, 1) := by decide +kernel
theorem dX10_term_20 : decode cX10_term 20 = .ok (.bipush 7, 2) := by decide +kernel
theorem dX10_term_22 : decode cX10_term 22 = .ok (.invokestatic 41, 3) := by decide +kernel
theorem dX10_term_25 : decode cX10_term 25 = .ok (.ifCond .eq 12, 3) := by decide +kernel
theorem dX10_term_28 : decode cX10_term 28 = .ok (.aload_n 0, 1) := by decide +kernel
theorem dX10_term_29 : decode cX10_term 29 = .ok (.iload_n 1, 1) := by decide +kernel
theorem dX10_term_30 : decode cX10_term 30 = .ok (.iload_n 2, 1) := by decide +kernel
theorem dX10_term_31 : decode cX10_term 31 = .ok (.invokevirtual 166, 3) := by decide +kernel
theorem dX10_term_34 : decode cX10_term 34 = .ok (.goto 8, 3) := by decide +kernel
theorem dX10_term_37 : decode cX10_term 37 = .ok (.aload_n 0, 1) := by decide +kernel
theorem dX10_term_38 : decode cX10_term 38 = .ok (.iconst 2, 1) := by decide +kernel
theorem dX10_term_39 : decode cX10_term 39 = .ok (.invokevirtual 95, 3) := by decide +kernel
theorem dX10_term_42 : decode cX10_term 42 = .ok (.ireturn, 1) := by decide +kernel
theorem dX10_band_0 : decode cX10_band 0 = .ok (.aload_n 0, 1) := by decide +kernel
theorem dX10_band_1 : decode cX10_band 1 = .ok (.iconst 0, 1) := by decide +kernel
theorem dX10_band_2 : decode cX10_band 2 = .ok (.putfield 34, 3) := by decide +kernel
theorem dX10_band_5 : decode cX10_band 5 = .ok (.iload_n 1, 1) := by decide +kernel
theorem dX10_band_6 : decode cX10_band 6 = .ok (.invokestatic 104, 3) := by decide +kernel
theorem dX10_band_9 : decode cX10_band 9 = .ok (.ifCond .ne 9, 3) := by decide +kernel
theorem dX10_band_12 : decode cX10_band 12 = .ok (.aload_n 0, 1) := by decide +kernel
theorem dX10_band_13 : decode cX10_band 13 = .ok (.iconst 1, 1) := by decide +kernel
theorem dX10_band_14 : decode cX10_band 14 = .ok (.invokevirtual 95, 3) := by decide +kernel
theorem dX10_band_17 : decode cX10_band 17 = .ok (.ireturn, 1) := by decide +kernel
theorem dX10_band_18 : decode cX10_band 18 = .ok (.iload_n 2, 1) := by decide +kernel
theorem dX10_band_19 : decode cX10_band 19 = .ok (.iconst 0, 1) := by decide +kernel
theorem dX10_band_20 : decode cX10_band 20 = .ok (.iconst 2, 1) := by decide +kernel
theorem dX10_band_21 : decode cX10_band 21 = .ok (.invokestatic 41, 3) := by decide +kernel
theorem dX10_band_24 : decode cX10_band 24 = .ok (.ifCond .eq 19, 3) := by decide +kernel
theorem dX10_band_27 : decode cX10_band 27 = .ok (.aload_n 0, 1) := by decide +kernel
theorem dX10_band_28 : decode cX10_band 28 = .ok (.getfield 7, 3) := by decide +kernel
theorem dX10_band_31 : decode cX10_band 31 = .ok (.bipush 64, 2) := by decide +kernel
theorem dX10_band_33 : decode cX10_band 33 = .ok (.iconst 3, 1) := by decide +kernel
theorem dX10_band_34 : decode cX10_band 34 = .ok (.iload_n 1, 1) := by decide +kernel
theorem dX10_band_35 : decode cX10_band 35 = .ok (.imul, 1) := by decide +kernel
theorem dX10_band_36 : decode cX10_band 36 = .ok (.iadd, 1) := by decide +kernel
theorem dX10_band_37 : decode cX10_band 37 = .ok (.iload_n 2, 1) := by decide +kernel
theorem dX10_band_38 : decode cX10_band 38 = .ok (.iadd, 1) := by decide +kernel
theorem dX10_band_39 : decode cX10_band 39 = .ok (.iaload, 1) := by decide +kernel
theorem dX10_band_40 : decode cX10_band 40 = .ok (.goto 8, 3) := by decide +kernel
theorem dX10_band_43 : decode cX10_band 43 = .ok (.aload_n 0, 1) := by decide +kernel
theorem dX10_band_44 : decode cX10_band 44 = .ok (.iconst 2, 1) := by decide +kernel
theorem dX10_band_45 : decode cX10_band 45 = .ok (.invokevirtual 95, 3) := by decide +kernel
theorem dX10_band_48 : decode cX10_band 48 = .ok (.ireturn, 1) := by decide +kernel
theorem dX10_staged_0 : decode cX10_staged 0 = .ok (.iconst 0, 1) := by decide +kernel
theorem dX10_staged_1 : decode cX10_staged 1 = .ok (.istore_n 2, 1) := by decide +kernel
theorem dX10_staged_2 : decode cX10_staged 2 = .ok (.iconst 0, 1) := by decide +kernel
theorem dX10_staged_3 : decode cX10_staged 3 = .ok (.istore_n 3, 1) := by decide +kernel
theorem dX10_staged_4 : decode cX10_staged 4 = .ok (.iload_n 3, 1) := by decide +kernel
theorem dX10_staged_5 : decode cX10_staged 5 = .ok (.aload_n 0, 1) := by decide +kernel
theorem dX10_staged_6 : decode cX10_staged 6 = .ok (.getfield 7, 3) := by decide +kernel
theorem dX10_staged_9 : decode cX10_staged 9 = .ok (.iconst 0, 1) := by decide +kernel
theorem dX10_staged_10 : decode cX10_staged 10 = .ok (.iaload, 1) := by decide +kernel
theorem dX10_staged_11 : decode cX10_staged 11 = .ok (.if_icmp .ge 32, 3) := by decide +kernel
theorem dX10_staged_14 : decode cX10_staged 14 = .ok (.iload_n 2, 1) := by decide +kernel
theorem dX10_staged_15 : decode cX10_staged 15 = .ok (.aload_n 0, 1) := by decide +kernel
theorem dX10_staged_16 : decode cX10_staged 16 = .ok (.getfield 7, 3) := by decide +kernel
theorem dX10_staged_19 : decode cX10_staged 19 = .ok (.iload_n 3, 1) := by decide +kernel
theorem dX10_staged_20 : decode cX10_staged 20 = .ok (.invokestatic 45, 3) := by decide +kernel
theorem dX10_staged_23 : decode cX10_staged 23 = .ok (.iconst 1, 1) := by decide +kernel
theorem dX10_staged_24 : decode cX10_staged 24 = .ok (.iadd, 1) := by decide +kernel
theorem dX10_staged_25 : decode cX10_staged 25 = .ok (.iaload, 1) := by decide +kernel
theorem dX10_staged_26 : decode cX10_staged 26 = .ok (.iload_n 1, 1) := by decide +kernel
theorem dX10_staged_27 : decode cX10_staged 27 = .ok (.if_icmp .ne 7, 3) := by decide +kernel
theorem dX10_staged_30 : decode cX10_staged 30 = .ok (.iconst 1, 1) := by decide +kernel
theorem dX10_staged_31 : decode cX10_staged 31 = .ok (.goto 4, 3) := by decide +kernel
theorem dX10_staged_34 : decode cX10_staged 34 = .ok (.iconst 0, 1) := by decide +kernel
theorem dX10_staged_35 : decode cX10_staged 35 = .ok (.iadd, 1) := by decide +kernel
theorem dX10_staged_36 : decode cX10_staged 36 = .ok (.istore_n 2, 1) := by decide +kernel
theorem dX10_staged_37 : decode cX10_staged 37 = .ok (.iinc 3 1, 3) := by decide +kernel
theorem dX10_staged_40 : decode cX10_staged 40 = .ok (.goto (-36), 3) := by decide +kernel
theorem dX10_staged_43 : decode cX10_staged 43 = .ok (.iload_n 2, 1) := by decide +kernel
theorem dX10_staged_44 : decode cX10_staged 44 = .ok (.ireturn, 1) := by decide +kernel
theorem dX10_wordsAll_0 : decode cX10_wordsAll 0 = .ok (.iconst 0, 1) := by decide +kernel
theorem dX10_wordsAll_1 : decode cX10_wordsAll 1 = .ok (.istore_n 1, 1) := by decide +kernel
theorem dX10_wordsAll_2 : decode cX10_wordsAll 2 = .ok (.iconst 0, 1) := by decide +kernel
theorem dX10_wordsAll_3 : decode cX10_wordsAll 3 = .ok (.istore_n 2, 1) := by decide +kernel
theorem dX10_wordsAll_4 : decode cX10_wordsAll 4 = .ok (.iload_n 2, 1) := by decide +kernel
theorem dX10_wordsAll_5 : decode cX10_wordsAll 5 = .ok (.aload_n 0, 1) := by decide +kernel
theorem dX10_wordsAll_6 : decode cX10_wordsAll 6 = .ok (.getfield 7, 3) := by decide +kernel
theorem dX10_wordsAll_9 : decode cX10_wordsAll 9 = .ok (.iconst 0, 1) := by decide +kernel
theorem dX10_wordsAll_10 : decode cX10_wordsAll 10 = .ok (.iaload, 1) := by decide +kernel
theorem dX10_wordsAll_11 : decode cX10_wordsAll 11 = .ok (.if_icmp .ge 21, 3) := by decide +kernel
theorem dX10_wordsAll_14 : decode cX10_wordsAll 14 = .ok (.iload_n 1, 1) := by decide +kernel
theorem dX10_wordsAll_15 : decode cX10_wordsAll 15 = .ok (.aload_n 0, 1) := by decide +kernel
theorem dX10_wordsAll_16 : decode cX10_wordsAll 16 = .ok (.getfield 7, 3) := by decide +kernel
theorem dX10_wordsAll_19 : decode cX10_wordsAll 19 = .ok (.iload_n 2, 1) := by decide +kernel
theorem dX10_wordsAll_20 : decode cX10_wordsAll 20 = .ok (.invokestatic 45, 3) := by decide +kernel
theorem dX10_wordsAll_23 : decode cX10_wordsAll 23 = .ok (.iaload, 1) := by decide +kernel
theorem dX10_wordsAll_24 : decode cX10_wordsAll 24 = .ok (.iadd, 1) := by decide +kernel
theorem dX10_wordsAll_25 : decode cX10_wordsAll 25 = .ok (.istore_n 1, 1) := by decide +kernel
theorem dX10_wordsAll_26 : decode cX10_wordsAll 26 = .ok (.iinc 2 1, 3) := by decide +kernel
theorem dX10_wordsAll_29 : decode cX10_wordsAll 29 = .ok (.goto (-25), 3) := by decide +kernel
theorem dX10_wordsAll_32 : decode cX10_wordsAll 32 = .ok (.iload_n 1, 1) := by decide +kernel
theorem dX10_wordsAll_33 : decode cX10_wordsAll 33 = .ok (.ireturn, 1) := by decide +kernel
theorem dX10_ofPeople_0 : decode cX10_ofPeople 0 = .ok (.iconst 0, 1) := by decide +kernel
theorem dX10_ofPeople_1 : decode cX10_ofPeople 1 = .ok (.istore_n 2, 1) := by decide +kernel
theorem dX10_ofPeople_2 : decode cX10_ofPeople 2 = .ok (.iconst 0, 1) := by decide +kernel
theorem dX10_ofPeople_3 : decode cX10_ofPeople 3 = .ok (.istore_n 3, 1) := by decide +kernel
theorem dX10_ofPeople_4 : decode cX10_ofPeople 4 = .ok (.iload_n 3, 1) := by decide +kernel
theorem dX10_ofPeople_5 : decode cX10_ofPeople 5 = .ok (.iconst 4, 1) := by decide +kernel
theorem dX10_ofPeople_6 : decode cX10_ofPeople 6 = .ok (.if_icmp .ge 23, 3) := by decide +kernel
theorem dX10_ofPeople_9 : decode cX10_ofPeople 9 = .ok (.iload_n 2, 1) := by decide +kernel
theorem dX10_ofPeople_10 : decode cX10_ofPeople 10 = .ok (.aload_n 0, 1) := by decide +kernel
theorem dX10_ofPeople_11 : decode cX10_ofPeople 11 = .ok (.getfield 7, 3) := by decide +kernel
theorem dX10_ofPeople_14 : decode cX10_ofPeople 14 = .ok (.iload_n 3, 1) := by decide +kernel
theorem dX10_ofPeople_15 : decode cX10_ofPeople 15 = .ok (.invokestatic 101, 3) := by decide +kernel
theorem dX10_ofPeople_18 : decode cX10_ofPeople 18 = .ok (.iload_n 1, 1) := by decide +kernel
theorem dX10_ofPeople_19 : decode cX10_ofPeople 19 = .ok (.iadd, 1) := by decide +kernel
theorem dX10_ofPeople_20 : decode cX10_ofPeople 20 = .ok (.iaload, 1) := by decide +kernel
theorem dX10_ofPeople_21 : decode cX10_ofPeople 21 = .ok (.iadd, 1) := by decide +kernel
theorem dX10_ofPeople_22 : decode cX10_ofPeople 22 = .ok (.istore_n 2, 1) := by decide +kernel
theorem dX10_ofPeople_23 : decode cX10_ofPeople 23 = .ok (.iinc 3 1, 3) := by decide +kernel
theorem dX10_ofPeople_26 : decode cX10_ofPeople 26 = .ok (.goto (-22), 3) := by decide +kernel
theorem dX10_ofPeople_29 : decode cX10_ofPeople 29 = .ok (.iload_n 2, 1) := by decide +kernel
theorem dX10_ofPeople_30 : decode cX10_ofPeople 30 = .ok (.ireturn, 1) := by decide +kernel
theorem dX10_ofTerms_0 : decode cX10_ofTerms 0 = .ok (.iconst 0, 1) := by decide +kernel
theorem dX10_ofTerms_1 : decode cX10_ofTerms 1 = .ok (.istore_n 2, 1) := by decide +kernel
theorem dX10_ofTerms_2 : decode cX10_ofTerms 2 = .ok (.iconst 0, 1) := by decide +kernel
theorem dX10_ofTerms_3 : decode cX10_ofTerms 3 = .ok (.istore_n 3, 1) := by decide +kernel
theorem dX10_ofTerms_4 : decode cX10_ofTerms 4 = .ok (.iload_n 3, 1) := by decide +kernel
theorem dX10_ofTerms_5 : decode cX10_ofTerms 5 = .ok (.bipush 8, 2) := by decide +kernel
theorem dX10_ofTerms_7 : decode cX10_ofTerms 7 = .ok (.if_icmp .ge 45, 3) := by decide +kernel
theorem dX10_ofTerms_10 : decode cX10_ofTerms 10 = .ok (.iload_n 2, 1) := by decide +kernel
theorem dX10_ofTerms_11 : decode cX10_ofTerms 11 = .ok (.iload_n 1, 1) := by decide +kernel
theorem dX10_ofTerms_12 : decode cX10_ofTerms 12 = .ok (.ifCond .eq 19, 3) := by decide +kernel
theorem dX10_ofTerms_15 : decode cX10_ofTerms 15 = .ok (.aload_n 0, 1) := by decide +kernel
theorem dX10_ofTerms_16 : decode cX10_ofTerms 16 = .ok (.getfield 7, 3) := by decide +kernel
theorem dX10_ofTerms_19 : decode cX10_ofTerms 19 = .ok (.bipush 56, 2) := by decide +kernel
theorem dX10_ofTerms_21 : decode cX10_ofTerms 21 = .ok (.iload_n 3, 1) := by decide +kernel
theorem dX10_ofTerms_22 : decode cX10_ofTerms 22 = .ok (.iadd, 1) := by decide +kernel
theorem dX10_ofTerms_23 : decode cX10_ofTerms 23 = .ok (.iaload, 1) := by decide +kernel
theorem dX10_ofTerms_24 : decode cX10_ofTerms 24 = .ok (.iconst (-1), 1) := by decide +kernel
theorem dX10_ofTerms_25 : decode cX10_ofTerms 25 = .ok (.if_icmp .eq 18, 3) := by decide +kernel
theorem dX10_ofTerms_28 : decode cX10_ofTerms 28 = .ok (.goto 11, 3) := by decide +kernel
theorem dX10_ofTerms_31 : decode cX10_ofTerms 31 = .ok (.aload_n 0, 1) := by decide +kernel
theorem dX10_ofTerms_32 : decode cX10_ofTerms 32 = .ok (.iload_n 3, 1) := by decide +kernel
theorem dX10_ofTerms_33 : decode cX10_ofTerms 33 = .ok (.invokevirtual 88, 3) := by decide +kernel
theorem dX10_ofTerms_36 : decode cX10_ofTerms 36 = .ok (.ifCond .eq 7, 3) := by decide +kernel
theorem dX10_ofTerms_39 : decode cX10_ofTerms 39 = .ok (.iconst 1, 1) := by decide +kernel
theorem dX10_ofTerms_40 : decode cX10_ofTerms 40 = .ok (.goto 4, 3) := by decide +kernel
theorem dX10_ofTerms_43 : decode cX10_ofTerms 43 = .ok (.iconst 0, 1) := by decide +kernel
theorem dX10_ofTerms_44 : decode cX10_ofTerms 44 = .ok (.iadd, 1) := by decide +kernel
theorem dX10_ofTerms_45 : decode cX10_ofTerms 45 = .ok (.istore_n 2, 1) := by decide +kernel
theorem dX10_ofTerms_46 : decode cX10_ofTerms 46 = .ok (.iinc 3 1, 3) := by decide +kernel
theorem dX10_ofTerms_49 : decode cX10_ofTerms 49 = .ok (.goto (-45), 3) := by decide +kernel
theorem dX10_ofTerms_52 : decode cX10_ofTerms 52 = .ok (.iload_n 2, 1) := by decide +kernel
theorem dX10_ofTerms_53 : decode cX10_ofTerms 53 = .ok (.ireturn, 1) := by decide +kernel
theorem dX10_counted_0 : decode cX10_counted 0 = .ok (.iload_n 1, 1) := by decide +kernel
theorem dX10_counted_1 : decode cX10_counted 1 = .ok (.ifCond .le 16, 3) := by decide +kernel
theorem dX10_counted_4 : decode cX10_counted 4 = .ok (.iload_n 1, 1) := by decide +kernel
theorem dX10_counted_5 : decode cX10_counted 5 = .ok (.iconst 5, 1) := by decide +kernel
theorem dX10_counted_6 : decode cX10_counted 6 = .ok (.if_icmp .ge 11, 3) := by decide +kernel
theorem dX10_counted_9 : decode cX10_counted 9 = .ok (.aload_n 0, 1) := by decide +kernel
theorem dX10_counted_10 : decode cX10_counted 10 = .ok (.iload_n 1, 1) := by decide +kernel
theorem dX10_counted_11 : decode cX10_counted 11 = .ok (.iconst 1, 1) := by decide +kernel
theorem dX10_counted_12 : decode cX10_counted 12 = .ok (.isub, 1) := by decide +kernel
theorem dX10_counted_13 : decode cX10_counted 13 = .ok (.invokevirtual 169, 3) := by decide +kernel
theorem dX10_counted_16 : decode cX10_counted 16 = .ok (.ireturn, 1) := by decide +kernel
theorem dX10_counted_17 : decode cX10_counted 17 = .ok (.iload_n 1, 1) := by decide +kernel
theorem dX10_counted_18 : decode cX10_counted 18 = .ok (.tableswitch 105 0 10 #[58, 105, 105, 105, 105, 65, 72, 77, 83, 89, 89], 58) := by decide +kernel
theorem dX10_counted_76 : decode cX10_counted 76 = .ok (.aload_n 0, 1) := by decide +kernel
theorem dX10_counted_77 : decode cX10_counted 77 = .ok (.getfield 7, 3) := by decide +kernel
theorem dX10_counted_80 : decode cX10_counted 80 = .ok (.iconst 0, 1) := by decide +kernel
theorem dX10_counted_81 : decode cX10_counted 81 = .ok (.iaload, 1) := by decide +kernel
theorem dX10_counted_82 : decode cX10_counted 82 = .ok (.ireturn, 1) := by decide +kernel
theorem dX10_counted_83 : decode cX10_counted 83 = .ok (.aload_n 0, 1) := by decide +kernel
theorem dX10_counted_84 : decode cX10_counted 84 = .ok (.getfield 7, 3) := by decide +kernel
theorem dX10_counted_87 : decode cX10_counted 87 = .ok (.iconst 1, 1) := by decide +kernel
theorem dX10_counted_88 : decode cX10_counted 88 = .ok (.iaload, 1) := by decide +kernel
theorem dX10_counted_89 : decode cX10_counted 89 = .ok (.ireturn, 1) := by decide +kernel
theorem dX10_counted_90 : decode cX10_counted 90 = .ok (.aload_n 0, 1) := by decide +kernel
theorem dX10_counted_91 : decode cX10_counted 91 = .ok (.invokevirtual 172, 3) := by decide +kernel
theorem dX10_counted_94 : decode cX10_counted 94 = .ok (.ireturn, 1) := by decide +kernel
theorem dX10_counted_95 : decode cX10_counted 95 = .ok (.aload_n 0, 1) := by decide +kernel
theorem dX10_counted_96 : decode cX10_counted 96 = .ok (.iconst 2, 1) := by decide +kernel
theorem dX10_counted_97 : decode cX10_counted 97 = .ok (.invokevirtual 175, 3) := by decide +kernel
theorem dX10_counted_100 : decode cX10_counted 100 = .ok (.ireturn, 1) := by decide +kernel
theorem dX10_counted_101 : decode cX10_counted 101 = .ok (.aload_n 0, 1) := by decide +kernel
theorem dX10_counted_102 : decode cX10_counted 102 = .ok (.iconst 1, 1) := by decide +kernel
theorem dX10_counted_103 : decode cX10_counted 103 = .ok (.invokevirtual 175, 3) := by decide +kernel
theorem dX10_counted_106 : decode cX10_counted 106 = .ok (.ireturn, 1) := by decide +kernel
theorem dX10_counted_107 : decode cX10_counted 107 = .ok (.aload_n 0, 1) := by decide +kernel
theorem dX10_counted_108 : decode cX10_counted 108 = .ok (.iload_n 1, 1) := by decide +kernel
theorem dX10_counted_109 : decode cX10_counted 109 = .ok (.bipush 10, 2) := by decide +kernel
theorem dX10_counted_111 : decode cX10_counted 111 = .ok (.if_icmp .ne 7, 3) := by decide +kernel
theorem dX10_counted_114 : decode cX10_counted 114 = .ok (.iconst 1, 1) := by decide +kernel
theorem dX10_counted_115 : decode cX10_counted 115 = .ok (.goto 4, 3) := by decide +kernel
theorem dX10_counted_118 : decode cX10_counted 118 = .ok (.iconst 0, 1) := by decide +kernel
theorem dX10_counted_119 : decode cX10_counted 119 = .ok (.invokevirtual 178, 3) := by decide +kernel
theorem dX10_counted_122 : decode cX10_counted 122 = .ok (.ireturn, 1) := by decide +kernel
theorem dX10_counted_123 : decode cX10_counted 123 = .ok (.aload_n 0, 1) := by decide +kernel
theorem dX10_counted_124 : decode cX10_counted 124 = .ok (.getfield 38, 3) := by decide +kernel
theorem dX10_counted_127 : decode cX10_counted 127 = .ok (.ireturn, 1) := by decide +kernel
theorem dX10_count_0 : decode cX10_count 0 = .ok (.aload_n 0, 1) := by decide +kernel
theorem dX10_count_1 : decode cX10_count 1 = .ok (.iconst 0, 1) := by decide +kernel
theorem dX10_count_2 : decode cX10_count 2 = .ok (.putfield 34, 3) := by decide +kernel
theorem dX10_count_5 : decode cX10_count 5 = .ok (.iload_n 1, 1) := by decide +kernel
theorem dX10_count_6 : decode cX10_count 6 = .ok (.iconst 0, 1) := by decide +kernel
theorem dX10_count_7 : decode cX10_count 7 = .ok (.bipush 11, 2) := by decide +kernel
theorem dX10_count_9 : decode cX10_count 9 = .ok (.invokestatic 41, 3) := by decide +kernel
theorem dX10_count_12 : decode cX10_count 12 = .ok (.ifCond .eq 11, 3) := by decide +kernel
theorem dX10_count_15 : decode cX10_count 15 = .ok (.aload_n 0, 1) := by decide +kernel
theorem dX10_count_16 : decode cX10_count 16 = .ok (.iload_n 1, 1) := by decide +kernel
theorem dX10_count_17 : decode cX10_count 17 = .ok (.invokevirtual 182, 3) := by decide +kernel
theorem dX10_count_20 : decode cX10_count 20 = .ok (.goto 8, 3) := by decide +kernel
theorem dX10_count_23 : decode cX10_count 23 = .ok (.aload_n 0, 1) := by decide +kernel
theorem dX10_count_24 : decode cX10_count 24 = .ok (.iconst 1, 1) := by decide +kernel
theorem dX10_count_25 : decode cX10_count 25 = .ok (.invokevirtual 95, 3) := by decide +kernel
theorem dX10_count_28 : decode cX10_count 28 = .ok (.ireturn, 1) := by decide +kernel
theorem dX10_setting_0 : decode cX10_setting 0 = .ok (.aload_n 0, 1) := by decide +kernel
theorem dX10_setting_1 : decode cX10_setting 1 = .ok (.iconst 0, 1) := by decide +kernel
theorem dX10_setting_2 : decode cX10_setting 2 = .ok (.putfield 34, 3) := by decide +kernel
theorem dX10_setting_5 : decode cX10_setting 5 = .ok (.iload_n 1, 1) := by decide +kernel
theorem dX10_setting_6 : decode cX10_setting 6 = .ok (.iconst 0, 1) := by decide +kernel
theorem dX10_setting_7 : decode cX10_setting 7 = .ok (.iconst 1, 1) := by decide +kernel
theorem dX10_setting_8 : decode cX10_setting 8 = .ok (.invokestatic 41, 3) := by decide +kernel
theorem dX10_setting_11 : decode cX10_setting 11 = .ok (.ifCond .eq 14, 3) := by decide +kernel
theorem dX10_setting_14 : decode cX10_setting 14 = .ok (.aload_n 0, 1) := by decide +kernel
theorem dX10_setting_15 : decode cX10_setting 15 = .ok (.getfield 7, 3) := by decide +kernel
theorem dX10_setting_18 : decode cX10_setting 18 = .ok (.iconst 2, 1) := by decide +kernel
theorem dX10_setting_19 : decode cX10_setting 19 = .ok (.iload_n 1, 1) := by decide +kernel
theorem dX10_setting_20 : decode cX10_setting 20 = .ok (.iadd, 1) := by decide +kernel
theorem dX10_setting_21 : decode cX10_setting 21 = .ok (.iaload, 1) := by decide +kernel
theorem dX10_setting_22 : decode cX10_setting 22 = .ok (.goto 8, 3) := by decide +kernel
theorem dX10_setting_25 : decode cX10_setting 25 = .ok (.aload_n 0, 1) := by decide +kernel
theorem dX10_setting_26 : decode cX10_setting 26 = .ok (.iconst 1, 1) := by decide +kernel
theorem dX10_setting_27 : decode cX10_setting 27 = .ok (.invokevirtual 95, 3) := by decide +kernel
theorem dX10_setting_30 : decode cX10_setting 30 = .ok (.ireturn, 1) := by decide +kernel
theorem dX10_nearOf_0 : decode cX10_nearOf 0 = .ok (.aload_n 0, 1) := by decide +kernel
theorem dX10_nearOf_1 : decode cX10_nearOf 1 = .ok (.iload_n 1, 1) := by decide +kernel
theorem dX10_nearOf_2 : decode cX10_nearOf 2 = .ok (.invokevirtual 62, 3) := by decide +kernel
theorem dX10_nearOf_5 : decode cX10_nearOf 5 = .ok (.aload_n 0, 1) := by decide +kernel
theorem dX10_nearOf_6 : decode cX10_nearOf 6 = .ok (.iload_n 2, 1) := by decide +kernel
theorem dX10_nearOf_7 : decode cX10_nearOf 7 = .ok (.invokevirtual 66, 3) := by decide +kernel
theorem dX10_nearOf_10 : decode cX10_nearOf 10 = .ok (.aload_n 0, 1) := by decide +kernel
theorem dX10_nearOf_11 : decode cX10_nearOf 11 = .ok (.invokevirtual 58, 3) := by decide +kernel
theorem dX10_nearOf_14 : decode cX10_nearOf 14 = .ok (.istore 4, 2) := by decide +kernel
theorem dX10_nearOf_16 : decode cX10_nearOf 16 = .ok (.iload_n 3, 1) := by decide +kernel
theorem dX10_nearOf_17 : decode cX10_nearOf 17 = .ok (.iconst 2, 1) := by decide +kernel
theorem dX10_nearOf_18 : decode cX10_nearOf 18 = .ok (.if_icmp .ge 30, 3) := by decide +kernel
theorem dX10_nearOf_21 : decode cX10_nearOf 21 = .ok (.iload_n 3, 1) := by decide +kernel
theorem dX10_nearOf_22 : decode cX10_nearOf 22 = .ok (.iconst 1, 1) := by decide +kernel
theorem dX10_nearOf_23 : decode cX10_nearOf 23 = .ok (.if_icmp .ne 8, 3) := by decide +kernel
theorem dX10_nearOf_26 : decode cX10_nearOf 26 = .ok (.iload 4, 2) := by decide +kernel
theorem dX10_nearOf_28 : decode cX10_nearOf 28 = .ok (.goto 19, 3) := by decide +kernel
theorem dX10_nearOf_31 : decode cX10_nearOf 31 = .ok (.sipush 200, 3) := by decide +kernel
theorem dX10_nearOf_34 : decode cX10_nearOf 34 = .ok (.iload 4, 2) := by decide +kernel
theorem dX10_nearOf_36 : decode cX10_nearOf 36 = .ok (.imul, 1) := by decide +kernel
theorem dX10_nearOf_37 : decode cX10_nearOf 37 = .ok (.aload_n 0, 1) := by decide +kernel
theorem dX10_nearOf_38 : decode cX10_nearOf 38 = .ok (.getfield 49, 3) := by decide +kernel
theorem dX10_nearOf_41 : decode cX10_nearOf 41 = .ok (.aload_n 0, 1) := by decide +kernel
theorem dX10_nearOf_42 : decode cX10_nearOf 42 = .ok (.getfield 52, 3) := by decide +kernel
theorem dX10_nearOf_45 : decode cX10_nearOf 45 = .ok (.iadd, 1) := by decide +kernel
theorem dX10_nearOf_46 : decode cX10_nearOf 46 = .ok (.idiv, 1) := by decide +kernel
theorem dX10_nearOf_47 : decode cX10_nearOf 47 = .ok (.ireturn, 1) := by decide +kernel
theorem dX10_nearOf_48 : decode cX10_nearOf 48 = .ok (.iconst 2, 1) := by decide +kernel
theorem dX10_nearOf_49 : decode cX10_nearOf 49 = .ok (.iload 4, 2) := by decide +kernel
theorem dX10_nearOf_51 : decode cX10_nearOf 51 = .ok (.imul, 1) := by decide +kernel
theorem dX10_nearOf_52 : decode cX10_nearOf 52 = .ok (.i2f, 1) := by decide +kernel
theorem dX10_nearOf_53 : decode cX10_nearOf 53 = .ok (.aload_n 0, 1) := by decide +kernel
theorem dX10_nearOf_54 : decode cX10_nearOf 54 = .ok (.getfield 49, 3) := by decide +kernel
theorem dX10_nearOf_57 : decode cX10_nearOf 57 = .ok (.aload_n 0, 1) := by decide +kernel
theorem dX10_nearOf_58 : decode cX10_nearOf 58 = .ok (.getfield 52, 3) := by decide +kernel
theorem dX10_nearOf_61 : decode cX10_nearOf 61 = .ok (.iadd, 1) := by decide +kernel
theorem dX10_nearOf_62 : decode cX10_nearOf 62 = .ok (.i2f, 1) := by decide +kernel
theorem dX10_nearOf_63 : decode cX10_nearOf 63 = .ok (.fdiv, 1) := by decide +kernel
theorem dX10_nearOf_64 : decode cX10_nearOf 64 = .ok (.invokestatic 185, 3) := by decide +kernel
theorem dX10_nearOf_67 : decode cX10_nearOf 67 = .ok (.ireturn, 1) := by decide +kernel
theorem dX10_near_0 : decode cX10_near 0 = .ok (.aload_n 0, 1) := by decide +kernel
theorem dX10_near_1 : decode cX10_near 1 = .ok (.iconst 0, 1) := by decide +kernel
theorem dX10_near_2 : decode cX10_near 2 = .ok (.putfield 34, 3) := by decide +kernel
theorem dX10_near_5 : decode cX10_near 5 = .ok (.aload_n 0, 1) := by decide +kernel
theorem dX10_near_6 : decode cX10_near 6 = .ok (.iload_n 1, 1) := by decide +kernel
theorem dX10_near_7 : decode cX10_near 7 = .ok (.invokevirtual 107, 3) := by decide +kernel
theorem dX10_near_10 : decode cX10_near 10 = .ok (.ifCond .eq 19, 3) := by decide +kernel
theorem dX10_near_13 : decode cX10_near 13 = .ok (.iload_n 2, 1) := by decide +kernel
theorem dX10_near_14 : decode cX10_near 14 = .ok (.iconst 0, 1) := by decide +kernel
theorem dX10_near_15 : decode cX10_near 15 = .ok (.aload_n 0, 1) := by decide +kernel
theorem dX10_near_16 : decode cX10_near 16 = .ok (.getfield 7, 3) := by decide +kernel
theorem dX10_near_19 : decode cX10_near 19 = .ok (.iconst 1, 1) := by decide +kernel
theorem dX10_near_20 : decode cX10_near 20 = .ok (.iaload, 1) := by decide +kernel
theorem dX10_near_21 : decode cX10_near 21 = .ok (.iconst 1, 1) := by decide +kernel
theorem dX10_near_22 : decode cX10_near 22 = .ok (.isub, 1) := by decide +kernel
theorem dX10_near_23 : decode cX10_near 23 = .ok (.invokestatic 41, 3) := by decide +kernel
theorem dX10_near_26 : decode cX10_near 26 = .ok (.ifCond .ne 9, 3) := by decide +kernel
theorem dX10_near_29 : decode cX10_near 29 = .ok (.aload_n 0, 1) := by decide +kernel
theorem dX10_near_30 : decode cX10_near 30 = .ok (.iconst 1, 1) := by decide +kernel
theorem dX10_near_31 : decode cX10_near 31 = .ok (.invokevirtual 95, 3) := by decide +kernel
theorem dX10_near_34 : decode cX10_near 34 = .ok (.ireturn, 1) := by decide +kernel
theorem dX10_near_35 : decode cX10_near 35 = .ok (.iload_n 3, 1) := by decide +kernel
theorem dX10_near_36 : decode cX10_near 36 = .ok (.iconst 0, 1) := by decide +kernel
theorem dX10_near_37 : decode cX10_near 37 = .ok (.iconst 2, 1) := by decide +kernel
theorem dX10_near_38 : decode cX10_near 38 = .ok (.invokestatic 41, 3) := by decide +kernel
theorem dX10_near_41 : decode cX10_near 41 = .ok (.ifCond .eq 13, 3) := by decide +kernel
theorem dX10_near_44 : decode cX10_near 44 = .ok (.aload_n 0, 1) := by decide +kernel
theorem dX10_near_45 : decode cX10_near 45 = .ok (.iload_n 1, 1) := by decide +kernel
theorem dX10_near_46 : decode cX10_near 46 = .ok (.iload_n 2, 1) := by decide +kernel
theorem dX10_near_47 : decode cX10_near 47 = .ok (.iload_n 3, 1) := by decide +kernel
theorem dX10_near_48 : decode cX10_near 48 = .ok (.invokevirtual 191, 3) := by decide +kernel
theorem dX10_near_51 : decode cX10_near 51 = .ok (.goto 8, 3) := by decide +kernel
theorem dX10_near_54 : decode cX10_near 54 = .ok (.aload_n 0, 1) := by decide +kernel
theorem dX10_near_55 : decode cX10_near 55 = .ok (.iconst 2, 1) := by decide +kernel
theorem dX10_near_56 : decode cX10_near 56 = .ok (.invokevirtual 95, 3) := by decide +kernel
theorem dX10_near_59 : decode cX10_near 59 = .ok (.ireturn, 1) := by decide +kernel
theorem dX10_firstOne_0 : decode cX10_firstOne 0 = .ok (.iload_n 2, 1) := by decide +kernel
theorem dX10_firstOne_1 : decode cX10_firstOne 1 = .ok (.istore_n 3, 1) := by decide +kernel
theorem dX10_firstOne_2 : decode cX10_firstOne 2 = .ok (.iload_n 3, 1) := by decide +kernel
theorem dX10_firstOne_3 : decode cX10_firstOne 3 = .ok (.aload_n 0, 1) := by decide +kernel
theorem dX10_firstOne_4 : decode cX10_firstOne 4 = .ok (.getfield 49, 3) := by decide +kernel
theorem dX10_firstOne_7 : decode cX10_firstOne 7 = .ok (.if_icmp .ge 19, 3) := by decide +kernel
theorem dX10_firstOne_10 : decode cX10_firstOne 10 = .ok (.aload_n 0, 1) := by decide +kernel
theorem dX10_firstOne_11 : decode cX10_firstOne 11 = .ok (.getfield 22, 3) := by decide +kernel
theorem dX10_firstOne_14 : decode cX10_firstOne 14 = .ok (.iload_n 3, 1) := by decide +kernel
theorem dX10_firstOne_15 : decode cX10_firstOne 15 = .ok (.iaload, 1) := by decide +kernel
theorem dX10_firstOne_16 : decode cX10_firstOne 16 = .ok (.iload_n 1, 1) := by decide +kernel
theorem dX10_firstOne_17 : decode cX10_firstOne 17 = .ok (.if_icmp .eq 9, 3) := by decide +kernel
theorem dX10_firstOne_20 : decode cX10_firstOne 20 = .ok (.iinc 3 1, 3) := by decide +kernel
theorem dX10_firstOne_23 : decode cX10_firstOne 23 = .ok (.goto (-21), 3) := by decide +kernel
theorem dX10_firstOne_26 : decode cX10_firstOne 26 = .ok (.iload_n 3, 1) := by decide +kernel
theorem dX10_firstOne_27 : decode cX10_firstOne 27 = .ok (.ireturn, 1) := by decide +kernel
theorem dX10_firstOther_0 : decode cX10_firstOther 0 = .ok (.iload_n 2, 1) := by decide +kernel
theorem dX10_firstOther_1 : decode cX10_firstOther 1 = .ok (.istore_n 3, 1) := by decide +kernel
theorem dX10_firstOther_2 : decode cX10_firstOther 2 = .ok (.iload_n 3, 1) := by decide +kernel
theorem dX10_firstOther_3 : decode cX10_firstOther 3 = .ok (.aload_n 0, 1) := by decide +kernel
theorem dX10_firstOther_4 : decode cX10_firstOther 4 = .ok (.getfield 52, 3) := by decide +kernel
theorem dX10_firstOther_7 : decode cX10_firstOther 7 = .ok (.if_icmp .ge 19, 3) := by decide +kernel
theorem dX10_firstOther_10 : decode cX10_firstOther 10 = .ok (.aload_n 0, 1) := by decide +kernel
theorem dX10_firstOther_11 : decode cX10_firstOther 11 = .ok (.getfield 25, 3) := by decide +kernel
theorem dX10_firstOther_14 : decode cX10_firstOther 14 = .ok (.iload_n 3, 1) := by decide +kernel
theorem dX10_firstOther_15 : decode cX10_firstOther 15 = .ok (.iaload, 1) := by decide +kernel
theorem dX10_firstOther_16 : decode cX10_firstOther 16 = .ok (.iload_n 1, 1) := by decide +kernel
theorem dX10_firstOther_17 : decode cX10_firstOther 17 = .ok (.if_icmp .eq 9, 3) := by decide +kernel
theorem dX10_firstOther_20 : decode cX10_firstOther 20 = .ok (.iinc 3 1, 3) := by decide +kernel
theorem dX10_firstOther_23 : decode cX10_firstOther 23 = .ok (.goto (-21), 3) := by decide +kernel
theorem dX10_firstOther_26 : decode cX10_firstOther 26 = .ok (.iload_n 3, 1) := by decide +kernel
theorem dX10_firstOther_27 : decode cX10_firstOther 27 = .ok (.ireturn, 1) := by decide +kernel
theorem dX10_commonOf_0 : decode cX10_commonOf 0 = .ok (.aload_n 0, 1) := by decide +kernel
theorem dX10_commonOf_1 : decode cX10_commonOf 1 = .ok (.iload_n 1, 1) := by decide +kernel
theorem dX10_commonOf_2 : decode cX10_commonOf 2 = .ok (.invokevirtual 62, 3) := by decide +kernel
theorem dX10_commonOf_5 : decode cX10_commonOf 5 = .ok (.aload_n 0, 1) := by decide +kernel
theorem dX10_commonOf_6 : decode cX10_commonOf 6 = .ok (.iload_n 2, 1) := by decide +kernel
theorem dX10_commonOf_7 : decode cX10_commonOf 7 = .ok (.invokevirtual 195, 3) := by decide +kernel
theorem dX10_commonOf_10 : decode cX10_commonOf 10 = .ok (.aload_n 0, 1) := by decide +kernel
theorem dX10_commonOf_11 : decode cX10_commonOf 11 = .ok (.invokevirtual 58, 3) := by decide +kernel
theorem dX10_commonOf_14 : decode cX10_commonOf 14 = .ok (.istore 4, 2) := by decide +kernel
theorem dX10_commonOf_16 : decode cX10_commonOf 16 = .ok (.iload_n 3, 1) := by decide +kernel
theorem dX10_commonOf_17 : decode cX10_commonOf 17 = .ok (.iload 4, 2) := by decide +kernel
theorem dX10_commonOf_19 : decode cX10_commonOf 19 = .ok (.if_icmp .lt 5, 3) := by decide +kernel
theorem dX10_commonOf_22 : decode cX10_commonOf 22 = .ok (.iconst (-1), 1) := by decide +kernel
theorem dX10_commonOf_23 : decode cX10_commonOf 23 = .ok (.ireturn, 1) := by decide +kernel
theorem dX10_commonOf_24 : decode cX10_commonOf 24 = .ok (.iconst 0, 1) := by decide +kernel
theorem dX10_commonOf_25 : decode cX10_commonOf 25 = .ok (.istore 5, 2) := by decide +kernel
theorem dX10_commonOf_27 : decode cX10_commonOf 27 = .ok (.iconst 0, 1) := by decide +kernel
theorem dX10_commonOf_28 : decode cX10_commonOf 28 = .ok (.istore 6, 2) := by decide +kernel
theorem dX10_commonOf_30 : decode cX10_commonOf 30 = .ok (.iconst (-1), 1) := by decide +kernel
theorem dX10_commonOf_31 : decode cX10_commonOf 31 = .ok (.istore 7, 2) := by decide +kernel
theorem dX10_commonOf_33 : decode cX10_commonOf 33 = .ok (.iconst 0, 1) := by decide +kernel
theorem dX10_commonOf_34 : decode cX10_commonOf 34 = .ok (.istore 8, 2) := by decide +kernel
theorem dX10_commonOf_36 : decode cX10_commonOf 36 = .ok (.iload 8, 2) := by decide +kernel
theorem dX10_commonOf_38 : decode cX10_commonOf 38 = .ok (.iload_n 3, 1) := by decide +kernel
theorem dX10_commonOf_39 : decode cX10_commonOf 39 = .ok (.if_icmp .gt 122, 3) := by decide +kernel
theorem dX10_commonOf_42 : decode cX10_commonOf 42 = .ok (.iconst (-1), 1) := by decide +kernel
theorem dX10_commonOf_43 : decode cX10_commonOf 43 = .ok (.istore 7, 2) := by decide +kernel
theorem dX10_commonOf_45 : decode cX10_commonOf 45 = .ok (.iconst 0, 1) := by decide +kernel
theorem dX10_commonOf_46 : decode cX10_commonOf 46 = .ok (.istore 9, 2) := by decide +kernel
theorem dX10_commonOf_48 : decode cX10_commonOf 48 = .ok (.iload 9, 2) := by decide +kernel
theorem dX10_commonOf_50 : decode cX10_commonOf 50 = .ok (.ifCond .ne 78, 3) := by decide +kernel
theorem dX10_commonOf_53 : decode cX10_commonOf 53 = .ok (.iinc 7 1, 3) := by decide +kernel
theorem dX10_commonOf_56 : decode cX10_commonOf 56 = .ok (.aload_n 0, 1) := by decide +kernel
theorem dX10_commonOf_57 : decode cX10_commonOf 57 = .ok (.iload 7, 2) := by decide +kernel
theorem dX10_commonOf_59 : decode cX10_commonOf 59 = .ok (.iload 5, 2) := by decide +kernel
theorem dX10_commonOf_61 : decode cX10_commonOf 61 = .ok (.invokevirtual 198, 3) := by decide +kernel
theorem dX10_commonOf_64 : decode cX10_commonOf 64 = .ok (.istore 10, 2) := by decide +kernel
theorem dX10_commonOf_66 : decode cX10_commonOf 66 = .ok (.aload_n 0, 1) := by decide +kernel
theorem dX10_commonOf_67 : decode cX10_commonOf 67 = .ok (.iload 7, 2) := by decide +kernel
theorem dX10_commonOf_69 : decode cX10_commonOf 69 = .ok (.iload 6, 2) := by decide +kernel
theorem dX10_commonOf_71 : decode cX10_commonOf 71 = .ok (.invokevirtual 201, 3) := by decide +kernel
theorem dX10_commonOf_74 : decode cX10_commonOf 74 = .ok (.istore 11, 2) := by decide +kernel
theorem dX10_commonOf_76 : decode cX10_commonOf 76 = .ok (.iload 10, 2) := by decide +kernel
theorem dX10_commonOf_78 : decode cX10_commonOf 78 = .ok (.aload_n 0, 1) := by decide +kernel
theorem dX10_commonOf_79 : decode cX10_commonOf 79 = .ok (.getfield 49, 3) := by decide +kernel
theorem dX10_commonOf_82 : decode cX10_commonOf 82 = .ok (.if_icmp .ge 40, 3) := by decide +kernel
theorem dX10_commonOf_85 : decode cX10_commonOf 85 = .ok (.iload 11, 2) := by decide +kernel
theorem dX10_commonOf_87 : decode cX10_commonOf 87 = .ok (.aload_n 0, 1) := by decide +kernel
theorem dX10_commonOf_88 : decode cX10_commonOf 88 = .ok (.getfield 52, 3) := by decide +kernel
theorem dX10_commonOf_91 : decode cX10_commonOf 91 = .ok (.if_icmp .ge 31, 3) := by decide +kernel
theorem dX10_commonOf_94 : decode cX10_commonOf 94 = .ok (.aload_n 0, 1) := by decide +kernel
theorem dX10_commonOf_95 : decode cX10_commonOf 95 = .ok (.getfield 28, 3) := by decide +kernel
theorem dX10_commonOf_98 : decode cX10_commonOf 98 = .ok (.bipush 13, 2) := by decide +kernel
theorem dX10_commonOf_100 : decode cX10_commonOf 100 = .ok (.iload 10, 2) := by decide +kernel
theorem dX10_commonOf_102 : decode cX10_commonOf 102 = .ok (.iconst 1, 1) := by decide +kernel
theorem dX10_commonOf_103 : decode cX10_commonOf 103 = .ok (.iadd, 1) := by decide +kernel
theorem dX10_commonOf_104 : decode cX10_commonOf 104 = .ok (.imul, 1) := by decide +kernel
theorem dX10_commonOf_105 : decode cX10_commonOf 105 = .ok (.iload 11, 2) := by decide +kernel
theorem dX10_commonOf_107 : decode cX10_commonOf 107 = .ok (.iadd, 1) := by decide +kernel
theorem dX10_commonOf_108 : decode cX10_commonOf 108 = .ok (.iconst 1, 1) := by decide +kernel
theorem dX10_commonOf_109 : decode cX10_commonOf 109 = .ok (.iadd, 1) := by decide +kernel
theorem dX10_commonOf_110 : decode cX10_commonOf 110 = .ok (.iaload, 1) := by decide +kernel
theorem dX10_commonOf_111 : decode cX10_commonOf 111 = .ok (.iload 4, 2) := by decide +kernel
theorem dX10_commonOf_113 : decode cX10_commonOf 113 = .ok (.iconst 1, 1) := by decide +kernel
theorem dX10_commonOf_114 : decode cX10_commonOf 114 = .ok (.isub, 1) := by decide +kernel
theorem dX10_commonOf_115 : decode cX10_commonOf 115 = .ok (.if_icmp .ne 7, 3) := by decide +kernel
theorem dX10_commonOf_118 : decode cX10_commonOf 118 = .ok (.iconst 1, 1) := by decide +kernel
theorem dX10_commonOf_119 : decode cX10_commonOf 119 = .ok (.goto 4, 3) := by decide +kernel
theorem dX10_commonOf_122 : decode cX10_commonOf 122 = .ok (.iconst 0, 1) := by decide +kernel
theorem dX10_commonOf_123 : decode cX10_commonOf 123 = .ok (.istore 9, 2) := by decide +kernel
theorem dX10_commonOf_125 : decode cX10_commonOf 125 = .ok (.goto (-77), 3) := by decide +kernel
theorem dX10_commonOf_128 : decode cX10_commonOf 128 = .ok (.aload_n 0, 1) := by decide +kernel
theorem dX10_commonOf_129 : decode cX10_commonOf 129 = .ok (.iload 7, 2) := by decide +kernel
theorem dX10_commonOf_131 : decode cX10_commonOf 131 = .ok (.iload 5, 2) := by decide +kernel
theorem dX10_commonOf_133 : decode cX10_commonOf 133 = .ok (.invokevirtual 198, 3) := by decide +kernel
theorem dX10_commonOf_136 : decode cX10_commonOf 136 = .ok (.iconst 1, 1) := by decide +kernel
theorem dX10_commonOf_137 : decode cX10_commonOf 137 = .ok (.iadd, 1) := by decide +kernel
theorem dX10_commonOf_138 : decode cX10_commonOf 138 = .ok (.istore 5, 2) := by decide +kernel
theorem dX10_commonOf_140 : decode cX10_commonOf 140 = .ok (.aload_n 0, 1) := by decide +kernel
theorem dX10_commonOf_141 : decode cX10_commonOf 141 = .ok (.iload 7, 2) := by decide +kernel
theorem dX10_commonOf_143 : decode cX10_commonOf 143 = .ok (.iload 6, 2) := by decide +kernel
theorem dX10_commonOf_145 : decode cX10_commonOf 145 = .ok (.invokevirtual 201, 3) := by decide +kernel
theorem dX10_commonOf_148 : decode cX10_commonOf 148 = .ok (.iconst 1, 1) := by decide +kernel
theorem dX10_commonOf_149 : decode cX10_commonOf 149 = .ok (.iadd, 1) := by decide +kernel
theorem dX10_commonOf_150 : decode cX10_commonOf 150 = .ok (.istore 6, 2) := by decide +kernel
theorem dX10_commonOf_152 : decode cX10_commonOf 152 = .ok (.iinc 4 (-1), 3) := by decide +kernel
theorem dX10_commonOf_155 : decode cX10_commonOf 155 = .ok (.iinc 8 1, 3) := by decide +kernel
theorem dX10_commonOf_158 : decode cX10_commonOf 158 = .ok (.goto (-122), 3) := by decide +kernel
theorem dX10_commonOf_161 : decode cX10_commonOf 161 = .ok (.iload 7, 2) := by decide +kernel
theorem dX10_commonOf_163 : decode cX10_commonOf 163 = .ok (.ireturn, 1) := by decide +kernel
theorem dX10_common_0 : decode cX10_common 0 = .ok (.aload_n 0, 1) := by decide +kernel
theorem dX10_common_1 : decode cX10_common 1 = .ok (.iconst 0, 1) := by decide +kernel
theorem dX10_common_2 : decode cX10_common 2 = .ok (.putfield 34, 3) := by decide +kernel
theorem dX10_common_5 : decode cX10_common 5 = .ok (.aload_n 0, 1) := by decide +kernel
theorem dX10_common_6 : decode cX10_common 6 = .ok (.iload_n 1, 1) := by decide +kernel
theorem dX10_common_7 : decode cX10_common 7 = .ok (.invokevirtual 107, 3) := by decide +kernel
theorem dX10_common_10 : decode cX10_common 10 = .ok (.ifCond .eq 11, 3) := by decide +kernel
theorem dX10_common_13 : decode cX10_common 13 = .ok (.aload_n 0, 1) := by decide +kernel
theorem dX10_common_14 : decode cX10_common 14 = .ok (.iload_n 2, 1) := by decide +kernel
theorem dX10_common_15 : decode cX10_common 15 = .ok (.invokevirtual 107, 3) := by decide +kernel
theorem dX10_common_18 : decode cX10_common 18 = .ok (.ifCond .ne 9, 3) := by decide +kernel
theorem dX10_common_21 : decode cX10_common 21 = .ok (.aload_n 0, 1) := by decide +kernel
theorem dX10_common_22 : decode cX10_common 22 = .ok (.iconst 1, 1) := by decide +kernel
theorem dX10_common_23 : decode cX10_common 23 = .ok (.invokevirtual 95, 3) := by decide +kernel
theorem dX10_common_26 : decode cX10_common 26 = .ok (.ireturn, 1) := by decide +kernel
theorem dX10_common_27 : decode cX10_common 27 = .ok (.iload_n 3, 1) := by decide +kernel
theorem dX10_common_28 : decode cX10_common 28 = .ok (.iconst 0, 1) := by decide +kernel
theorem dX10_common_29 : decode cX10_common 29 = .ok (.bipush 11, 2) := by decide +kernel
theorem dX10_common_31 : decode cX10_common 31 = .ok (.invokestatic 41, 3) := by decide +kernel
theorem dX10_common_34 : decode cX10_common 34 = .ok (.ifCond .eq 13, 3) := by decide +kernel
theorem dX10_common_37 : decode cX10_common 37 = .ok (.aload_n 0, 1) := by decide +kernel
theorem dX10_common_38 : decode cX10_common 38 = .ok (.iload_n 1, 1) := by decide +kernel
theorem dX10_common_39 : decode cX10_common 39 = .ok (.iload_n 2, 1) := by decide +kernel
theorem dX10_common_40 : decode cX10_common 40 = .ok (.iload_n 3, 1) := by decide +kernel
theorem dX10_common_41 : decode cX10_common 41 = .ok (.invokevirtual 204, 3) := by decide +kernel
theorem dX10_common_44 : decode cX10_common 44 = .ok (.goto 8, 3) := by decide +kernel
theorem dX10_common_47 : decode cX10_common 47 = .ok (.aload_n 0, 1) := by decide +kernel
theorem dX10_common_48 : decode cX10_common 48 = .ok (.iconst 2, 1) := by decide +kernel
theorem dX10_common_49 : decode cX10_common 49 = .ok (.invokevirtual 95, 3) := by decide +kernel
theorem dX10_common_52 : decode cX10_common 52 = .ok (.ireturn, 1) := by decide +kernel
theorem dX10_paidOf_0 : decode cX10_paidOf 0 = .ok (.aload_n 0, 1) := by decide +kernel
theorem dX10_paidOf_1 : decode cX10_paidOf 1 = .ok (.getfield 7, 3) := by decide +kernel
theorem dX10_paidOf_4 : decode cX10_paidOf 4 = .ok (.iload_n 1, 1) := by decide +kernel
theorem dX10_paidOf_5 : decode cX10_paidOf 5 = .ok (.invokestatic 45, 3) := by decide +kernel
theorem dX10_paidOf_8 : decode cX10_paidOf 8 = .ok (.iconst 1, 1) := by decide +kernel
theorem dX10_paidOf_9 : decode cX10_paidOf 9 = .ok (.iadd, 1) := by decide +kernel
theorem dX10_paidOf_10 : decode cX10_paidOf 10 = .ok (.iaload, 1) := by decide +kernel
theorem dX10_paidOf_11 : decode cX10_paidOf 11 = .ok (.ifCond .ne 11, 3) := by decide +kernel
theorem dX10_paidOf_14 : decode cX10_paidOf 14 = .ok (.aload_n 0, 1) := by decide +kernel
theorem dX10_paidOf_15 : decode cX10_paidOf 15 = .ok (.iload_n 1, 1) := by decide +kernel
theorem dX10_paidOf_16 : decode cX10_paidOf 16 = .ok (.invokevirtual 207, 3) := by decide +kernel
theorem dX10_paidOf_19 : decode cX10_paidOf 19 = .ok (.goto 14, 3) := by decide +kernel
theorem dX10_paidOf_22 : decode cX10_paidOf 22 = .ok (.aload_n 0, 1) := by decide +kernel
theorem dX10_paidOf_23 : decode cX10_paidOf 23 = .ok (.getfield 7, 3) := by decide +kernel
theorem dX10_paidOf_26 : decode cX10_paidOf 26 = .ok (.iload_n 1, 1) := by decide +kernel
theorem dX10_paidOf_27 : decode cX10_paidOf 27 = .ok (.invokestatic 45, 3) := by decide +kernel
theorem dX10_paidOf_30 : decode cX10_paidOf 30 = .ok (.iconst 4, 1) := by decide +kernel
theorem dX10_paidOf_31 : decode cX10_paidOf 31 = .ok (.iadd, 1) := by decide +kernel
theorem dX10_paidOf_32 : decode cX10_paidOf 32 = .ok (.iaload, 1) := by decide +kernel
theorem dX10_paidOf_33 : decode cX10_paidOf 33 = .ok (.istore_n 3, 1) := by decide +kernel
theorem dX10_paidOf_34 : decode cX10_paidOf 34 = .ok (.aload_n 0, 1) := by decide +kernel
theorem dX10_paidOf_35 : decode cX10_paidOf 35 = .ok (.getfield 7, 3) := by decide +kernel
theorem dX10_paidOf_38 : decode cX10_paidOf 38 = .ok (.iload_n 1, 1) := by decide +kernel
theorem dX10_paidOf_39 : decode cX10_paidOf 39 = .ok (.invokestatic 45, 3) := by decide +kernel
theorem dX10_paidOf_42 : decode cX10_paidOf 42 = .ok (.iaload, 1) := by decide +kernel
theorem dX10_paidOf_43 : decode cX10_paidOf 43 = .ok (.aload_n 0, 1) := by decide +kernel
theorem dX10_paidOf_44 : decode cX10_paidOf 44 = .ok (.getfield 7, 3) := by decide +kernel
theorem dX10_paidOf_47 : decode cX10_paidOf 47 = .ok (.iload_n 2, 1) := by decide +kernel
theorem dX10_paidOf_48 : decode cX10_paidOf 48 = .ok (.invokestatic 101, 3) := by decide +kernel
theorem dX10_paidOf_51 : decode cX10_paidOf 51 = .ok (.iaload, 1) := by decide +kernel
theorem dX10_paidOf_52 : decode cX10_paidOf 52 = .ok (.imul, 1) := by decide +kernel
theorem dX10_paidOf_53 : decode cX10_paidOf 53 = .ok (.iload_n 3, 1) := by decide +kernel
theorem dX10_paidOf_54 : decode cX10_paidOf 54 = .ok (.imul, 1) := by decide +kernel
theorem dX10_paidOf_55 : decode cX10_paidOf 55 = .ok (.bipush 100, 2) := by decide +kernel
theorem dX10_paidOf_57 : decode cX10_paidOf 57 = .ok (.idiv, 1) := by decide +kernel
theorem dX10_paidOf_58 : decode cX10_paidOf 58 = .ok (.ireturn, 1) := by decide +kernel
theorem dX10_ifPaid_0 : decode cX10_ifPaid 0 = .ok (.aload_n 0, 1) := by decide +kernel
theorem dX10_ifPaid_1 : decode cX10_ifPaid 1 = .ok (.iconst 0, 1) := by decide +kernel
theorem dX10_ifPaid_2 : decode cX10_ifPaid 2 = .ok (.putfield 34, 3) := by decide +kernel
theorem dX10_ifPaid_5 : decode cX10_ifPaid 5 = .ok (.aload_n 0, 1) := by decide +kernel
theorem dX10_ifPaid_6 : decode cX10_ifPaid 6 = .ok (.iload_n 1, 1) := by decide +kernel
theorem dX10_ifPaid_7 : decode cX10_ifPaid 7 = .ok (.invokevirtual 107, 3) := by decide +kernel
theorem dX10_ifPaid_10 : decode cX10_ifPaid 10 = .ok (.ifCond .eq 19, 3) := by decide +kernel
theorem dX10_ifPaid_13 : decode cX10_ifPaid 13 = .ok (.iload_n 2, 1) := by decide +kernel
theorem dX10_ifPaid_14 : decode cX10_ifPaid 14 = .ok (.invokestatic 92, 3) := by decide +kernel
theorem dX10_ifPaid_17 : decode cX10_ifPaid 17 = .ok (.ifCond .eq 12, 3) := by decide +kernel
theorem dX10_ifPaid_20 : decode cX10_ifPaid 20 = .ok (.aload_n 0, 1) := by decide +kernel
theorem dX10_ifPaid_21 : decode cX10_ifPaid 21 = .ok (.iload_n 1, 1) := by decide +kernel
theorem dX10_ifPaid_22 : decode cX10_ifPaid 22 = .ok (.iload_n 2, 1) := by decide +kernel
theorem dX10_ifPaid_23 : decode cX10_ifPaid 23 = .ok (.invokevirtual 210, 3) := by decide +kernel
theorem dX10_ifPaid_26 : decode cX10_ifPaid 26 = .ok (.goto 8, 3) := by decide +kernel
theorem dX10_ifPaid_29 : decode cX10_ifPaid 29 = .ok (.aload_n 0, 1) := by decide +kernel
theorem dX10_ifPaid_30 : decode cX10_ifPaid 30 = .ok (.iconst 1, 1) := by decide +kernel
theorem dX10_ifPaid_31 : decode cX10_ifPaid 31 = .ok (.invokevirtual 95, 3) := by decide +kernel
theorem dX10_ifPaid_34 : decode cX10_ifPaid 34 = .ok (.ireturn, 1) := by decide +kernel
theorem dX10_costOf_0 : decode cX10_costOf 0 = .ok (.aload_n 0, 1) := by decide +kernel
theorem dX10_costOf_1 : decode cX10_costOf 1 = .ok (.invokevirtual 213, 3) := by decide +kernel
theorem dX10_costOf_4 : decode cX10_costOf 4 = .ok (.aload_n 0, 1) := by decide +kernel
theorem dX10_costOf_5 : decode cX10_costOf 5 = .ok (.getfield 7, 3) := by decide +kernel
theorem dX10_costOf_8 : decode cX10_costOf 8 = .ok (.iload_n 1, 1) := by decide +kernel
theorem dX10_costOf_9 : decode cX10_costOf 9 = .ok (.invokestatic 45, 3) := by decide +kernel
theorem dX10_costOf_12 : decode cX10_costOf 12 = .ok (.iaload, 1) := by decide +kernel
theorem dX10_costOf_13 : decode cX10_costOf 13 = .ok (.aload_n 0, 1) := by decide +kernel
theorem dX10_costOf_14 : decode cX10_costOf 14 = .ok (.iload_n 1, 1) := by decide +kernel
theorem dX10_costOf_15 : decode cX10_costOf 15 = .ok (.invokevirtual 207, 3) := by decide +kernel
theorem dX10_costOf_18 : decode cX10_costOf 18 = .ok (.imul, 1) := by decide +kernel
theorem dX10_costOf_19 : decode cX10_costOf 19 = .ok (.istore_n 3, 1) := by decide +kernel
theorem dX10_costOf_20 : decode cX10_costOf 20 = .ok (.aload_n 0, 1) := by decide +kernel
theorem dX10_costOf_21 : decode cX10_costOf 21 = .ok (.iload_n 1, 1) := by decide +kernel
theorem dX10_costOf_22 : decode cX10_costOf 22 = .ok (.invokevirtual 116, 3) := by decide +kernel
theorem dX10_costOf_25 : decode cX10_costOf 25 = .ok (.iload_n 3, 1) := by decide +kernel
theorem dX10_costOf_26 : decode cX10_costOf 26 = .ok (.aload_n 0, 1) := by decide +kernel
theorem dX10_costOf_27 : decode cX10_costOf 27 = .ok (.getfield 7, 3) := by decide +kernel
theorem dX10_costOf_30 : decode cX10_costOf 30 = .ok (.iload_n 2, 1) := by decide +kernel
theorem dX10_costOf_31 : decode cX10_costOf 31 = .ok (.invokestatic 45, 3) := by decide +kernel
theorem dX10_costOf_34 : decode cX10_costOf 34 = .ok (.iaload, 1) := by decide +kernel
theorem dX10_costOf_35 : decode cX10_costOf 35 = .ok (.aload_n 0, 1) := by decide +kernel
theorem dX10_costOf_36 : decode cX10_costOf 36 = .ok (.iload_n 2, 1) := by decide +kernel
theorem dX10_costOf_37 : decode cX10_costOf 37 = .ok (.invokevirtual 207, 3) := by decide +kernel
theorem dX10_costOf_40 : decode cX10_costOf 40 = .ok (.imul, 1) := by decide +kernel
theorem dX10_costOf_41 : decode cX10_costOf 41 = .ok (.iadd, 1) := by decide +kernel
theorem dX10_costOf_42 : decode cX10_costOf 42 = .ok (.istore_n 3, 1) := by decide +kernel
theorem dX10_costOf_43 : decode cX10_costOf 43 = .ok (.aload_n 0, 1) := by decide +kernel
theorem dX10_costOf_44 : decode cX10_costOf 44 = .ok (.invokevirtual 216, 3) := by decide +kernel
theorem dX10_costOf_47 : decode cX10_costOf 47 = .ok (.iload_n 3, 1) := by decide +kernel
theorem dX10_costOf_48 : decode cX10_costOf 48 = .ok (.ireturn, 1) := by decide +kernel
theorem dX10_orderMatters_0 : decode cX10_orderMatters 0 = .ok (.aload_n 0, 1) := by decide +kernel
theorem dX10_orderMatters_1 : decode cX10_orderMatters 1 = .ok (.iconst 0, 1) := by decide +kernel
theorem dX10_orderMatters_2 : decode cX10_orderMatters 2 = .ok (.putfield 34, 3) := by decide +kernel
theorem dX10_orderMatters_5 : decode cX10_orderMatters 5 = .ok (.aload_n 0, 1) := by decide +kernel
theorem dX10_orderMatters_6 : decode cX10_orderMatters 6 = .ok (.iload_n 1, 1) := by decide +kernel
theorem dX10_orderMatters_7 : decode cX10_orderMatters 7 = .ok (.invokevirtual 107, 3) := by decide +kernel
theorem dX10_orderMatters_10 : decode cX10_orderMatters 10 = .ok (.ifCond .eq 11, 3) := by decide +kernel
theorem dX10_orderMatters_13 : decode cX10_orderMatters 13 = .ok (.aload_n 0, 1) := by decide +kernel
theorem dX10_orderMatters_14 : decode cX10_orderMatters 14 = .ok (.iload_n 2, 1) := by decide +kernel
theorem dX10_orderMatters_15 : decode cX10_orderMatters 15 = .ok (.invokevirtual 107, 3) := by decide +kernel
theorem dX10_orderMatters_18 : decode cX10_orderMatters 18 = .ok (.ifCond .ne 9, 3) := by decide +kernel
theorem dX10_orderMatters_21 : decode cX10_orderMatters 21 = .ok (.aload_n 0, 1) := by decide +kernel
theorem dX10_orderMatters_22 : decode cX10_orderMatters 22 = .ok (.iconst 1, 1) := by decide +kernel
theorem dX10_orderMatters_23 : decode cX10_orderMatters 23 = .ok (.invokevirtual 95, 3) := by decide +kernel
theorem dX10_orderMatters_26 : decode cX10_orderMatters 26 = .ok (.ireturn, 1) := by decide +kernel
theorem dX10_orderMatters_27 : decode cX10_orderMatters 27 = .ok (.iload_n 1, 1) := by decide +kernel
theorem dX10_orderMatters_28 : decode cX10_orderMatters 28 = .ok (.iload_n 2, 1) := by decide +kernel
theorem dX10_orderMatters_29 : decode cX10_orderMatters 29 = .ok (.if_icmp .ne 9, 3) := by decide +kernel
theorem dX10_orderMatters_32 : decode cX10_orderMatters 32 = .ok (.aload_n 0, 1) := by decide +kernel
theorem dX10_orderMatters_33 : decode cX10_orderMatters 33 = .ok (.iconst 2, 1) := by decide +kernel
theorem dX10_orderMatters_34 : decode cX10_orderMatters 34 = .ok (.invokevirtual 95, 3) := by decide +kernel
theorem dX10_orderMatters_37 : decode cX10_orderMatters 37 = .ok (.ireturn, 1) := by decide +kernel
theorem dX10_orderMatters_38 : decode cX10_orderMatters 38 = .ok (.aload_n 0, 1) := by decide +kernel
theorem dX10_orderMatters_39 : decode cX10_orderMatters 39 = .ok (.getfield 7, 3) := by decide +kernel
theorem dX10_orderMatters_42 : decode cX10_orderMatters 42 = .ok (.iload_n 1, 1) := by decide +kernel
theorem dX10_orderMatters_43 : decode cX10_orderMatters 43 = .ok (.invokestatic 45, 3) := by decide +kernel
theorem dX10_orderMatters_46 : decode cX10_orderMatters 46 = .ok (.iconst 1, 1) := by decide +kernel
theorem dX10_orderMatters_47 : decode cX10_orderMatters 47 = .ok (.iadd, 1) := by decide +kernel
theorem dX10_orderMatters_48 : decode cX10_orderMatters 48 = .ok (.iaload, 1) := by decide +kernel
theorem dX10_orderMatters_49 : decode cX10_orderMatters 49 = .ok (.ifCond .ne 17, 3) := by decide +kernel
theorem dX10_orderMatters_52 : decode cX10_orderMatters 52 = .ok (.aload_n 0, 1) := by decide +kernel
theorem dX10_orderMatters_53 : decode cX10_orderMatters 53 = .ok (.getfield 7, 3) := by decide +kernel
theorem dX10_orderMatters_56 : decode cX10_orderMatters 56 = .ok (.iload_n 2, 1) := by decide +kernel
theorem dX10_orderMatters_57 : decode cX10_orderMatters 57 = .ok (.invokestatic 45, 3) := by decide +kernel
theorem dX10_orderMatters_60 : decode cX10_orderMatters 60 = .ok (.iconst 1, 1) := by decide +kernel
theorem dX10_orderMatters_61 : decode cX10_orderMatters 61 = .ok (.iadd, 1) := by decide +kernel
theorem dX10_orderMatters_62 : decode cX10_orderMatters 62 = .ok (.iaload, 1) := by decide +kernel
theorem dX10_orderMatters_63 : decode cX10_orderMatters 63 = .ok (.ifCond .eq 9, 3) := by decide +kernel
theorem dX10_orderMatters_66 : decode cX10_orderMatters 66 = .ok (.aload_n 0, 1) := by decide +kernel
theorem dX10_orderMatters_67 : decode cX10_orderMatters 67 = .ok (.iconst 3, 1) := by decide +kernel
theorem dX10_orderMatters_68 : decode cX10_orderMatters 68 = .ok (.invokevirtual 95, 3) := by decide +kernel
theorem dX10_orderMatters_71 : decode cX10_orderMatters 71 = .ok (.ireturn, 1) := by decide +kernel
theorem dX10_orderMatters_72 : decode cX10_orderMatters 72 = .ok (.aload_n 0, 1) := by decide +kernel
theorem dX10_orderMatters_73 : decode cX10_orderMatters 73 = .ok (.iload_n 1, 1) := by decide +kernel
theorem dX10_orderMatters_74 : decode cX10_orderMatters 74 = .ok (.iload_n 2, 1) := by decide +kernel
theorem dX10_orderMatters_75 : decode cX10_orderMatters 75 = .ok (.invokevirtual 219, 3) := by decide +kernel
theorem dX10_orderMatters_78 : decode cX10_orderMatters 78 = .ok (.aload_n 0, 1) := by decide +kernel
theorem dX10_orderMatters_79 : decode cX10_orderMatters 79 = .ok (.iload_n 2, 1) := by decide +kernel
theorem dX10_orderMatters_80 : decode cX10_orderMatters 80 = .ok (.iload_n 1, 1) := by decide +kernel
theorem dX10_orderMatters_81 : decode cX10_orderMatters 81 = .ok (.invokevirtual 219, 3) := by decide +kernel
theorem dX10_orderMatters_84 : decode cX10_orderMatters 84 = .ok (.isub, 1) := by decide +kernel
theorem dX10_orderMatters_85 : decode cX10_orderMatters 85 = .ok (.ireturn, 1) := by decide +kernel
theorem dX10_savedOf_0 : decode cX10_savedOf 0 = .ok (.iconst 0, 1) := by decide +kernel
theorem dX10_savedOf_1 : decode cX10_savedOf 1 = .ok (.istore_n 1, 1) := by decide +kernel
theorem dX10_savedOf_2 : decode cX10_savedOf 2 = .ok (.iconst 0, 1) := by decide +kernel
theorem dX10_savedOf_3 : decode cX10_savedOf 3 = .ok (.istore_n 2, 1) := by decide +kernel
theorem dX10_savedOf_4 : decode cX10_savedOf 4 = .ok (.iload_n 2, 1) := by decide +kernel
theorem dX10_savedOf_5 : decode cX10_savedOf 5 = .ok (.aload_n 0, 1) := by decide +kernel
theorem dX10_savedOf_6 : decode cX10_savedOf 6 = .ok (.getfield 7, 3) := by decide +kernel
theorem dX10_savedOf_9 : decode cX10_savedOf 9 = .ok (.iconst 0, 1) := by decide +kernel
theorem dX10_savedOf_10 : decode cX10_savedOf 10 = .ok (.iaload, 1) := by decide +kernel
theorem dX10_savedOf_11 : decode cX10_savedOf 11 = .ok (.if_icmp .ge 30, 3) := by decide +kernel
theorem dX10_savedOf_14 : decode cX10_savedOf 14 = .ok (.iload_n 1, 1) := by decide +kernel
theorem dX10_savedOf_15 : decode cX10_savedOf 15 = .ok (.aload_n 0, 1) := by decide +kernel
theorem dX10_savedOf_16 : decode cX10_savedOf 16 = .ok (.getfield 7, 3) := by decide +kernel
theorem dX10_savedOf_19 : decode cX10_savedOf 19 = .ok (.iload_n 2, 1) := by decide +kernel
theorem dX10_savedOf_20 : decode cX10_savedOf 20 = .ok (.invokestatic 45, 3) := by decide +kernel
theorem dX10_savedOf_23 : decode cX10_savedOf 23 = .ok (.iaload, 1) := by decide +kernel
theorem dX10_savedOf_24 : decode cX10_savedOf 24 = .ok (.bipush 100, 2) := by decide +kernel
theorem dX10_savedOf_26 : decode cX10_savedOf 26 = .ok (.aload_n 0, 1) := by decide +kernel
theorem dX10_savedOf_27 : decode cX10_savedOf 27 = .ok (.iload_n 2, 1) := by decide +kernel
theorem dX10_savedOf_28 : decode cX10_savedOf 28 = .ok (.invokevirtual 207, 3) := by decide +kernel
theorem dX10_savedOf_31 : decode cX10_savedOf 31 = .ok (.isub, 1) := by decide +kernel
theorem dX10_savedOf_32 : decode cX10_savedOf 32 = .ok (.imul, 1) := by decide +kernel
theorem dX10_savedOf_33 : decode cX10_savedOf 33 = .ok (.iadd, 1) := by decide +kernel
theorem dX10_savedOf_34 : decode cX10_savedOf 34 = .ok (.istore_n 1, 1) := by decide +kernel
theorem dX10_savedOf_35 : decode cX10_savedOf 35 = .ok (.iinc 2 1, 3) := by decide +kernel
theorem dX10_savedOf_38 : decode cX10_savedOf 38 = .ok (.goto (-34), 3) := by decide +kernel
theorem dX10_savedOf_41 : decode cX10_savedOf 41 = .ok (.aload_n 0, 1) := by decide +kernel
theorem dX10_savedOf_42 : decode cX10_savedOf 42 = .ok (.getfield 7, 3) := by decide +kernel
theorem dX10_savedOf_45 : decode cX10_savedOf 45 = .ok (.iconst 0, 1) := by decide +kernel
theorem dX10_savedOf_46 : decode cX10_savedOf 46 = .ok (.iaload, 1) := by decide +kernel
theorem dX10_savedOf_47 : decode cX10_savedOf 47 = .ok (.ifCond .ne 7, 3) := by decide +kernel
theorem dX10_savedOf_50 : decode cX10_savedOf 50 = .ok (.fconst 0, 1) := by decide +kernel
theorem dX10_savedOf_51 : decode cX10_savedOf 51 = .ok (.goto 14, 3) := by decide +kernel
theorem dX10_savedOf_54 : decode cX10_savedOf 54 = .ok (.iload_n 1, 1) := by decide +kernel
theorem dX10_savedOf_55 : decode cX10_savedOf 55 = .ok (.i2f, 1) := by decide +kernel
theorem dX10_savedOf_56 : decode cX10_savedOf 56 = .ok (.bipush 100, 2) := by decide +kernel
theorem dX10_savedOf_58 : decode cX10_savedOf 58 = .ok (.aload_n 0, 1) := by decide +kernel
theorem dX10_savedOf_59 : decode cX10_savedOf 59 = .ok (.invokevirtual 172, 3) := by decide +kernel
theorem dX10_savedOf_62 : decode cX10_savedOf 62 = .ok (.imul, 1) := by decide +kernel
theorem dX10_savedOf_63 : decode cX10_savedOf 63 = .ok (.i2f, 1) := by decide +kernel
theorem dX10_savedOf_64 : decode cX10_savedOf 64 = .ok (.fdiv, 1) := by decide +kernel
theorem dX10_savedOf_65 : decode cX10_savedOf 65 = .ok (.invokestatic 185, 3) := by decide +kernel
theorem dX10_savedOf_68 : decode cX10_savedOf 68 = .ok (.ireturn, 1) := by decide +kernel
theorem dX10_saved_0 : decode cX10_saved 0 = .ok (.aload_n 0, 1) := by decide +kernel
theorem dX10_saved_1 : decode cX10_saved 1 = .ok (.iconst 0, 1) := by decide +kernel
theorem dX10_saved_2 : decode cX10_saved 2 = .ok (.putfield 34, 3) := by decide +kernel
theorem dX10_saved_5 : decode cX10_saved 5 = .ok (.aload_n 0, 1) := by decide +kernel
theorem dX10_saved_6 : decode cX10_saved 6 = .ok (.invokevirtual 222, 3) := by decide +kernel
theorem dX10_saved_9 : decode cX10_saved 9 = .ok (.ireturn, 1) := by decide +kernel
theorem dX10_costAll_0 : decode cX10_costAll 0 = .ok (.aload_n 0, 1) := by decide +kernel
theorem dX10_costAll_1 : decode cX10_costAll 1 = .ok (.iconst 2, 1) := by decide +kernel
theorem dX10_costAll_2 : decode cX10_costAll 2 = .ok (.invokevirtual 175, 3) := by decide +kernel
theorem dX10_costAll_5 : decode cX10_costAll 5 = .ok (.ifCond .ne 7, 3) := by decide +kernel
theorem dX10_costAll_8 : decode cX10_costAll 8 = .ok (.dconst 0, 1) := by decide +kernel
theorem dX10_costAll_9 : decode cX10_costAll 9 = .ok (.goto 16, 3) := by decide +kernel
theorem dX10_costAll_12 : decode cX10_costAll 12 = .ok (.aload_n 0, 1) := by decide +kernel
theorem dX10_costAll_13 : decode cX10_costAll 13 = .ok (.iconst 1, 1) := by decide +kernel
theorem dX10_costAll_14 : decode cX10_costAll 14 = .ok (.invokevirtual 175, 3) := by decide +kernel
theorem dX10_costAll_17 : decode cX10_costAll 17 = .ok (.i2d, 1) := by decide +kernel
theorem dX10_costAll_18 : decode cX10_costAll 18 = .ok (.aload_n 0, 1) := by decide +kernel
theorem dX10_costAll_19 : decode cX10_costAll 19 = .ok (.iconst 2, 1) := by decide +kernel
theorem dX10_costAll_20 : decode cX10_costAll 20 = .ok (.invokevirtual 175, 3) := by decide +kernel
theorem dX10_costAll_23 : decode cX10_costAll 23 = .ok (.i2d, 1) := by decide +kernel
theorem dX10_costAll_24 : decode cX10_costAll 24 = .ok (.ddiv, 1) := by decide +kernel
theorem dX10_costAll_25 : decode cX10_costAll 25 = .ok (.dreturn, 1) := by decide +kernel
theorem dX10_wordCost_0 : decode cX10_wordCost 0 = .ok (.aload_n 0, 1) := by decide +kernel
theorem dX10_wordCost_1 : decode cX10_wordCost 1 = .ok (.iconst 0, 1) := by decide +kernel
theorem dX10_wordCost_2 : decode cX10_wordCost 2 = .ok (.putfield 34, 3) := by decide +kernel
theorem dX10_wordCost_5 : decode cX10_wordCost 5 = .ok (.aload_n 0, 1) := by decide +kernel
theorem dX10_wordCost_6 : decode cX10_wordCost 6 = .ok (.invokevirtual 225, 3) := by decide +kernel
theorem dX10_wordCost_9 : decode cX10_wordCost 9 = .ok (.dreturn, 1) := by decide +kernel
theorem dX10_mix_0 : decode cX10_mix 0 = .ok (.aload_n 0, 1) := by decide +kernel
theorem dX10_mix_1 : decode cX10_mix 1 = .ok (.ldc2_w 229, 3) := by decide +kernel
theorem dX10_mix_4 : decode cX10_mix 4 = .ok (.aload_n 0, 1) := by decide +kernel
theorem dX10_mix_5 : decode cX10_mix 5 = .ok (.getfield 231, 3) := by decide +kernel
theorem dX10_mix_8 : decode cX10_mix 8 = .ok (.lmul, 1) := by decide +kernel
theorem dX10_mix_9 : decode cX10_mix 9 = .ok (.lload_n 1, 1) := by decide +kernel
theorem dX10_mix_10 : decode cX10_mix 10 = .ok (.ladd, 1) := by decide +kernel
theorem dX10_mix_11 : decode cX10_mix 11 = .ok (.putfield 231, 3) := by decide +kernel
theorem dX10_mix_14 : decode cX10_mix 14 = .ok (.return_, 1) := by decide +kernel
theorem dX10_mixSegment_0 : decode cX10_mixSegment 0 = .ok (.iconst 0, 1) := by decide +kernel
theorem dX10_mixSegment_1 : decode cX10_mixSegment 1 = .ok (.istore_n 2, 1) := by decide +kernel
theorem dX10_mixSegment_2 : decode cX10_mixSegment 2 = .ok (.iload_n 2, 1) := by decide +kernel
theorem dX10_mixSegment_3 : decode cX10_mixSegment 3 = .ok (.bipush 12, 2) := by decide +kernel
theorem dX10_mixSegment_5 : decode cX10_mixSegment 5 = .ok (.if_icmp .ge 20, 3) := by decide +kernel
theorem dX10_mixSegment_8 : decode cX10_mixSegment 8 = .ok (.aload_n 0, 1) := by decide +kernel
theorem dX10_mixSegment_9 : decode cX10_mixSegment 9 = .ok (.aload_n 0, 1) := by decide +kernel
theorem dX10_mixSegment_10 : decode cX10_mixSegment 10 = .ok (.iload_n 1, 1) := by decide +kernel
theorem dX10_mixSegment_11 : decode cX10_mixSegment 11 = .ok (.iload_n 2, 1) := by decide +kernel
theorem dX10_mixSegment_12 : decode cX10_mixSegment 12 = .ok (.invokevirtual 148, 3) := by decide +kernel
theorem dX10_mixSegment_15 : decode cX10_mixSegment 15 = .ok (.i2l, 1) := by decide +kernel
theorem dX10_mixSegment_16 : decode cX10_mixSegment 16 = .ok (.invokevirtual 235, 3) := by decide +kernel
theorem dX10_mixSegment_19 : decode cX10_mixSegment 19 = .ok (.iinc 2 1, 3) := by decide +kernel
theorem dX10_mixSegment_22 : decode cX10_mixSegment 22 = .ok (.goto (-20), 3) := by decide +kernel
theorem dX10_mixSegment_25 : decode cX10_mixSegment 25 = .ok (.iconst 0, 1) := by decide +kernel
theorem dX10_mixSegment_26 : decode cX10_mixSegment 26 = .ok (.istore_n 2, 1) := by decide +kernel
theorem dX10_mixSegment_27 : decode cX10_mixSegment 27 = .ok (.iload_n 2, 1) := by decide +kernel
theorem dX10_mixSegment_28 : decode cX10_mixSegment 28 = .ok (.aload_n 0, 1) := by decide +kernel
theorem dX10_mixSegment_29 : decode cX10_mixSegment 29 = .ok (.getfield 7, 3) := by decide +kernel
theorem dX10_mixSegment_32 : decode cX10_mixSegment 32 = .ok (.iload_n 1, 1) := by decide +kernel
theorem dX10_mixSegment_33 : decode cX10_mixSegment 33 = .ok (.invokestatic 45, 3) := by decide +kernel
theorem dX10_mixSegment_36 : decode cX10_mixSegment 36 = .ok (.iaload, 1) := by decide +kernel
theorem dX10_mixSegment_37 : decode cX10_mixSegment 37 = .ok (.if_icmp .ge 20, 3) := by decide +kernel
theorem dX10_mixSegment_40 : decode cX10_mixSegment 40 = .ok (.aload_n 0, 1) := by decide +kernel
theorem dX10_mixSegment_41 : decode cX10_mixSegment 41 = .ok (.aload_n 0, 1) := by decide +kernel
theorem dX10_mixSegment_42 : decode cX10_mixSegment 42 = .ok (.iload_n 1, 1) := by decide +kernel
theorem dX10_mixSegment_43 : decode cX10_mixSegment 43 = .ok (.iload_n 2, 1) := by decide +kernel
theorem dX10_mixSegment_44 : decode cX10_mixSegment 44 = .ok (.invokevirtual 151, 3) := by decide +kernel
theorem dX10_mixSegment_47 : decode cX10_mixSegment 47 = .ok (.i2l, 1) := by decide +kernel
theorem dX10_mixSegment_48 : decode cX10_mixSegment 48 = .ok (.invokevirtual 235, 3) := by decide +kernel
theorem dX10_mixSegment_51 : decode cX10_mixSegment 51 = .ok (.iinc 2 1, 3) := by decide +kernel
theorem dX10_mixSegment_54 : decode cX10_mixSegment 54 = .ok (.goto (-27), 3) := by decide +kernel
theorem dX10_mixSegment_57 : decode cX10_mixSegment 57 = .ok (.iconst 0, 1) := by decide +kernel
theorem dX10_mixSegment_58 : decode cX10_mixSegment 58 = .ok (.istore_n 2, 1) := by decide +kernel
theorem dX10_mixSegment_59 : decode cX10_mixSegment 59 = .ok (.iload_n 2, 1) := by decide +kernel
theorem dX10_mixSegment_60 : decode cX10_mixSegment 60 = .ok (.iconst 4, 1) := by decide +kernel
theorem dX10_mixSegment_61 : decode cX10_mixSegment 61 = .ok (.if_icmp .ge 20, 3) := by decide +kernel
theorem dX10_mixSegment_64 : decode cX10_mixSegment 64 = .ok (.aload_n 0, 1) := by decide +kernel
theorem dX10_mixSegment_65 : decode cX10_mixSegment 65 = .ok (.aload_n 0, 1) := by decide +kernel
theorem dX10_mixSegment_66 : decode cX10_mixSegment 66 = .ok (.iload_n 1, 1) := by decide +kernel
theorem dX10_mixSegment_67 : decode cX10_mixSegment 67 = .ok (.iload_n 2, 1) := by decide +kernel
theorem dX10_mixSegment_68 : decode cX10_mixSegment 68 = .ok (.invokevirtual 210, 3) := by decide +kernel
theorem dX10_mixSegment_71 : decode cX10_mixSegment 71 = .ok (.i2l, 1) := by decide +kernel
theorem dX10_mixSegment_72 : decode cX10_mixSegment 72 = .ok (.invokevirtual 235, 3) := by decide +kernel
theorem dX10_mixSegment_75 : decode cX10_mixSegment 75 = .ok (.iinc 2 1, 3) := by decide +kernel
theorem dX10_mixSegment_78 : decode cX10_mixSegment 78 = .ok (.goto (-19), 3) := by decide +kernel
theorem dX10_mixSegment_81 : decode cX10_mixSegment 81 = .ok (.iconst 0, 1) := by decide +kernel
theorem dX10_mixSegment_82 : decode cX10_mixSegment 82 = .ok (.istore_n 2, 1) := by decide +kernel
theorem dX10_mixSegment_83 : decode cX10_mixSegment 83 = .ok (.iload_n 2, 1) := by decide +kernel
theorem dX10_mixSegment_84 : decode cX10_mixSegment 84 = .ok (.iconst 3, 1) := by decide +kernel
theorem dX10_mixSegment_85 : decode cX10_mixSegment 85 = .ok (.if_icmp .ge 21, 3) := by decide +kernel
theorem dX10_mixSegment_88 : decode cX10_mixSegment 88 = .ok (.aload_n 0, 1) := by decide +kernel
theorem dX10_mixSegment_89 : decode cX10_mixSegment 89 = .ok (.aload_n 0, 1) := by decide +kernel
theorem dX10_mixSegment_90 : decode cX10_mixSegment 90 = .ok (.iload_n 1, 1) := by decide +kernel
theorem dX10_mixSegment_91 : decode cX10_mixSegment 91 = .ok (.iconst 0, 1) := by decide +kernel
theorem dX10_mixSegment_92 : decode cX10_mixSegment 92 = .ok (.iload_n 2, 1) := by decide +kernel
theorem dX10_mixSegment_93 : decode cX10_mixSegment 93 = .ok (.invokevirtual 204, 3) := by decide +kernel
theorem dX10_mixSegment_96 : decode cX10_mixSegment 96 = .ok (.i2l, 1) := by decide +kernel
theorem dX10_mixSegment_97 : decode cX10_mixSegment 97 = .ok (.invokevirtual 235, 3) := by decide +kernel
theorem dX10_mixSegment_100 : decode cX10_mixSegment 100 = .ok (.iinc 2 1, 3) := by decide +kernel
theorem dX10_mixSegment_103 : decode cX10_mixSegment 103 = .ok (.goto (-20), 3) := by decide +kernel
theorem dX10_mixSegment_106 : decode cX10_mixSegment 106 = .ok (.return_, 1) := by decide +kernel
theorem dX10_mixRow_0 : decode cX10_mixRow 0 = .ok (.iconst 0, 1) := by decide +kernel
theorem dX10_mixRow_1 : decode cX10_mixRow 1 = .ok (.istore_n 2, 1) := by decide +kernel
theorem dX10_mixRow_2 : decode cX10_mixRow 2 = .ok (.iload_n 2, 1) := by decide +kernel
theorem dX10_mixRow_3 : decode cX10_mixRow 3 = .ok (.aload_n 0, 1) := by decide +kernel
theorem dX10_mixRow_4 : decode cX10_mixRow 4 = .ok (.getfield 7, 3) := by decide +kernel
theorem dX10_mixRow_7 : decode cX10_mixRow 7 = .ok (.iload_n 1, 1) := by decide +kernel
theorem dX10_mixRow_8 : decode cX10_mixRow 8 = .ok (.invokestatic 55, 3) := by decide +kernel
theorem dX10_mixRow_11 : decode cX10_mixRow 11 = .ok (.iaload, 1) := by decide +kernel
theorem dX10_mixRow_12 : decode cX10_mixRow 12 = .ok (.if_icmp .ge 27, 3) := by decide +kernel
theorem dX10_mixRow_15 : decode cX10_mixRow 15 = .ok (.aload_n 0, 1) := by decide +kernel
theorem dX10_mixRow_16 : decode cX10_mixRow 16 = .ok (.aload_n 0, 1) := by decide +kernel
theorem dX10_mixRow_17 : decode cX10_mixRow 17 = .ok (.getfield 7, 3) := by decide +kernel
theorem dX10_mixRow_20 : decode cX10_mixRow 20 = .ok (.iload_n 1, 1) := by decide +kernel
theorem dX10_mixRow_21 : decode cX10_mixRow 21 = .ok (.invokestatic 55, 3) := by decide +kernel
theorem dX10_mixRow_24 : decode cX10_mixRow 24 = .ok (.iconst 1, 1) := by decide +kernel
theorem dX10_mixRow_25 : decode cX10_mixRow 25 = .ok (.iadd, 1) := by decide +kernel
theorem dX10_mixRow_26 : decode cX10_mixRow 26 = .ok (.iload_n 2, 1) := by decide +kernel
theorem dX10_mixRow_27 : decode cX10_mixRow 27 = .ok (.iadd, 1) := by decide +kernel
theorem dX10_mixRow_28 : decode cX10_mixRow 28 = .ok (.iaload, 1) := by decide +kernel
theorem dX10_mixRow_29 : decode cX10_mixRow 29 = .ok (.i2l, 1) := by decide +kernel
theorem dX10_mixRow_30 : decode cX10_mixRow 30 = .ok (.invokevirtual 235, 3) := by decide +kernel
theorem dX10_mixRow_33 : decode cX10_mixRow 33 = .ok (.iinc 2 1, 3) := by decide +kernel
theorem dX10_mixRow_36 : decode cX10_mixRow 36 = .ok (.goto (-34), 3) := by decide +kernel
theorem dX10_mixRow_39 : decode cX10_mixRow 39 = .ok (.iconst 0, 1) := by decide +kernel
theorem dX10_mixRow_40 : decode cX10_mixRow 40 = .ok (.istore_n 2, 1) := by decide +kernel
theorem dX10_mixRow_41 : decode cX10_mixRow 41 = .ok (.iload_n 2, 1) := by decide +kernel
theorem dX10_mixRow_42 : decode cX10_mixRow 42 = .ok (.iconst 3, 1) := by decide +kernel
theorem dX10_mixRow_43 : decode cX10_mixRow 43 = .ok (.if_icmp .ge 21, 3) := by decide +kernel
theorem dX10_mixRow_46 : decode cX10_mixRow 46 = .ok (.aload_n 0, 1) := by decide +kernel
theorem dX10_mixRow_47 : decode cX10_mixRow 47 = .ok (.aload_n 0, 1) := by decide +kernel
theorem dX10_mixRow_48 : decode cX10_mixRow 48 = .ok (.iconst 0, 1) := by decide +kernel
theorem dX10_mixRow_49 : decode cX10_mixRow 49 = .ok (.iload_n 1, 1) := by decide +kernel
theorem dX10_mixRow_50 : decode cX10_mixRow 50 = .ok (.iload_n 2, 1) := by decide +kernel
theorem dX10_mixRow_51 : decode cX10_mixRow 51 = .ok (.invokevirtual 191, 3) := by decide +kernel
theorem dX10_mixRow_54 : decode cX10_mixRow 54 = .ok (.i2l, 1) := by decide +kernel
theorem dX10_mixRow_55 : decode cX10_mixRow 55 = .ok (.invokevirtual 235, 3) := by decide +kernel
theorem dX10_mixRow_58 : decode cX10_mixRow 58 = .ok (.iinc 2 1, 3) := by decide +kernel
theorem dX10_mixRow_61 : decode cX10_mixRow 61 = .ok (.goto (-20), 3) := by decide +kernel
theorem dX10_mixRow_64 : decode cX10_mixRow 64 = .ok (.return_, 1) := by decide +kernel
theorem dX10_digest_0 : decode cX10_digest 0 = .ok (.aload_n 0, 1) := by decide +kernel
theorem dX10_digest_1 : decode cX10_digest 1 = .ok (.iconst 0, 1) := by decide +kernel
theorem dX10_digest_2 : decode cX10_digest 2 = .ok (.putfield 34, 3) := by decide +kernel
theorem dX10_digest_5 : decode cX10_digest 5 = .ok (.aload_n 0, 1) := by decide +kernel
theorem dX10_digest_6 : decode cX10_digest 6 = .ok (.ldc2_w 239, 3) := by decide +kernel
theorem dX10_digest_9 : decode cX10_digest 9 = .ok (.putfield 231, 3) := by decide +kernel
theorem dX10_digest_12 : decode cX10_digest 12 = .ok (.iconst 0, 1) := by decide +kernel
theorem dX10_digest_13 : decode cX10_digest 13 = .ok (.istore_n 1, 1) := by decide +kernel
theorem dX10_digest_14 : decode cX10_digest 14 = .ok (.iload_n 1, 1) := by decide +kernel
theorem dX10_digest_15 : decode cX10_digest 15 = .ok (.bipush 12, 2) := by decide +kernel
theorem dX10_digest_17 : decode cX10_digest 17 = .ok (.if_icmp .ge 19, 3) := by decide +kernel
theorem dX10_digest_20 : decode cX10_digest 20 = .ok (.aload_n 0, 1) := by decide +kernel
theorem dX10_digest_21 : decode cX10_digest 21 = .ok (.aload_n 0, 1) := by decide +kernel
theorem dX10_digest_22 : decode cX10_digest 22 = .ok (.iload_n 1, 1) := by decide +kernel
theorem dX10_digest_23 : decode cX10_digest 23 = .ok (.invokevirtual 182, 3) := by decide +kernel
theorem dX10_digest_26 : decode cX10_digest 26 = .ok (.i2l, 1) := by decide +kernel
theorem dX10_digest_27 : decode cX10_digest 27 = .ok (.invokevirtual 235, 3) := by decide +kernel
theorem dX10_digest_30 : decode cX10_digest 30 = .ok (.iinc 1 1, 3) := by decide +kernel
theorem dX10_digest_33 : decode cX10_digest 33 = .ok (.goto (-19), 3) := by decide +kernel
theorem dX10_digest_36 : decode cX10_digest 36 = .ok (.aload_n 0, 1) := by decide +kernel
theorem dX10_digest_37 : decode cX10_digest 37 = .ok (.aload_n 0, 1) := by decide +kernel
theorem dX10_digest_38 : decode cX10_digest 38 = .ok (.getfield 7, 3) := by decide +kernel
theorem dX10_digest_41 : decode cX10_digest 41 = .ok (.iconst 2, 1) := by decide +kernel
theorem dX10_digest_42 : decode cX10_digest 42 = .ok (.iaload, 1) := by decide +kernel
theorem dX10_digest_43 : decode cX10_digest 43 = .ok (.i2l, 1) := by decide +kernel
theorem dX10_digest_44 : decode cX10_digest 44 = .ok (.invokevirtual 235, 3) := by decide +kernel
theorem dX10_digest_47 : decode cX10_digest 47 = .ok (.aload_n 0, 1) := by decide +kernel
theorem dX10_digest_48 : decode cX10_digest 48 = .ok (.aload_n 0, 1) := by decide +kernel
theorem dX10_digest_49 : decode cX10_digest 49 = .ok (.getfield 7, 3) := by decide +kernel
theorem dX10_digest_52 : decode cX10_digest 52 = .ok (.iconst 3, 1) := by decide +kernel
theorem dX10_digest_53 : decode cX10_digest 53 = .ok (.iaload, 1) := by decide +kernel
theorem dX10_digest_54 : decode cX10_digest 54 = .ok (.i2l, 1) := by decide +kernel
theorem dX10_digest_55 : decode cX10_digest 55 = .ok (.invokevirtual 235, 3) := by decide +kernel
theorem dX10_digest_58 : decode cX10_digest 58 = .ok (.iconst 0, 1) := by decide +kernel
theorem dX10_digest_59 : decode cX10_digest 59 = .ok (.istore_n 1, 1) := by decide +kernel
theorem dX10_digest_60 : decode cX10_digest 60 = .ok (.iload_n 1, 1) := by decide +kernel
theorem dX10_digest_61 : decode cX10_digest 61 = .ok (.bipush 28, 2) := by decide +kernel
theorem dX10_digest_63 : decode cX10_digest 63 = .ok (.if_icmp .ge 26, 3) := by decide +kernel
theorem dX10_digest_66 : decode cX10_digest 66 = .ok (.aload_n 0, 1) := by decide +kernel
theorem dX10_digest_67 : decode cX10_digest 67 = .ok (.aload_n 0, 1) := by decide +kernel
theorem dX10_digest_68 : decode cX10_digest 68 = .ok (.iload_n 1, 1) := by decide +kernel
theorem dX10_digest_69 : decode cX10_digest 69 = .ok (.bipush 7, 2) := by decide +kernel
theorem dX10_digest_71 : decode cX10_digest 71 = .ok (.idiv, 1) := by decide +kernel
theorem dX10_digest_72 : decode cX10_digest 72 = .ok (.iload_n 1, 1) := by decide +kernel
theorem dX10_digest_73 : decode cX10_digest 73 = .ok (.bipush 7, 2) := by decide +kernel
theorem dX10_digest_75 : decode cX10_digest 75 = .ok (.irem, 1) := by decide +kernel
theorem dX10_digest_76 : decode cX10_digest 76 = .ok (.invokevirtual 160, 3) := by decide +kernel
theorem dX10_digest_79 : decode cX10_digest 79 = .ok (.i2l, 1) := by decide +kernel
theorem dX10_digest_80 : decode cX10_digest 80 = .ok (.invokevirtual 235, 3) := by decide +kernel
theorem dX10_digest_83 : decode cX10_digest 83 = .ok (.iinc 1 1, 3) := by decide +kernel
theorem dX10_digest_86 : decode cX10_digest 86 = .ok (.goto (-26), 3) := by decide +kernel
theorem dX10_digest_89 : decode cX10_digest 89 = .ok (.iconst 0, 1) := by decide +kernel
theorem dX10_digest_90 : decode cX10_digest 90 = .ok (.istore_n 1, 1) := by decide +kernel
theorem dX10_digest_91 : decode cX10_digest 91 = .ok (.iload_n 1, 1) := by decide +kernel
theorem dX10_digest_92 : decode cX10_digest 92 = .ok (.bipush 64, 2) := by decide +kernel
theorem dX10_digest_94 : decode cX10_digest 94 = .ok (.if_icmp .ge 26, 3) := by decide +kernel
theorem dX10_digest_97 : decode cX10_digest 97 = .ok (.aload_n 0, 1) := by decide +kernel
theorem dX10_digest_98 : decode cX10_digest 98 = .ok (.aload_n 0, 1) := by decide +kernel
theorem dX10_digest_99 : decode cX10_digest 99 = .ok (.iload_n 1, 1) := by decide +kernel
theorem dX10_digest_100 : decode cX10_digest 100 = .ok (.bipush 8, 2) := by decide +kernel
theorem dX10_digest_102 : decode cX10_digest 102 = .ok (.idiv, 1) := by decide +kernel
theorem dX10_digest_103 : decode cX10_digest 103 = .ok (.iload_n 1, 1) := by decide +kernel
theorem dX10_digest_104 : decode cX10_digest 104 = .ok (.bipush 8, 2) := by decide +kernel
theorem dX10_digest_106 : decode cX10_digest 106 = .ok (.irem, 1) := by decide +kernel
theorem dX10_digest_107 : decode cX10_digest 107 = .ok (.invokevirtual 166, 3) := by decide +kernel
theorem dX10_digest_110 : decode cX10_digest 110 = .ok (.i2l, 1) := by decide +kernel
theorem dX10_digest_111 : decode cX10_digest 111 = .ok (.invokevirtual 235, 3) := by decide +kernel
theorem dX10_digest_114 : decode cX10_digest 114 = .ok (.iinc 1 1, 3) := by decide +kernel
theorem dX10_digest_117 : decode cX10_digest 117 = .ok (.goto (-26), 3) := by decide +kernel
theorem dX10_digest_120 : decode cX10_digest 120 = .ok (.iconst 0, 1) := by decide +kernel
theorem dX10_digest_121 : decode cX10_digest 121 = .ok (.istore_n 1, 1) := by decide +kernel
theorem dX10_digest_122 : decode cX10_digest 122 = .ok (.iload_n 1, 1) := by decide +kernel
theorem dX10_digest_123 : decode cX10_digest 123 = .ok (.bipush 15, 2) := by decide +kernel
theorem dX10_digest_125 : decode cX10_digest 125 = .ok (.if_icmp .ge 23, 3) := by decide +kernel
theorem dX10_digest_128 : decode cX10_digest 128 = .ok (.aload_n 0, 1) := by decide +kernel
theorem dX10_digest_129 : decode cX10_digest 129 = .ok (.aload_n 0, 1) := by decide +kernel
theorem dX10_digest_130 : decode cX10_digest 130 = .ok (.getfield 7, 3) := by decide +kernel
theorem dX10_digest_133 : decode cX10_digest 133 = .ok (.bipush 64, 2) := by decide +kernel
theorem dX10_digest_135 : decode cX10_digest 135 = .ok (.iload_n 1, 1) := by decide +kernel
theorem dX10_digest_136 : decode cX10_digest 136 = .ok (.iadd, 1) := by decide +kernel
theorem dX10_digest_137 : decode cX10_digest 137 = .ok (.iaload, 1) := by decide +kernel
theorem dX10_digest_138 : decode cX10_digest 138 = .ok (.i2l, 1) := by decide +kernel
theorem dX10_digest_139 : decode cX10_digest 139 = .ok (.invokevirtual 235, 3) := by decide +kernel
theorem dX10_digest_142 : decode cX10_digest 142 = .ok (.iinc 1 1, 3) := by decide +kernel
theorem dX10_digest_145 : decode cX10_digest 145 = .ok (.goto (-23), 3) := by decide +kernel
theorem dX10_digest_148 : decode cX10_digest 148 = .ok (.iconst 0, 1) := by decide +kernel
theorem dX10_digest_149 : decode cX10_digest 149 = .ok (.istore_n 1, 1) := by decide +kernel
theorem dX10_digest_150 : decode cX10_digest 150 = .ok (.iload_n 1, 1) := by decide +kernel
theorem dX10_digest_151 : decode cX10_digest 151 = .ok (.aload_n 0, 1) := by decide +kernel
theorem dX10_digest_152 : decode cX10_digest 152 = .ok (.getfield 7, 3) := by decide +kernel
theorem dX10_digest_155 : decode cX10_digest 155 = .ok (.iconst 0, 1) := by decide +kernel
theorem dX10_digest_156 : decode cX10_digest 156 = .ok (.iaload, 1) := by decide +kernel
theorem dX10_digest_157 : decode cX10_digest 157 = .ok (.if_icmp .ge 14, 3) := by decide +kernel
theorem dX10_digest_160 : decode cX10_digest 160 = .ok (.aload_n 0, 1) := by decide +kernel
theorem dX10_digest_161 : decode cX10_digest 161 = .ok (.iload_n 1, 1) := by decide +kernel
theorem dX10_digest_162 : decode cX10_digest 162 = .ok (.invokevirtual 241, 3) := by decide +kernel
theorem dX10_digest_165 : decode cX10_digest 165 = .ok (.iinc 1 1, 3) := by decide +kernel
theorem dX10_digest_168 : decode cX10_digest 168 = .ok (.goto (-18), 3) := by decide +kernel
theorem dX10_digest_171 : decode cX10_digest 171 = .ok (.iconst 0, 1) := by decide +kernel
theorem dX10_digest_172 : decode cX10_digest 172 = .ok (.istore_n 1, 1) := by decide +kernel
theorem dX10_digest_173 : decode cX10_digest 173 = .ok (.iload_n 1, 1) := by decide +kernel
theorem dX10_digest_174 : decode cX10_digest 174 = .ok (.aload_n 0, 1) := by decide +kernel
theorem dX10_digest_175 : decode cX10_digest 175 = .ok (.getfield 7, 3) := by decide +kernel
theorem dX10_digest_178 : decode cX10_digest 178 = .ok (.iconst 1, 1) := by decide +kernel
theorem dX10_digest_179 : decode cX10_digest 179 = .ok (.iaload, 1) := by decide +kernel
theorem dX10_digest_180 : decode cX10_digest 180 = .ok (.if_icmp .ge 14, 3) := by decide +kernel
theorem dX10_digest_183 : decode cX10_digest 183 = .ok (.aload_n 0, 1) := by decide +kernel
theorem dX10_digest_184 : decode cX10_digest 184 = .ok (.iload_n 1, 1) := by decide +kernel
theorem dX10_digest_185 : decode cX10_digest 185 = .ok (.invokevirtual 244, 3) := by decide +kernel
theorem dX10_digest_188 : decode cX10_digest 188 = .ok (.iinc 1 1, 3) := by decide +kernel
theorem dX10_digest_191 : decode cX10_digest 191 = .ok (.goto (-18), 3) := by decide +kernel
theorem dX10_digest_194 : decode cX10_digest 194 = .ok (.aload_n 0, 1) := by decide +kernel
theorem dX10_digest_195 : decode cX10_digest 195 = .ok (.aload_n 0, 1) := by decide +kernel
theorem dX10_digest_196 : decode cX10_digest 196 = .ok (.invokevirtual 222, 3) := by decide +kernel
theorem dX10_digest_199 : decode cX10_digest 199 = .ok (.i2l, 1) := by decide +kernel
theorem dX10_digest_200 : decode cX10_digest 200 = .ok (.invokevirtual 235, 3) := by decide +kernel
theorem dX10_digest_203 : decode cX10_digest 203 = .ok (.aload_n 0, 1) := by decide +kernel
theorem dX10_digest_204 : decode cX10_digest 204 = .ok (.aload_n 0, 1) := by decide +kernel
theorem dX10_digest_205 : decode cX10_digest 205 = .ok (.invokevirtual 225, 3) := by decide +kernel
theorem dX10_digest_208 : decode cX10_digest 208 = .ok (.invokestatic 247, 3) := by decide +kernel
theorem dX10_digest_211 : decode cX10_digest 211 = .ok (.invokevirtual 235, 3) := by decide +kernel
theorem dX10_digest_214 : decode cX10_digest 214 = .ok (.aload_n 0, 1) := by decide +kernel
theorem dX10_digest_215 : decode cX10_digest 215 = .ok (.aload_n 0, 1) := by decide +kernel
theorem dX10_digest_216 : decode cX10_digest 216 = .ok (.getfield 125, 3) := by decide +kernel
theorem dX10_digest_219 : decode cX10_digest 219 = .ok (.i2l, 1) := by decide +kernel
theorem dX10_digest_220 : decode cX10_digest 220 = .ok (.invokevirtual 235, 3) := by decide +kernel
theorem dX10_digest_223 : decode cX10_digest 223 = .ok (.iconst 0, 1) := by decide +kernel
theorem dX10_digest_224 : decode cX10_digest 224 = .ok (.istore_n 1, 1) := by decide +kernel
theorem dX10_digest_225 : decode cX10_digest 225 = .ok (.iload_n 1, 1) := by decide +kernel
theorem dX10_digest_226 : decode cX10_digest 226 = .ok (.aload_n 0, 1) := by decide +kernel
theorem dX10_digest_227 : decode cX10_digest 227 = .ok (.getfield 125, 3) := by decide +kernel
theorem dX10_digest_230 : decode cX10_digest 230 = .ok (.if_icmp .ge 20, 3) := by decide +kernel
theorem dX10_digest_233 : decode cX10_digest 233 = .ok (.aload_n 0, 1) := by decide +kernel
theorem dX10_digest_234 : decode cX10_digest 234 = .ok (.aload_n 0, 1) := by decide +kernel
theorem dX10_digest_235 : decode cX10_digest 235 = .ok (.getfield 19, 3) := by decide +kernel
theorem dX10_digest_238 : decode cX10_digest 238 = .ok (.iload_n 1, 1) := by decide +kernel
theorem dX10_digest_239 : decode cX10_digest 239 = .ok (.iaload, 1) := by decide +kernel
theorem dX10_digest_240 : decode cX10_digest 240 = .ok (.i2l, 1) := by decide +kernel
theorem dX10_digest_241 : decode cX10_digest 241 = .ok (.invokevirtual 235, 3) := by decide +kernel
theorem dX10_digest_244 : decode cX10_digest 244 = .ok (.iinc 1 1, 3) := by decide +kernel
theorem dX10_digest_247 : decode cX10_digest 247 = .ok (.goto (-22), 3) := by decide +kernel
theorem dX10_digest_250 : decode cX10_digest 250 = .ok (.aload_n 0, 1) := by decide +kernel
theorem dX10_digest_251 : decode cX10_digest 251 = .ok (.getfield 231, 3) := by decide +kernel
theorem dX10_digest_254 : decode cX10_digest 254 = .ok (.lreturn, 1) := by decide +kernel
theorem dJxe99ae_isNaN_b9ae7_0 : decode cJxe99ae_isNaN_b9ae7 0 = .ok (.dload_n 0, 1) := by decide +kernel
theorem dJxe99ae_isNaN_b9ae7_1 : decode cJxe99ae_isNaN_b9ae7 1 = .ok (.dload_n 0, 1) := by decide +kernel
theorem dJxe99ae_isNaN_b9ae7_2 : decode cJxe99ae_isNaN_b9ae7 2 = .ok (.dcmp .l, 1) := by decide +kernel
theorem dJxe99ae_isNaN_b9ae7_3 : decode cJxe99ae_isNaN_b9ae7 3 = .ok (.ifCond .eq 7, 3) := by decide +kernel
theorem dJxe99ae_isNaN_b9ae7_6 : decode cJxe99ae_isNaN_b9ae7 6 = .ok (.iconst 1, 1) := by decide +kernel
theorem dJxe99ae_isNaN_b9ae7_7 : decode cJxe99ae_isNaN_b9ae7 7 = .ok (.goto 4, 3) := by decide +kernel
theorem dJxe99ae_isNaN_b9ae7_10 : decode cJxe99ae_isNaN_b9ae7 10 = .ok (.iconst 0, 1) := by decide +kernel
theorem dJxe99ae_isNaN_b9ae7_11 : decode cJxe99ae_isNaN_b9ae7 11 = .ok (.ireturn, 1) := by decide +kernel
theorem dJxe99ae_doubleToLongBits_ccdee_0 : decode cJxe99ae_doubleToLongBits_ccdee 0 = .ok (.dload_n 0, 1) := by decide +kernel
theorem dJxe99ae_doubleToLongBits_ccdee_1 : decode cJxe99ae_doubleToLongBits_ccdee 1 = .ok (.invokestatic 122, 3) := by decide +kernel
theorem dJxe99ae_doubleToLongBits_ccdee_4 : decode cJxe99ae_doubleToLongBits_ccdee 4 = .ok (.ifCond .ne 8, 3) := by decide +kernel
theorem dJxe99ae_doubleToLongBits_ccdee_7 : decode cJxe99ae_doubleToLongBits_ccdee 7 = .ok (.dload_n 0, 1) := by decide +kernel
theorem dJxe99ae_doubleToLongBits_ccdee_8 : decode cJxe99ae_doubleToLongBits_ccdee 8 = .ok (.invokestatic 134, 3) := by decide +kernel
theorem dJxe99ae_doubleToLongBits_ccdee_11 : decode cJxe99ae_doubleToLongBits_ccdee 11 = .ok (.lreturn, 1) := by decide +kernel
theorem dJxe99ae_doubleToLongBits_ccdee_12 : decode cJxe99ae_doubleToLongBits_ccdee 12 = .ok (.ldc2_w 137, 3) := by decide +kernel
theorem dJxe99ae_doubleToLongBits_ccdee_15 : decode cJxe99ae_doubleToLongBits_ccdee 15 = .ok (.lreturn, 1) := by decide +kernel
theorem dJxf58ca_isNaN_12338_0 : decode cJxf58ca_isNaN_12338 0 = .ok (.fload_n 0, 1) := by decide +kernel
theorem dJxf58ca_isNaN_12338_1 : decode cJxf58ca_isNaN_12338 1 = .ok (.fload_n 0, 1) := by decide +kernel
theorem dJxf58ca_isNaN_12338_2 : decode cJxf58ca_isNaN_12338 2 = .ok (.fcmp .l, 1) := by decide +kernel
theorem dJxf58ca_isNaN_12338_3 : decode cJxf58ca_isNaN_12338 3 = .ok (.ifCond .eq 7, 3) := by decide +kernel
theorem dJxf58ca_isNaN_12338_6 : decode cJxf58ca_isNaN_12338 6 = .ok (.iconst 1, 1) := by decide +kernel
theorem dJxf58ca_isNaN_12338_7 : decode cJxf58ca_isNaN_12338 7 = .ok (.goto 4, 3) := by decide +kernel
theorem dJxf58ca_isNaN_12338_10 : decode cJxf58ca_isNaN_12338 10 = .ok (.iconst 0, 1) := by decide +kernel
theorem dJxf58ca_isNaN_12338_11 : decode cJxf58ca_isNaN_12338 11 = .ok (.ireturn, 1) := by decide +kernel
theorem dJxf58ca_floatToIntBits_5c35a_0 : decode cJxf58ca_floatToIntBits_5c35a 0 = .ok (.fload_n 0, 1) := by decide +kernel
theorem dJxf58ca_floatToIntBits_5c35a_1 : decode cJxf58ca_floatToIntBits_5c35a 1 = .ok (.invokestatic 59, 3) := by decide +kernel
theorem dJxf58ca_floatToIntBits_5c35a_4 : decode cJxf58ca_floatToIntBits_5c35a 4 = .ok (.ifCond .ne 8, 3) := by decide +kernel
theorem dJxf58ca_floatToIntBits_5c35a_7 : decode cJxf58ca_floatToIntBits_5c35a 7 = .ok (.fload_n 0, 1) := by decide +kernel
theorem dJxf58ca_floatToIntBits_5c35a_8 : decode cJxf58ca_floatToIntBits_5c35a 8 = .ok (.invokestatic 74, 3) := by decide +kernel
theorem dJxf58ca_floatToIntBits_5c35a_11 : decode cJxf58ca_floatToIntBits_5c35a 11 = .ok (.ireturn, 1) := by decide +kernel
theorem dJxf58ca_floatToIntBits_5c35a_12 : decode cJxf58ca_floatToIntBits_5c35a 12 = .ok (.ldc 77, 2) := by decide +kernel
theorem dJxf58ca_floatToIntBits_5c35a_14 : decode cJxf58ca_floatToIntBits_5c35a 14 = .ok (.ireturn, 1) := by decide +kernel
theorem dJ6_bitCount_0f7a4_0 : decode cJ6_bitCount_0f7a4 0 = .ok (.iload_n 0, 1) := by decide +kernel
theorem dJ6_bitCount_0f7a4_1 : decode cJ6_bitCount_0f7a4 1 = .ok (.iload_n 0, 1) := by decide +kernel
theorem dJ6_bitCount_0f7a4_2 : decode cJ6_bitCount_0f7a4 2 = .ok (.iconst 1, 1) := by decide +kernel
theorem dJ6_bitCount_0f7a4_3 : decode cJ6_bitCount_0f7a4 3 = .ok (.iushr, 1) := by decide +kernel
theorem dJ6_bitCount_0f7a4_4 : decode cJ6_bitCount_0f7a4 4 = .ok (.ldc_w 265, 3) := by decide +kernel
theorem dJ6_bitCount_0f7a4_7 : decode cJ6_bitCount_0f7a4 7 = .ok (.iand, 1) := by decide +kernel
theorem dJ6_bitCount_0f7a4_8 : decode cJ6_bitCount_0f7a4 8 = .ok (.isub, 1) := by decide +kernel
theorem dJ6_bitCount_0f7a4_9 : decode cJ6_bitCount_0f7a4 9 = .ok (.istore_n 0, 1) := by decide +kernel
theorem dJ6_bitCount_0f7a4_10 : decode cJ6_bitCount_0f7a4 10 = .ok (.iload_n 0, 1) := by decide +kernel
theorem dJ6_bitCount_0f7a4_11 : decode cJ6_bitCount_0f7a4 11 = .ok (.ldc_w 266, 3) := by decide +kernel
theorem dJ6_bitCount_0f7a4_14 : decode cJ6_bitCount_0f7a4 14 = .ok (.iand, 1) := by decide +kernel
theorem dJ6_bitCount_0f7a4_15 : decode cJ6_bitCount_0f7a4 15 = .ok (.iload_n 0, 1) := by decide +kernel
theorem dJ6_bitCount_0f7a4_16 : decode cJ6_bitCount_0f7a4 16 = .ok (.iconst 2, 1) := by decide +kernel
theorem dJ6_bitCount_0f7a4_17 : decode cJ6_bitCount_0f7a4 17 = .ok (.iushr, 1) := by decide +kernel
theorem dJ6_bitCount_0f7a4_18 : decode cJ6_bitCount_0f7a4 18 = .ok (.ldc_w 266, 3) := by decide +kernel
theorem dJ6_bitCount_0f7a4_21 : decode cJ6_bitCount_0f7a4 21 = .ok (.iand, 1) := by decide +kernel
theorem dJ6_bitCount_0f7a4_22 : decode cJ6_bitCount_0f7a4 22 = .ok (.iadd, 1) := by decide +kernel
theorem dJ6_bitCount_0f7a4_23 : decode cJ6_bitCount_0f7a4 23 = .ok (.istore_n 0, 1) := by decide +kernel
theorem dJ6_bitCount_0f7a4_24 : decode cJ6_bitCount_0f7a4 24 = .ok (.iload_n 0, 1) := by decide +kernel
theorem dJ6_bitCount_0f7a4_25 : decode cJ6_bitCount_0f7a4 25 = .ok (.iload_n 0, 1) := by decide +kernel
theorem dJ6_bitCount_0f7a4_26 : decode cJ6_bitCount_0f7a4 26 = .ok (.iconst 4, 1) := by decide +kernel
theorem dJ6_bitCount_0f7a4_27 : decode cJ6_bitCount_0f7a4 27 = .ok (.iushr, 1) := by decide +kernel
theorem dJ6_bitCount_0f7a4_28 : decode cJ6_bitCount_0f7a4 28 = .ok (.iadd, 1) := by decide +kernel
theorem dJ6_bitCount_0f7a4_29 : decode cJ6_bitCount_0f7a4 29 = .ok (.ldc_w 267, 3) := by decide +kernel
theorem dJ6_bitCount_0f7a4_32 : decode cJ6_bitCount_0f7a4 32 = .ok (.iand, 1) := by decide +kernel
theorem dJ6_bitCount_0f7a4_33 : decode cJ6_bitCount_0f7a4 33 = .ok (.istore_n 0, 1) := by decide +kernel
theorem dJ6_bitCount_0f7a4_34 : decode cJ6_bitCount_0f7a4 34 = .ok (.iload_n 0, 1) := by decide +kernel
theorem dJ6_bitCount_0f7a4_35 : decode cJ6_bitCount_0f7a4 35 = .ok (.iload_n 0, 1) := by decide +kernel
theorem dJ6_bitCount_0f7a4_36 : decode cJ6_bitCount_0f7a4 36 = .ok (.bipush 8, 2) := by decide +kernel
theorem dJ6_bitCount_0f7a4_38 : decode cJ6_bitCount_0f7a4 38 = .ok (.iushr, 1) := by decide +kernel
theorem dJ6_bitCount_0f7a4_39 : decode cJ6_bitCount_0f7a4 39 = .ok (.iadd, 1) := by decide +kernel
theorem dJ6_bitCount_0f7a4_40 : decode cJ6_bitCount_0f7a4 40 = .ok (.istore_n 0, 1) := by decide +kernel
theorem dJ6_bitCount_0f7a4_41 : decode cJ6_bitCount_0f7a4 41 = .ok (.iload_n 0, 1) := by decide +kernel
theorem dJ6_bitCount_0f7a4_42 : decode cJ6_bitCount_0f7a4 42 = .ok (.iload_n 0, 1) := by decide +kernel
theorem dJ6_bitCount_0f7a4_43 : decode cJ6_bitCount_0f7a4 43 = .ok (.bipush 16, 2) := by decide +kernel
theorem dJ6_bitCount_0f7a4_45 : decode cJ6_bitCount_0f7a4 45 = .ok (.iushr, 1) := by decide +kernel
theorem dJ6_bitCount_0f7a4_46 : decode cJ6_bitCount_0f7a4 46 = .ok (.iadd, 1) := by decide +kernel
theorem dJ6_bitCount_0f7a4_47 : decode cJ6_bitCount_0f7a4 47 = .ok (.istore_n 0, 1) := by decide +kernel
theorem dJ6_bitCount_0f7a4_48 : decode cJ6_bitCount_0f7a4 48 = .ok (.iload_n 0, 1) := by decide +kernel
theorem dJ6_bitCount_0f7a4_49 : decode cJ6_bitCount_0f7a4 49 = .ok (.bipush 63, 2) := by decide +kernel
theorem dJ6_bitCount_0f7a4_51 : decode cJ6_bitCount_0f7a4 51 = .ok (.iand, 1) := by decide +kernel
theorem dJ6_bitCount_0f7a4_52 : decode cJ6_bitCount_0f7a4 52 = .ok (.ireturn, 1) := by decide +kernel
theorem dJ9_max_7cf53_0 : decode cJ9_max_7cf53 0 = .ok (.iload_n 0, 1) := by decide +kernel
theorem dJ9_max_7cf53_1 : decode cJ9_max_7cf53 1 = .ok (.iload_n 1, 1) := by decide +kernel
theorem dJ9_max_7cf53_2 : decode cJ9_max_7cf53 2 = .ok (.if_icmp .lt 7, 3) := by decide +kernel
theorem dJ9_max_7cf53_5 : decode cJ9_max_7cf53 5 = .ok (.iload_n 0, 1) := by decide +kernel
theorem dJ9_max_7cf53_6 : decode cJ9_max_7cf53 6 = .ok (.goto 4, 3) := by decide +kernel
theorem dJ9_max_7cf53_9 : decode cJ9_max_7cf53 9 = .ok (.iload_n 1, 1) := by decide +kernel
theorem dJ9_max_7cf53_10 : decode cJ9_max_7cf53 10 = .ok (.ireturn, 1) := by decide +kernel
theorem dJ9_min_7cf53_0 : decode cJ9_min_7cf53 0 = .ok (.iload_n 0, 1) := by decide +kernel
theorem dJ9_min_7cf53_1 : decode cJ9_min_7cf53 1 = .ok (.iload_n 1, 1) := by decide +kernel
theorem dJ9_min_7cf53_2 : decode cJ9_min_7cf53 2 = .ok (.if_icmp .gt 7, 3) := by decide +kernel
theorem dJ9_min_7cf53_5 : decode cJ9_min_7cf53 5 = .ok (.iload_n 0, 1) := by decide +kernel
theorem dJ9_min_7cf53_6 : decode cJ9_min_7cf53 6 = .ok (.goto 4, 3) := by decide +kernel
theorem dJ9_min_7cf53_9 : decode cJ9_min_7cf53 9 = .ok (.iload_n 1, 1) := by decide +kernel
theorem dJ9_min_7cf53_10 : decode cJ9_min_7cf53 10 = .ok (.ireturn, 1) := by decide +kernel
theorem dL_rate_0 : decode cL_rate 0 = .ok (.aload_n 3, 1) := by decide +kernel
theorem dL_rate_1 : decode cL_rate 1 = .ok (.iconst 0, 1) := by decide +kernel
theorem dL_rate_2 : decode cL_rate 2 = .ok (.aload_n 0, 1) := by decide +kernel
theorem dL_rate_3 : decode cL_rate 3 = .ok (.iload_n 1, 1) := by decide +kernel
theorem dL_rate_4 : decode cL_rate 4 = .ok (.iload_n 2, 1) := by decide +kernel
theorem dL_rate_5 : decode cL_rate 5 = .ok (.invokevirtual 7, 3) := by decide +kernel
theorem dL_rate_8 : decode cL_rate 8 = .ok (.i2l, 1) := by decide +kernel
theorem dL_rate_9 : decode cL_rate 9 = .ok (.lastore, 1) := by decide +kernel
theorem dL_rate_10 : decode cL_rate 10 = .ok (.goto 11, 3) := by decide +kernel
theorem dL_rate_13 : decode cL_rate 13 = .ok (.astore 4, 2) := by decide +kernel
theorem dL_rate_15 : decode cL_rate 15 = .ok (.iconst 1, 1) := by decide +kernel
theorem dL_rate_16 : decode cL_rate 16 = .ok (.ireturn, 1) := by decide +kernel
theorem dL_rate_17 : decode cL_rate 17 = .ok (.astore 4, 2) := by decide +kernel
theorem dL_rate_19 : decode cL_rate 19 = .ok (.iconst 2, 1) := by decide +kernel
theorem dL_rate_20 : decode cL_rate 20 = .ok (.ireturn, 1) := by decide +kernel
theorem dL_rate_21 : decode cL_rate 21 = .ok (.iconst 0, 1) := by decide +kernel
theorem dL_rate_22 : decode cL_rate 22 = .ok (.ireturn, 1) := by decide +kernel
theorem dL_pays_0 : decode cL_pays 0 = .ok (.aload_n 3, 1) := by decide +kernel
theorem dL_pays_1 : decode cL_pays 1 = .ok (.iconst 0, 1) := by decide +kernel
theorem dL_pays_2 : decode cL_pays 2 = .ok (.aload_n 0, 1) := by decide +kernel
theorem dL_pays_3 : decode cL_pays 3 = .ok (.iload_n 1, 1) := by decide +kernel
theorem dL_pays_4 : decode cL_pays 4 = .ok (.iload_n 2, 1) := by decide +kernel
theorem dL_pays_5 : decode cL_pays 5 = .ok (.invokevirtual 17, 3) := by decide +kernel
theorem dL_pays_8 : decode cL_pays 8 = .ok (.i2l, 1) := by decide +kernel
theorem dL_pays_9 : decode cL_pays 9 = .ok (.lastore, 1) := by decide +kernel
theorem dL_pays_10 : decode cL_pays 10 = .ok (.goto 11, 3) := by decide +kernel
theorem dL_pays_13 : decode cL_pays 13 = .ok (.astore 4, 2) := by decide +kernel
theorem dL_pays_15 : decode cL_pays 15 = .ok (.iconst 1, 1) := by decide +kernel
theorem dL_pays_16 : decode cL_pays 16 = .ok (.ireturn, 1) := by decide +kernel
theorem dL_pays_17 : decode cL_pays 17 = .ok (.astore 4, 2) := by decide +kernel
theorem dL_pays_19 : decode cL_pays 19 = .ok (.iconst 2, 1) := by decide +kernel
theorem dL_pays_20 : decode cL_pays 20 = .ok (.ireturn, 1) := by decide +kernel
theorem dL_pays_21 : decode cL_pays 21 = .ok (.iconst 0, 1) := by decide +kernel
theorem dL_pays_22 : decode cL_pays 22 = .ok (.ireturn, 1) := by decide +kernel
theorem dL_set_0 : decode cL_set 0 = .ok (.aload_n 3, 1) := by decide +kernel
theorem dL_set_1 : decode cL_set 1 = .ok (.iconst 0, 1) := by decide +kernel
theorem dL_set_2 : decode cL_set 2 = .ok (.aload_n 0, 1) := by decide +kernel
theorem dL_set_3 : decode cL_set 3 = .ok (.iload_n 1, 1) := by decide +kernel
theorem dL_set_4 : decode cL_set 4 = .ok (.iload_n 2, 1) := by decide +kernel
theorem dL_set_5 : decode cL_set 5 = .ok (.invokevirtual 20, 3) := by decide +kernel
theorem dL_set_8 : decode cL_set 8 = .ok (.i2l, 1) := by decide +kernel
theorem dL_set_9 : decode cL_set 9 = .ok (.lastore, 1) := by decide +kernel
theorem dL_set_10 : decode cL_set 10 = .ok (.goto 11, 3) := by decide +kernel
theorem dL_set_13 : decode cL_set 13 = .ok (.astore 4, 2) := by decide +kernel
theorem dL_set_15 : decode cL_set 15 = .ok (.iconst 1, 1) := by decide +kernel
theorem dL_set_16 : decode cL_set 16 = .ok (.ireturn, 1) := by decide +kernel
theorem dL_set_17 : decode cL_set 17 = .ok (.astore 4, 2) := by decide +kernel
theorem dL_set_19 : decode cL_set 19 = .ok (.iconst 2, 1) := by decide +kernel
theorem dL_set_20 : decode cL_set 20 = .ok (.ireturn, 1) := by decide +kernel
theorem dL_set_21 : decode cL_set 21 = .ok (.iconst 0, 1) := by decide +kernel
theorem dL_set_22 : decode cL_set 22 = .ok (.ireturn, 1) := by decide +kernel
theorem dL_assign_0 : decode cL_assign 0 = .ok (.aload_n 3, 1) := by decide +kernel
theorem dL_assign_1 : decode cL_assign 1 = .ok (.iconst 0, 1) := by decide +kernel
theorem dL_assign_2 : decode cL_assign 2 = .ok (.aload_n 0, 1) := by decide +kernel
theorem dL_assign_3 : decode cL_assign 3 = .ok (.iload_n 1, 1) := by decide +kernel
theorem dL_assign_4 : decode cL_assign 4 = .ok (.iload_n 2, 1) := by decide +kernel
theorem dL_assign_5 : decode cL_assign 5 = .ok (.invokevirtual 23, 3) := by decide +kernel
theorem dL_assign_8 : decode cL_assign 8 = .ok (.i2l, 1) := by decide +kernel
theorem dL_assign_9 : decode cL_assign 9 = .ok (.lastore, 1) := by decide +kernel
theorem dL_assign_10 : decode cL_assign 10 = .ok (.goto 11, 3) := by decide +kernel
theorem dL_assign_13 : decode cL_assign 13 = .ok (.astore 4, 2) := by decide +kernel
theorem dL_assign_15 : decode cL_assign 15 = .ok (.iconst 1, 1) := by decide +kernel
theorem dL_assign_16 : decode cL_assign 16 = .ok (.ireturn, 1) := by decide +kernel
theorem dL_assign_17 : decode cL_assign 17 = .ok (.astore 4, 2) := by decide +kernel
theorem dL_assign_19 : decode cL_assign 19 = .ok (.iconst 2, 1) := by decide +kernel
theorem dL_assign_20 : decode cL_assign 20 = .ok (.ireturn, 1) := by decide +kernel
theorem dL_assign_21 : decode cL_assign 21 = .ok (.iconst 0, 1) := by decide +kernel
theorem dL_assign_22 : decode cL_assign 22 = .ok (.ireturn, 1) := by decide +kernel
theorem dL_deliver_0 : decode cL_deliver 0 = .ok (.aload_n 2, 1) := by decide +kernel
theorem dL_deliver_1 : decode cL_deliver 1 = .ok (.iconst 0, 1) := by decide +kernel
theorem dL_deliver_2 : decode cL_deliver 2 = .ok (.aload_n 0, 1) := by decide +kernel
theorem dL_deliver_3 : decode cL_deliver 3 = .ok (.iload_n 1, 1) := by decide +kernel
theorem dL_deliver_4 : decode cL_deliver 4 = .ok (.invokevirtual 28, 3) := by decide +kernel
theorem dL_deliver_7 : decode cL_deliver 7 = .ok (.i2l, 1) := by decide +kernel
theorem dL_deliver_8 : decode cL_deliver 8 = .ok (.lastore, 1) := by decide +kernel
theorem dL_deliver_9 : decode cL_deliver 9 = .ok (.goto 9, 3) := by decide +kernel
theorem dL_deliver_12 : decode cL_deliver 12 = .ok (.astore_n 3, 1) := by decide +kernel
theorem dL_deliver_13 : decode cL_deliver 13 = .ok (.iconst 1, 1) := by decide +kernel
theorem dL_deliver_14 : decode cL_deliver 14 = .ok (.ireturn, 1) := by decide +kernel
theorem dL_deliver_15 : decode cL_deliver 15 = .ok (.astore_n 3, 1) := by decide +kernel
theorem dL_deliver_16 : decode cL_deliver 16 = .ok (.iconst 2, 1) := by decide +kernel
theorem dL_deliver_17 : decode cL_deliver 17 = .ok (.ireturn, 1) := by decide +kernel
theorem dL_deliver_18 : decode cL_deliver 18 = .ok (.iconst 0, 1) := by decide +kernel
theorem dL_deliver_19 : decode cL_deliver 19 = .ok (.ireturn, 1) := by decide +kernel
theorem dL_revise_0 : decode cL_revise 0 = .ok (.aload 4, 2) := by decide +kernel
theorem dL_revise_2 : decode cL_revise 2 = .ok (.iconst 0, 1) := by decide +kernel
theorem dL_revise_3 : decode cL_revise 3 = .ok (.aload_n 0, 1) := by decide +kernel
theorem dL_revise_4 : decode cL_revise 4 = .ok (.iload_n 1, 1) := by decide +kernel
theorem dL_revise_5 : decode cL_revise 5 = .ok (.iload_n 2, 1) := by decide +kernel
theorem dL_revise_6 : decode cL_revise 6 = .ok (.iload_n 3, 1) := by decide +kernel
theorem dL_revise_7 : decode cL_revise 7 = .ok (.invokevirtual 32, 3) := by decide +kernel
theorem dL_revise_10 : decode cL_revise 10 = .ok (.i2l, 1) := by decide +kernel
theorem dL_revise_11 : decode cL_revise 11 = .ok (.lastore, 1) := by decide +kernel
theorem dL_revise_12 : decode cL_revise 12 = .ok (.goto 15, 3) := by decide +kernel
theorem dL_revise_15 : decode cL_revise 15 = .ok (.astore 5, 2) := by decide +kernel
theorem dL_revise_17 : decode cL_revise 17 = .ok (.iconst 1, 1) := by decide +kernel
theorem dL_revise_18 : decode cL_revise 18 = .ok (.ireturn, 1) := by decide +kernel
theorem dL_revise_19 : decode cL_revise 19 = .ok (.astore 5, 2) := by decide +kernel
theorem dL_revise_21 : decode cL_revise 21 = .ok (.iconst 2, 1) := by decide +kernel
theorem dL_revise_22 : decode cL_revise 22 = .ok (.ireturn, 1) := by decide +kernel
theorem dL_revise_23 : decode cL_revise 23 = .ok (.astore 5, 2) := by decide +kernel
theorem dL_revise_25 : decode cL_revise 25 = .ok (.iconst 3, 1) := by decide +kernel
theorem dL_revise_26 : decode cL_revise 26 = .ok (.ireturn, 1) := by decide +kernel
theorem dL_revise_27 : decode cL_revise 27 = .ok (.iconst 0, 1) := by decide +kernel
theorem dL_revise_28 : decode cL_revise 28 = .ok (.ireturn, 1) := by decide +kernel
theorem dL_propose_0 : decode cL_propose 0 = .ok (.aload 4, 2) := by decide +kernel
theorem dL_propose_2 : decode cL_propose 2 = .ok (.iconst 0, 1) := by decide +kernel
theorem dL_propose_3 : decode cL_propose 3 = .ok (.aload_n 0, 1) := by decide +kernel
theorem dL_propose_4 : decode cL_propose 4 = .ok (.iload_n 1, 1) := by decide +kernel
theorem dL_propose_5 : decode cL_propose 5 = .ok (.iload_n 2, 1) := by decide +kernel
theorem dL_propose_6 : decode cL_propose 6 = .ok (.iload_n 3, 1) := by decide +kernel
theorem dL_propose_7 : decode cL_propose 7 = .ok (.invokevirtual 36, 3) := by decide +kernel
theorem dL_propose_10 : decode cL_propose 10 = .ok (.i2l, 1) := by decide +kernel
theorem dL_propose_11 : decode cL_propose 11 = .ok (.lastore, 1) := by decide +kernel
theorem dL_propose_12 : decode cL_propose 12 = .ok (.goto 15, 3) := by decide +kernel
theorem dL_propose_15 : decode cL_propose 15 = .ok (.astore 5, 2) := by decide +kernel
theorem dL_propose_17 : decode cL_propose 17 = .ok (.iconst 1, 1) := by decide +kernel
theorem dL_propose_18 : decode cL_propose 18 = .ok (.ireturn, 1) := by decide +kernel
theorem dL_propose_19 : decode cL_propose 19 = .ok (.astore 5, 2) := by decide +kernel
theorem dL_propose_21 : decode cL_propose 21 = .ok (.iconst 2, 1) := by decide +kernel
theorem dL_propose_22 : decode cL_propose 22 = .ok (.ireturn, 1) := by decide +kernel
theorem dL_propose_23 : decode cL_propose 23 = .ok (.astore 5, 2) := by decide +kernel
theorem dL_propose_25 : decode cL_propose 25 = .ok (.iconst 3, 1) := by decide +kernel
theorem dL_propose_26 : decode cL_propose 26 = .ok (.ireturn, 1) := by decide +kernel
theorem dL_propose_27 : decode cL_propose 27 = .ok (.iconst 0, 1) := by decide +kernel
theorem dL_propose_28 : decode cL_propose 28 = .ok (.ireturn, 1) := by decide +kernel
theorem dL_rule_0 : decode cL_rule 0 = .ok (.aload_n 3, 1) := by decide +kernel
theorem dL_rule_1 : decode cL_rule 1 = .ok (.iconst 0, 1) := by decide +kernel
theorem dL_rule_2 : decode cL_rule 2 = .ok (.aload_n 0, 1) := by decide +kernel
theorem dL_rule_3 : decode cL_rule 3 = .ok (.iload_n 1, 1) := by decide +kernel
theorem dL_rule_4 : decode cL_rule 4 = .ok (.iload_n 2, 1) := by decide +kernel
theorem dL_rule_5 : decode cL_rule 5 = .ok (.invokevirtual 39, 3) := by decide +kernel
theorem dL_rule_8 : decode cL_rule 8 = .ok (.i2l, 1) := by decide +kernel
theorem dL_rule_9 : decode cL_rule 9 = .ok (.lastore, 1) := by decide +kernel
theorem dL_rule_10 : decode cL_rule 10 = .ok (.goto 15, 3) := by decide +kernel
theorem dL_rule_13 : decode cL_rule 13 = .ok (.astore 4, 2) := by decide +kernel
theorem dL_rule_15 : decode cL_rule 15 = .ok (.iconst 1, 1) := by decide +kernel
theorem dL_rule_16 : decode cL_rule 16 = .ok (.ireturn, 1) := by decide +kernel
theorem dL_rule_17 : decode cL_rule 17 = .ok (.astore 4, 2) := by decide +kernel
theorem dL_rule_19 : decode cL_rule 19 = .ok (.iconst 2, 1) := by decide +kernel
theorem dL_rule_20 : decode cL_rule 20 = .ok (.ireturn, 1) := by decide +kernel
theorem dL_rule_21 : decode cL_rule 21 = .ok (.astore 4, 2) := by decide +kernel
theorem dL_rule_23 : decode cL_rule 23 = .ok (.iconst 3, 1) := by decide +kernel
theorem dL_rule_24 : decode cL_rule 24 = .ok (.ireturn, 1) := by decide +kernel
theorem dL_rule_25 : decode cL_rule 25 = .ok (.iconst 0, 1) := by decide +kernel
theorem dL_rule_26 : decode cL_rule 26 = .ok (.ireturn, 1) := by decide +kernel
theorem dL_append_0 : decode cL_append 0 = .ok (.aload_n 2, 1) := by decide +kernel
theorem dL_append_1 : decode cL_append 1 = .ok (.iconst 0, 1) := by decide +kernel
theorem dL_append_2 : decode cL_append 2 = .ok (.aload_n 0, 1) := by decide +kernel
theorem dL_append_3 : decode cL_append 3 = .ok (.iload_n 1, 1) := by decide +kernel
theorem dL_append_4 : decode cL_append 4 = .ok (.invokevirtual 42, 3) := by decide +kernel
theorem dL_append_7 : decode cL_append 7 = .ok (.i2l, 1) := by decide +kernel
theorem dL_append_8 : decode cL_append 8 = .ok (.lastore, 1) := by decide +kernel
theorem dL_append_9 : decode cL_append 9 = .ok (.goto 9, 3) := by decide +kernel
theorem dL_append_12 : decode cL_append 12 = .ok (.astore_n 3, 1) := by decide +kernel
theorem dL_append_13 : decode cL_append 13 = .ok (.iconst 1, 1) := by decide +kernel
theorem dL_append_14 : decode cL_append 14 = .ok (.ireturn, 1) := by decide +kernel
theorem dL_append_15 : decode cL_append 15 = .ok (.astore_n 3, 1) := by decide +kernel
theorem dL_append_16 : decode cL_append 16 = .ok (.iconst 2, 1) := by decide +kernel
theorem dL_append_17 : decode cL_append 17 = .ok (.ireturn, 1) := by decide +kernel
theorem dL_append_18 : decode cL_append 18 = .ok (.iconst 0, 1) := by decide +kernel
theorem dL_append_19 : decode cL_append 19 = .ok (.ireturn, 1) := by decide +kernel
theorem dL_add_0 : decode cL_add 0 = .ok (.aload_n 1, 1) := by decide +kernel
theorem dL_add_1 : decode cL_add 1 = .ok (.iconst 0, 1) := by decide +kernel
theorem dL_add_2 : decode cL_add 2 = .ok (.aload_n 0, 1) := by decide +kernel
theorem dL_add_3 : decode cL_add 3 = .ok (.invokevirtual 45, 3) := by decide +kernel
theorem dL_add_6 : decode cL_add 6 = .ok (.i2l, 1) := by decide +kernel
theorem dL_add_7 : decode cL_add 7 = .ok (.lastore, 1) := by decide +kernel
theorem dL_add_8 : decode cL_add 8 = .ok (.goto 9, 3) := by decide +kernel
theorem dL_add_11 : decode cL_add 11 = .ok (.astore_n 2, 1) := by decide +kernel
theorem dL_add_12 : decode cL_add 12 = .ok (.iconst 1, 1) := by decide +kernel
theorem dL_add_13 : decode cL_add 13 = .ok (.ireturn, 1) := by decide +kernel
theorem dL_add_14 : decode cL_add 14 = .ok (.astore_n 2, 1) := by decide +kernel
theorem dL_add_15 : decode cL_add 15 = .ok (.iconst 2, 1) := by decide +kernel
theorem dL_add_16 : decode cL_add 16 = .ok (.ireturn, 1) := by decide +kernel
theorem dL_add_17 : decode cL_add 17 = .ok (.iconst 0, 1) := by decide +kernel
theorem dL_add_18 : decode cL_add 18 = .ok (.ireturn, 1) := by decide +kernel
theorem dL_change_0 : decode cL_change 0 = .ok (.aload_n 2, 1) := by decide +kernel
theorem dL_change_1 : decode cL_change 1 = .ok (.iconst 0, 1) := by decide +kernel
theorem dL_change_2 : decode cL_change 2 = .ok (.aload_n 0, 1) := by decide +kernel
theorem dL_change_3 : decode cL_change 3 = .ok (.iload_n 1, 1) := by decide +kernel
theorem dL_change_4 : decode cL_change 4 = .ok (.invokevirtual 49, 3) := by decide +kernel
theorem dL_change_7 : decode cL_change 7 = .ok (.i2l, 1) := by decide +kernel
theorem dL_change_8 : decode cL_change 8 = .ok (.lastore, 1) := by decide +kernel
theorem dL_change_9 : decode cL_change 9 = .ok (.goto 9, 3) := by decide +kernel
theorem dL_change_12 : decode cL_change 12 = .ok (.astore_n 3, 1) := by decide +kernel
theorem dL_change_13 : decode cL_change 13 = .ok (.iconst 1, 1) := by decide +kernel
theorem dL_change_14 : decode cL_change 14 = .ok (.ireturn, 1) := by decide +kernel
theorem dL_change_15 : decode cL_change 15 = .ok (.astore_n 3, 1) := by decide +kernel
theorem dL_change_16 : decode cL_change 16 = .ok (.iconst 2, 1) := by decide +kernel
theorem dL_change_17 : decode cL_change 17 = .ok (.ireturn, 1) := by decide +kernel
theorem dL_change_18 : decode cL_change 18 = .ok (.iconst 0, 1) := by decide +kernel
theorem dL_change_19 : decode cL_change 19 = .ok (.ireturn, 1) := by decide +kernel
theorem dL_undo_0 : decode cL_undo 0 = .ok (.aload_n 1, 1) := by decide +kernel
theorem dL_undo_1 : decode cL_undo 1 = .ok (.iconst 0, 1) := by decide +kernel
theorem dL_undo_2 : decode cL_undo 2 = .ok (.aload_n 0, 1) := by decide +kernel
theorem dL_undo_3 : decode cL_undo 3 = .ok (.invokevirtual 52, 3) := by decide +kernel
theorem dL_undo_6 : decode cL_undo 6 = .ok (.i2l, 1) := by decide +kernel
theorem dL_undo_7 : decode cL_undo 7 = .ok (.lastore, 1) := by decide +kernel
theorem dL_undo_8 : decode cL_undo 8 = .ok (.goto 6, 3) := by decide +kernel
theorem dL_undo_11 : decode cL_undo 11 = .ok (.astore_n 2, 1) := by decide +kernel
theorem dL_undo_12 : decode cL_undo 12 = .ok (.iconst 1, 1) := by decide +kernel
theorem dL_undo_13 : decode cL_undo 13 = .ok (.ireturn, 1) := by decide +kernel
theorem dL_undo_14 : decode cL_undo 14 = .ok (.iconst 0, 1) := by decide +kernel
theorem dL_undo_15 : decode cL_undo 15 = .ok (.ireturn, 1) := by decide +kernel
theorem dL_segment_0 : decode cL_segment 0 = .ok (.aload_n 3, 1) := by decide +kernel
theorem dL_segment_1 : decode cL_segment 1 = .ok (.iconst 0, 1) := by decide +kernel
theorem dL_segment_2 : decode cL_segment 2 = .ok (.aload_n 0, 1) := by decide +kernel
theorem dL_segment_3 : decode cL_segment 3 = .ok (.iload_n 1, 1) := by decide +kernel
theorem dL_segment_4 : decode cL_segment 4 = .ok (.iload_n 2, 1) := by decide +kernel
theorem dL_segment_5 : decode cL_segment 5 = .ok (.invokevirtual 55, 3) := by decide +kernel
theorem dL_segment_8 : decode cL_segment 8 = .ok (.i2l, 1) := by decide +kernel
theorem dL_segment_9 : decode cL_segment 9 = .ok (.lastore, 1) := by decide +kernel
theorem dL_segment_10 : decode cL_segment 10 = .ok (.goto 11, 3) := by decide +kernel
theorem dL_segment_13 : decode cL_segment 13 = .ok (.astore 4, 2) := by decide +kernel
theorem dL_segment_15 : decode cL_segment 15 = .ok (.iconst 1, 1) := by decide +kernel
theorem dL_segment_16 : decode cL_segment 16 = .ok (.ireturn, 1) := by decide +kernel
theorem dL_segment_17 : decode cL_segment 17 = .ok (.astore 4, 2) := by decide +kernel
theorem dL_segment_19 : decode cL_segment 19 = .ok (.iconst 2, 1) := by decide +kernel
theorem dL_segment_20 : decode cL_segment 20 = .ok (.ireturn, 1) := by decide +kernel
theorem dL_segment_21 : decode cL_segment 21 = .ok (.iconst 0, 1) := by decide +kernel
theorem dL_segment_22 : decode cL_segment 22 = .ok (.ireturn, 1) := by decide +kernel
theorem dL_word_0 : decode cL_word 0 = .ok (.aload_n 3, 1) := by decide +kernel
theorem dL_word_1 : decode cL_word 1 = .ok (.iconst 0, 1) := by decide +kernel
theorem dL_word_2 : decode cL_word 2 = .ok (.aload_n 0, 1) := by decide +kernel
theorem dL_word_3 : decode cL_word 3 = .ok (.iload_n 1, 1) := by decide +kernel
theorem dL_word_4 : decode cL_word 4 = .ok (.iload_n 2, 1) := by decide +kernel
theorem dL_word_5 : decode cL_word 5 = .ok (.invokevirtual 58, 3) := by decide +kernel
theorem dL_word_8 : decode cL_word 8 = .ok (.i2l, 1) := by decide +kernel
theorem dL_word_9 : decode cL_word 9 = .ok (.lastore, 1) := by decide +kernel
theorem dL_word_10 : decode cL_word 10 = .ok (.goto 11, 3) := by decide +kernel
theorem dL_word_13 : decode cL_word 13 = .ok (.astore 4, 2) := by decide +kernel
theorem dL_word_15 : decode cL_word 15 = .ok (.iconst 1, 1) := by decide +kernel
theorem dL_word_16 : decode cL_word 16 = .ok (.ireturn, 1) := by decide +kernel
theorem dL_word_17 : decode cL_word 17 = .ok (.astore 4, 2) := by decide +kernel
theorem dL_word_19 : decode cL_word 19 = .ok (.iconst 2, 1) := by decide +kernel
theorem dL_word_20 : decode cL_word 20 = .ok (.ireturn, 1) := by decide +kernel
theorem dL_word_21 : decode cL_word 21 = .ok (.iconst 0, 1) := by decide +kernel
theorem dL_word_22 : decode cL_word 22 = .ok (.ireturn, 1) := by decide +kernel
theorem dL_remembered_0 : decode cL_remembered 0 = .ok (.aload_n 3, 1) := by decide +kernel
theorem dL_remembered_1 : decode cL_remembered 1 = .ok (.iconst 0, 1) := by decide +kernel
theorem dL_remembered_2 : decode cL_remembered 2 = .ok (.aload_n 0, 1) := by decide +kernel
theorem dL_remembered_3 : decode cL_remembered 3 = .ok (.iload_n 1, 1) := by decide +kernel
theorem dL_remembered_4 : decode cL_remembered 4 = .ok (.iload_n 2, 1) := by decide +kernel
theorem dL_remembered_5 : decode cL_remembered 5 = .ok (.invokevirtual 61, 3) := by decide +kernel
theorem dL_remembered_8 : decode cL_remembered 8 = .ok (.i2l, 1) := by decide +kernel
theorem dL_remembered_9 : decode cL_remembered 9 = .ok (.lastore, 1) := by decide +kernel
theorem dL_remembered_10 : decode cL_remembered 10 = .ok (.goto 11, 3) := by decide +kernel
theorem dL_remembered_13 : decode cL_remembered 13 = .ok (.astore 4, 2) := by decide +kernel
theorem dL_remembered_15 : decode cL_remembered 15 = .ok (.iconst 1, 1) := by decide +kernel
theorem dL_remembered_16 : decode cL_remembered 16 = .ok (.ireturn, 1) := by decide +kernel
theorem dL_remembered_17 : decode cL_remembered 17 = .ok (.astore 4, 2) := by decide +kernel
theorem dL_remembered_19 : decode cL_remembered 19 = .ok (.iconst 2, 1) := by decide +kernel
theorem dL_remembered_20 : decode cL_remembered 20 = .ok (.ireturn, 1) := by decide +kernel
theorem dL_remembered_21 : decode cL_remembered 21 = .ok (.iconst 0, 1) := by decide +kernel
theorem dL_remembered_22 : decode cL_remembered 22 = .ok (.ireturn, 1) := by decide +kernel
theorem dL_translator_0 : decode cL_translator 0 = .ok (.aload_n 3, 1) := by decide +kernel
theorem dL_translator_1 : decode cL_translator 1 = .ok (.iconst 0, 1) := by decide +kernel
theorem dL_translator_2 : decode cL_translator 2 = .ok (.aload_n 0, 1) := by decide +kernel
theorem dL_translator_3 : decode cL_translator 3 = .ok (.iload_n 1, 1) := by decide +kernel
theorem dL_translator_4 : decode cL_translator 4 = .ok (.iload_n 2, 1) := by decide +kernel
theorem dL_translator_5 : decode cL_translator 5 = .ok (.invokevirtual 64, 3) := by decide +kernel
theorem dL_translator_8 : decode cL_translator 8 = .ok (.i2l, 1) := by decide +kernel
theorem dL_translator_9 : decode cL_translator 9 = .ok (.lastore, 1) := by decide +kernel
theorem dL_translator_10 : decode cL_translator 10 = .ok (.goto 11, 3) := by decide +kernel
theorem dL_translator_13 : decode cL_translator 13 = .ok (.astore 4, 2) := by decide +kernel
theorem dL_translator_15 : decode cL_translator 15 = .ok (.iconst 1, 1) := by decide +kernel
theorem dL_translator_16 : decode cL_translator 16 = .ok (.ireturn, 1) := by decide +kernel
theorem dL_translator_17 : decode cL_translator 17 = .ok (.astore 4, 2) := by decide +kernel
theorem dL_translator_19 : decode cL_translator 19 = .ok (.iconst 2, 1) := by decide +kernel
theorem dL_translator_20 : decode cL_translator 20 = .ok (.ireturn, 1) := by decide +kernel
theorem dL_translator_21 : decode cL_translator 21 = .ok (.iconst 0, 1) := by decide +kernel
theorem dL_translator_22 : decode cL_translator 22 = .ok (.ireturn, 1) := by decide +kernel
theorem dL_term_0 : decode cL_term 0 = .ok (.aload_n 3, 1) := by decide +kernel
theorem dL_term_1 : decode cL_term 1 = .ok (.iconst 0, 1) := by decide +kernel
theorem dL_term_2 : decode cL_term 2 = .ok (.aload_n 0, 1) := by decide +kernel
theorem dL_term_3 : decode cL_term 3 = .ok (.iload_n 1, 1) := by decide +kernel
theorem dL_term_4 : decode cL_term 4 = .ok (.iload_n 2, 1) := by decide +kernel
theorem dL_term_5 : decode cL_term 5 = .ok (.invokevirtual 67, 3) := by decide +kernel
theorem dL_term_8 : decode cL_term 8 = .ok (.i2l, 1) := by decide +kernel
theorem dL_term_9 : decode cL_term 9 = .ok (.lastore, 1) := by decide +kernel
theorem dL_term_10 : decode cL_term 10 = .ok (.goto 11, 3) := by decide +kernel
theorem dL_term_13 : decode cL_term 13 = .ok (.astore 4, 2) := by decide +kernel
theorem dL_term_15 : decode cL_term 15 = .ok (.iconst 1, 1) := by decide +kernel
theorem dL_term_16 : decode cL_term 16 = .ok (.ireturn, 1) := by decide +kernel
theorem dL_term_17 : decode cL_term 17 = .ok (.astore 4, 2) := by decide +kernel
theorem dL_term_19 : decode cL_term 19 = .ok (.iconst 2, 1) := by decide +kernel
theorem dL_term_20 : decode cL_term 20 = .ok (.ireturn, 1) := by decide +kernel
theorem dL_term_21 : decode cL_term 21 = .ok (.iconst 0, 1) := by decide +kernel
theorem dL_term_22 : decode cL_term 22 = .ok (.ireturn, 1) := by decide +kernel
theorem dL_band_0 : decode cL_band 0 = .ok (.aload_n 3, 1) := by decide +kernel
theorem dL_band_1 : decode cL_band 1 = .ok (.iconst 0, 1) := by decide +kernel
theorem dL_band_2 : decode cL_band 2 = .ok (.aload_n 0, 1) := by decide +kernel
theorem dL_band_3 : decode cL_band 3 = .ok (.iload_n 1, 1) := by decide +kernel
theorem dL_band_4 : decode cL_band 4 = .ok (.iload_n 2, 1) := by decide +kernel
theorem dL_band_5 : decode cL_band 5 = .ok (.invokevirtual 70, 3) := by decide +kernel
theorem dL_band_8 : decode cL_band 8 = .ok (.i2l, 1) := by decide +kernel
theorem dL_band_9 : decode cL_band 9 = .ok (.lastore, 1) := by decide +kernel
theorem dL_band_10 : decode cL_band 10 = .ok (.goto 11, 3) := by decide +kernel
theorem dL_band_13 : decode cL_band 13 = .ok (.astore 4, 2) := by decide +kernel
theorem dL_band_15 : decode cL_band 15 = .ok (.iconst 1, 1) := by decide +kernel
theorem dL_band_16 : decode cL_band 16 = .ok (.ireturn, 1) := by decide +kernel
theorem dL_band_17 : decode cL_band 17 = .ok (.astore 4, 2) := by decide +kernel
theorem dL_band_19 : decode cL_band 19 = .ok (.iconst 2, 1) := by decide +kernel
theorem dL_band_20 : decode cL_band 20 = .ok (.ireturn, 1) := by decide +kernel
theorem dL_band_21 : decode cL_band 21 = .ok (.iconst 0, 1) := by decide +kernel
theorem dL_band_22 : decode cL_band 22 = .ok (.ireturn, 1) := by decide +kernel
theorem dL_count_0 : decode cL_count 0 = .ok (.aload_n 2, 1) := by decide +kernel
theorem dL_count_1 : decode cL_count 1 = .ok (.iconst 0, 1) := by decide +kernel
theorem dL_count_2 : decode cL_count 2 = .ok (.aload_n 0, 1) := by decide +kernel
theorem dL_count_3 : decode cL_count 3 = .ok (.iload_n 1, 1) := by decide +kernel
theorem dL_count_4 : decode cL_count 4 = .ok (.invokevirtual 73, 3) := by decide +kernel
theorem dL_count_7 : decode cL_count 7 = .ok (.i2l, 1) := by decide +kernel
theorem dL_count_8 : decode cL_count 8 = .ok (.lastore, 1) := by decide +kernel
theorem dL_count_9 : decode cL_count 9 = .ok (.goto 6, 3) := by decide +kernel
theorem dL_count_12 : decode cL_count 12 = .ok (.astore_n 3, 1) := by decide +kernel
theorem dL_count_13 : decode cL_count 13 = .ok (.iconst 1, 1) := by decide +kernel
theorem dL_count_14 : decode cL_count 14 = .ok (.ireturn, 1) := by decide +kernel
theorem dL_count_15 : decode cL_count 15 = .ok (.iconst 0, 1) := by decide +kernel
theorem dL_count_16 : decode cL_count 16 = .ok (.ireturn, 1) := by decide +kernel
theorem dL_setting_0 : decode cL_setting 0 = .ok (.aload_n 2, 1) := by decide +kernel
theorem dL_setting_1 : decode cL_setting 1 = .ok (.iconst 0, 1) := by decide +kernel
theorem dL_setting_2 : decode cL_setting 2 = .ok (.aload_n 0, 1) := by decide +kernel
theorem dL_setting_3 : decode cL_setting 3 = .ok (.iload_n 1, 1) := by decide +kernel
theorem dL_setting_4 : decode cL_setting 4 = .ok (.invokevirtual 76, 3) := by decide +kernel
theorem dL_setting_7 : decode cL_setting 7 = .ok (.i2l, 1) := by decide +kernel
theorem dL_setting_8 : decode cL_setting 8 = .ok (.lastore, 1) := by decide +kernel
theorem dL_setting_9 : decode cL_setting 9 = .ok (.goto 6, 3) := by decide +kernel
theorem dL_setting_12 : decode cL_setting 12 = .ok (.astore_n 3, 1) := by decide +kernel
theorem dL_setting_13 : decode cL_setting 13 = .ok (.iconst 1, 1) := by decide +kernel
theorem dL_setting_14 : decode cL_setting 14 = .ok (.ireturn, 1) := by decide +kernel
theorem dL_setting_15 : decode cL_setting 15 = .ok (.iconst 0, 1) := by decide +kernel
theorem dL_setting_16 : decode cL_setting 16 = .ok (.ireturn, 1) := by decide +kernel
theorem dL_near_0 : decode cL_near 0 = .ok (.aload 4, 2) := by decide +kernel
theorem dL_near_2 : decode cL_near 2 = .ok (.iconst 0, 1) := by decide +kernel
theorem dL_near_3 : decode cL_near 3 = .ok (.aload_n 0, 1) := by decide +kernel
theorem dL_near_4 : decode cL_near 4 = .ok (.iload_n 1, 1) := by decide +kernel
theorem dL_near_5 : decode cL_near 5 = .ok (.iload_n 2, 1) := by decide +kernel
theorem dL_near_6 : decode cL_near 6 = .ok (.iload_n 3, 1) := by decide +kernel
theorem dL_near_7 : decode cL_near 7 = .ok (.invokevirtual 79, 3) := by decide +kernel
theorem dL_near_10 : decode cL_near 10 = .ok (.i2l, 1) := by decide +kernel
theorem dL_near_11 : decode cL_near 11 = .ok (.lastore, 1) := by decide +kernel
theorem dL_near_12 : decode cL_near 12 = .ok (.goto 11, 3) := by decide +kernel
theorem dL_near_15 : decode cL_near 15 = .ok (.astore 5, 2) := by decide +kernel
theorem dL_near_17 : decode cL_near 17 = .ok (.iconst 1, 1) := by decide +kernel
theorem dL_near_18 : decode cL_near 18 = .ok (.ireturn, 1) := by decide +kernel
theorem dL_near_19 : decode cL_near 19 = .ok (.astore 5, 2) := by decide +kernel
theorem dL_near_21 : decode cL_near 21 = .ok (.iconst 2, 1) := by decide +kernel
theorem dL_near_22 : decode cL_near 22 = .ok (.ireturn, 1) := by decide +kernel
theorem dL_near_23 : decode cL_near 23 = .ok (.iconst 0, 1) := by decide +kernel
theorem dL_near_24 : decode cL_near 24 = .ok (.ireturn, 1) := by decide +kernel
theorem dL_common_0 : decode cL_common 0 = .ok (.aload 4, 2) := by decide +kernel
theorem dL_common_2 : decode cL_common 2 = .ok (.iconst 0, 1) := by decide +kernel
theorem dL_common_3 : decode cL_common 3 = .ok (.aload_n 0, 1) := by decide +kernel
theorem dL_common_4 : decode cL_common 4 = .ok (.iload_n 1, 1) := by decide +kernel
theorem dL_common_5 : decode cL_common 5 = .ok (.iload_n 2, 1) := by decide +kernel
theorem dL_common_6 : decode cL_common 6 = .ok (.iload_n 3, 1) := by decide +kernel
theorem dL_common_7 : decode cL_common 7 = .ok (.invokevirtual 82, 3) := by decide +kernel
theorem dL_common_10 : decode cL_common 10 = .ok (.i2l, 1) := by decide +kernel
theorem dL_common_11 : decode cL_common 11 = .ok (.lastore, 1) := by decide +kernel
theorem dL_common_12 : decode cL_common 12 = .ok (.goto 11, 3) := by decide +kernel
theorem dL_common_15 : decode cL_common 15 = .ok (.astore 5, 2) := by decide +kernel
theorem dL_common_17 : decode cL_common 17 = .ok (.iconst 1, 1) := by decide +kernel
theorem dL_common_18 : decode cL_common 18 = .ok (.ireturn, 1) := by decide +kernel
theorem dL_common_19 : decode cL_common 19 = .ok (.astore 5, 2) := by decide +kernel
theorem dL_common_21 : decode cL_common 21 = .ok (.iconst 2, 1) := by decide +kernel
theorem dL_common_22 : decode cL_common 22 = .ok (.ireturn, 1) := by decide +kernel
theorem dL_common_23 : decode cL_common 23 = .ok (.iconst 0, 1) := by decide +kernel
theorem dL_common_24 : decode cL_common 24 = .ok (.ireturn, 1) := by decide +kernel
theorem dL_ifPaid_0 : decode cL_ifPaid 0 = .ok (.aload_n 3, 1) := by decide +kernel
theorem dL_ifPaid_1 : decode cL_ifPaid 1 = .ok (.iconst 0, 1) := by decide +kernel
theorem dL_ifPaid_2 : decode cL_ifPaid 2 = .ok (.aload_n 0, 1) := by decide +kernel
theorem dL_ifPaid_3 : decode cL_ifPaid 3 = .ok (.iload_n 1, 1) := by decide +kernel
theorem dL_ifPaid_4 : decode cL_ifPaid 4 = .ok (.iload_n 2, 1) := by decide +kernel
theorem dL_ifPaid_5 : decode cL_ifPaid 5 = .ok (.invokevirtual 85, 3) := by decide +kernel
theorem dL_ifPaid_8 : decode cL_ifPaid 8 = .ok (.i2l, 1) := by decide +kernel
theorem dL_ifPaid_9 : decode cL_ifPaid 9 = .ok (.lastore, 1) := by decide +kernel
theorem dL_ifPaid_10 : decode cL_ifPaid 10 = .ok (.goto 7, 3) := by decide +kernel
theorem dL_ifPaid_13 : decode cL_ifPaid 13 = .ok (.astore 4, 2) := by decide +kernel
theorem dL_ifPaid_15 : decode cL_ifPaid 15 = .ok (.iconst 1, 1) := by decide +kernel
theorem dL_ifPaid_16 : decode cL_ifPaid 16 = .ok (.ireturn, 1) := by decide +kernel
theorem dL_ifPaid_17 : decode cL_ifPaid 17 = .ok (.iconst 0, 1) := by decide +kernel
theorem dL_ifPaid_18 : decode cL_ifPaid 18 = .ok (.ireturn, 1) := by decide +kernel
theorem dL_orderMatters_0 : decode cL_orderMatters 0 = .ok (.aload_n 3, 1) := by decide +kernel
theorem dL_orderMatters_1 : decode cL_orderMatters 1 = .ok (.iconst 0, 1) := by decide +kernel
theorem dL_orderMatters_2 : decode cL_orderMatters 2 = .ok (.aload_n 0, 1) := by decide +kernel
theorem dL_orderMatters_3 : decode cL_orderMatters 3 = .ok (.iload_n 1, 1) := by decide +kernel
theorem dL_orderMatters_4 : decode cL_orderMatters 4 = .ok (.iload_n 2, 1) := by decide +kernel
theorem dL_orderMatters_5 : decode cL_orderMatters 5 = .ok (.invokevirtual 88, 3) := by decide +kernel
theorem dL_orderMatters_8 : decode cL_orderMatters 8 = .ok (.i2l, 1) := by decide +kernel
theorem dL_orderMatters_9 : decode cL_orderMatters 9 = .ok (.lastore, 1) := by decide +kernel
theorem dL_orderMatters_10 : decode cL_orderMatters 10 = .ok (.goto 15, 3) := by decide +kernel
theorem dL_orderMatters_13 : decode cL_orderMatters 13 = .ok (.astore 4, 2) := by decide +kernel
theorem dL_orderMatters_15 : decode cL_orderMatters 15 = .ok (.iconst 1, 1) := by decide +kernel
theorem dL_orderMatters_16 : decode cL_orderMatters 16 = .ok (.ireturn, 1) := by decide +kernel
theorem dL_orderMatters_17 : decode cL_orderMatters 17 = .ok (.astore 4, 2) := by decide +kernel
theorem dL_orderMatters_19 : decode cL_orderMatters 19 = .ok (.iconst 2, 1) := by decide +kernel
theorem dL_orderMatters_20 : decode cL_orderMatters 20 = .ok (.ireturn, 1) := by decide +kernel
theorem dL_orderMatters_21 : decode cL_orderMatters 21 = .ok (.astore 4, 2) := by decide +kernel
theorem dL_orderMatters_23 : decode cL_orderMatters 23 = .ok (.iconst 3, 1) := by decide +kernel
theorem dL_orderMatters_24 : decode cL_orderMatters 24 = .ok (.ireturn, 1) := by decide +kernel
theorem dL_orderMatters_25 : decode cL_orderMatters 25 = .ok (.iconst 0, 1) := by decide +kernel
theorem dL_orderMatters_26 : decode cL_orderMatters 26 = .ok (.ireturn, 1) := by decide +kernel
theorem dL_law_0 : decode cL_law 0 = .ok (.new 8, 3) := by decide +kernel
theorem dL_law_3 : decode cL_law 3 = .ok (.dup, 1) := by decide +kernel
theorem dL_law_4 : decode cL_law 4 = .ok (.invokespecial 91, 3) := by decide +kernel
theorem dL_law_7 : decode cL_law 7 = .ok (.astore_n 1, 1) := by decide +kernel
theorem dL_law_8 : decode cL_law 8 = .ok (.new 92, 3) := by decide +kernel
theorem dL_law_11 : decode cL_law 11 = .ok (.dup, 1) := by decide +kernel
theorem dL_law_12 : decode cL_law 12 = .ok (.invokespecial 94, 3) := by decide +kernel
theorem dL_law_15 : decode cL_law 15 = .ok (.astore_n 2, 1) := by decide +kernel
theorem dL_law_16 : decode cL_law 16 = .ok (.iconst 1, 1) := by decide +kernel
theorem dL_law_17 : decode cL_law 17 = .ok (.newarray .long, 2) := by decide +kernel
theorem dL_law_19 : decode cL_law 19 = .ok (.astore_n 3, 1) := by decide +kernel
theorem dL_law_20 : decode cL_law 20 = .ok (.iconst 0, 1) := by decide +kernel
theorem dL_law_21 : decode cL_law 21 = .ok (.istore 4, 2) := by decide +kernel
theorem dL_law_23 : decode cL_law 23 = .ok (.iload 4, 2) := by decide +kernel
theorem dL_law_25 : decode cL_law 25 = .ok (.aload_n 0, 1) := by decide +kernel
theorem dL_law_26 : decode cL_law 26 = .ok (.arraylength, 1) := by decide +kernel
theorem dL_law_27 : decode cL_law 27 = .ok (.iconst 4, 1) := by decide +kernel
theorem dL_law_28 : decode cL_law 28 = .ok (.isub, 1) := by decide +kernel
theorem dL_law_29 : decode cL_law 29 = .ok (.if_icmp .gt 1811, 3) := by decide +kernel
theorem dL_law_32 : decode cL_law 32 = .ok (.aload_n 0, 1) := by decide +kernel
theorem dL_law_33 : decode cL_law 33 = .ok (.iload 4, 2) := by decide +kernel
theorem dL_law_35 : decode cL_law 35 = .ok (.iaload, 1) := by decide +kernel
theorem dL_law_36 : decode cL_law 36 = .ok (.bipush 31, 2) := by decide +kernel
theorem dL_law_38 : decode cL_law 38 = .ok (.iand, 1) := by decide +kernel
theorem dL_law_39 : decode cL_law 39 = .ok (.tableswitch 1795 0 28 #[129, 197, 265, 333, 401, 457, 537, 617, 685, 741, 754, 767, 811, 867, 911, 979, 1047, 1115, 1183, 1251, 1319, 1375, 1431, 1511, 1591, 1659, 1727, 1740, 1781], 129) := by decide +kernel
theorem dL_law_168 : decode cL_law 168 = .ok (.aload_n 1, 1) := by decide +kernel
theorem dL_law_169 : decode cL_law 169 = .ok (.aload_n 0, 1) := by decide +kernel
theorem dL_law_170 : decode cL_law 170 = .ok (.iload 4, 2) := by decide +kernel
theorem dL_law_172 : decode cL_law 172 = .ok (.iconst 1, 1) := by decide +kernel
theorem dL_law_173 : decode cL_law 173 = .ok (.iadd, 1) := by decide +kernel
theorem dL_law_174 : decode cL_law 174 = .ok (.iaload, 1) := by decide +kernel
theorem dL_law_175 : decode cL_law 175 = .ok (.aload_n 0, 1) := by decide +kernel
theorem dL_law_176 : decode cL_law 176 = .ok (.iload 4, 2) := by decide +kernel
theorem dL_law_178 : decode cL_law 178 = .ok (.iconst 2, 1) := by decide +kernel
theorem dL_law_179 : decode cL_law 179 = .ok (.iadd, 1) := by decide +kernel
theorem dL_law_180 : decode cL_law 180 = .ok (.iaload, 1) := by decide +kernel
theorem dL_law_181 : decode cL_law 181 = .ok (.aload_n 3, 1) := by decide +kernel
theorem dL_law_182 : decode cL_law 182 = .ok (.invokestatic 95, 3) := by decide +kernel
theorem dL_law_185 : decode cL_law 185 = .ok (.istore 5, 2) := by decide +kernel
theorem dL_law_187 : decode cL_law 187 = .ok (.aload_n 2, 1) := by decide +kernel
theorem dL_law_188 : decode cL_law 188 = .ok (.aload_n 0, 1) := by decide +kernel
theorem dL_law_189 : decode cL_law 189 = .ok (.iload 4, 2) := by decide +kernel
theorem dL_law_191 : decode cL_law 191 = .ok (.iconst 1, 1) := by decide +kernel
theorem dL_law_192 : decode cL_law 192 = .ok (.iadd, 1) := by decide +kernel
theorem dL_law_193 : decode cL_law 193 = .ok (.iaload, 1) := by decide +kernel
theorem dL_law_194 : decode cL_law 194 = .ok (.aload_n 0, 1) := by decide +kernel
theorem dL_law_195 : decode cL_law 195 = .ok (.iload 4, 2) := by decide +kernel
theorem dL_law_197 : decode cL_law 197 = .ok (.iconst 2, 1) := by decide +kernel
theorem dL_law_198 : decode cL_law 198 = .ok (.iadd, 1) := by decide +kernel
theorem dL_law_199 : decode cL_law 199 = .ok (.iaload, 1) := by decide +kernel
theorem dL_law_200 : decode cL_law 200 = .ok (.invokevirtual 100, 3) := by decide +kernel
theorem dL_law_203 : decode cL_law 203 = .ok (.istore 6, 2) := by decide +kernel
theorem dL_law_205 : decode cL_law 205 = .ok (.aload_n 2, 1) := by decide +kernel
theorem dL_law_206 : decode cL_law 206 = .ok (.invokevirtual 101, 3) := by decide +kernel
theorem dL_law_209 : decode cL_law 209 = .ok (.iload 5, 2) := by decide +kernel
theorem dL_law_211 : decode cL_law 211 = .ok (.if_icmp .eq 5, 3) := by decide +kernel
theorem dL_law_214 : decode cL_law 214 = .ok (.iconst 0, 1) := by decide +kernel
theorem dL_law_215 : decode cL_law 215 = .ok (.ireturn, 1) := by decide +kernel
theorem dL_law_216 : decode cL_law 216 = .ok (.iload 5, 2) := by decide +kernel
theorem dL_law_218 : decode cL_law 218 = .ok (.ifCond .ne 15, 3) := by decide +kernel
theorem dL_law_221 : decode cL_law 221 = .ok (.aload_n 3, 1) := by decide +kernel
theorem dL_law_222 : decode cL_law 222 = .ok (.iconst 0, 1) := by decide +kernel
theorem dL_law_223 : decode cL_law 223 = .ok (.laload, 1) := by decide +kernel
theorem dL_law_224 : decode cL_law 224 = .ok (.iload 6, 2) := by decide +kernel
theorem dL_law_226 : decode cL_law 226 = .ok (.i2l, 1) := by decide +kernel
theorem dL_law_227 : decode cL_law 227 = .ok (.lcmp, 1) := by decide +kernel
theorem dL_law_228 : decode cL_law 228 = .ok (.ifCond .eq 5, 3) := by decide +kernel
theorem dL_law_231 : decode cL_law 231 = .ok (.iconst 0, 1) := by decide +kernel
theorem dL_law_232 : decode cL_law 232 = .ok (.ireturn, 1) := by decide +kernel
theorem dL_law_233 : decode cL_law 233 = .ok (.goto 1601, 3) := by decide +kernel
theorem dL_law_236 : decode cL_law 236 = .ok (.aload_n 1, 1) := by decide +kernel
theorem dL_law_237 : decode cL_law 237 = .ok (.aload_n 0, 1) := by decide +kernel
theorem dL_law_238 : decode cL_law 238 = .ok (.iload 4, 2) := by decide +kernel
theorem dL_law_240 : decode cL_law 240 = .ok (.iconst 1, 1) := by decide +kernel
theorem dL_law_241 : decode cL_law 241 = .ok (.iadd, 1) := by decide +kernel
theorem dL_law_242 : decode cL_law 242 = .ok (.iaload, 1) := by decide +kernel
theorem dL_law_243 : decode cL_law 243 = .ok (.aload_n 0, 1) := by decide +kernel
theorem dL_law_244 : decode cL_law 244 = .ok (.iload 4, 2) := by decide +kernel
theorem dL_law_246 : decode cL_law 246 = .ok (.iconst 2, 1) := by decide +kernel
theorem dL_law_247 : decode cL_law 247 = .ok (.iadd, 1) := by decide +kernel
theorem dL_law_248 : decode cL_law 248 = .ok (.iaload, 1) := by decide +kernel
theorem dL_law_249 : decode cL_law 249 = .ok (.aload_n 3, 1) := by decide +kernel
theorem dL_law_250 : decode cL_law 250 = .ok (.invokestatic 104, 3) := by decide +kernel
theorem dL_law_253 : decode cL_law 253 = .ok (.istore 5, 2) := by decide +kernel
theorem dL_law_255 : decode cL_law 255 = .ok (.aload_n 2, 1) := by decide +kernel
theorem dL_law_256 : decode cL_law 256 = .ok (.aload_n 0, 1) := by decide +kernel
theorem dL_law_257 : decode cL_law 257 = .ok (.iload 4, 2) := by decide +kernel
theorem dL_law_259 : decode cL_law 259 = .ok (.iconst 1, 1) := by decide +kernel
theorem dL_law_260 : decode cL_law 260 = .ok (.iadd, 1) := by decide +kernel
theorem dL_law_261 : decode cL_law 261 = .ok (.iaload, 1) := by decide +kernel
theorem dL_law_262 : decode cL_law 262 = .ok (.aload_n 0, 1) := by decide +kernel
theorem dL_law_263 : decode cL_law 263 = .ok (.iload 4, 2) := by decide +kernel
theorem dL_law_265 : decode cL_law 265 = .ok (.iconst 2, 1) := by decide +kernel
theorem dL_law_266 : decode cL_law 266 = .ok (.iadd, 1) := by decide +kernel
theorem dL_law_267 : decode cL_law 267 = .ok (.iaload, 1) := by decide +kernel
theorem dL_law_268 : decode cL_law 268 = .ok (.invokevirtual 106, 3) := by decide +kernel
theorem dL_law_271 : decode cL_law 271 = .ok (.istore 6, 2) := by decide +kernel
theorem dL_law_273 : decode cL_law 273 = .ok (.aload_n 2, 1) := by decide +kernel
theorem dL_law_274 : decode cL_law 274 = .ok (.invokevirtual 101, 3) := by decide +kernel
theorem dL_law_277 : decode cL_law 277 = .ok (.iload 5, 2) := by decide +kernel
theorem dL_law_279 : decode cL_law 279 = .ok (.if_icmp .eq 5, 3) := by decide +kernel
theorem dL_law_282 : decode cL_law 282 = .ok (.iconst 0, 1) := by decide +kernel
theorem dL_law_283 : decode cL_law 283 = .ok (.ireturn, 1) := by decide +kernel
theorem dL_law_284 : decode cL_law 284 = .ok (.iload 5, 2) := by decide +kernel
theorem dL_law_286 : decode cL_law 286 = .ok (.ifCond .ne 15, 3) := by decide +kernel
theorem dL_law_289 : decode cL_law 289 = .ok (.aload_n 3, 1) := by decide +kernel
theorem dL_law_290 : decode cL_law 290 = .ok (.iconst 0, 1) := by decide +kernel
theorem dL_law_291 : decode cL_law 291 = .ok (.laload, 1) := by decide +kernel
theorem dL_law_292 : decode cL_law 292 = .ok (.iload 6, 2) := by decide +kernel
theorem dL_law_294 : decode cL_law 294 = .ok (.i2l, 1) := by decide +kernel
theorem dL_law_295 : decode cL_law 295 = .ok (.lcmp, 1) := by decide +kernel
theorem dL_law_296 : decode cL_law 296 = .ok (.ifCond .eq 5, 3) := by decide +kernel
theorem dL_law_299 : decode cL_law 299 = .ok (.iconst 0, 1) := by decide +kernel
theorem dL_law_300 : decode cL_law 300 = .ok (.ireturn, 1) := by decide +kernel
theorem dL_law_301 : decode cL_law 301 = .ok (.goto 1533, 3) := by decide +kernel
theorem dL_law_304 : decode cL_law 304 = .ok (.aload_n 1, 1) := by decide +kernel
theorem dL_law_305 : decode cL_law 305 = .ok (.aload_n 0, 1) := by decide +kernel
theorem dL_law_306 : decode cL_law 306 = .ok (.iload 4, 2) := by decide +kernel
theorem dL_law_308 : decode cL_law 308 = .ok (.iconst 1, 1) := by decide +kernel
theorem dL_law_309 : decode cL_law 309 = .ok (.iadd, 1) := by decide +kernel
theorem dL_law_310 : decode cL_law 310 = .ok (.iaload, 1) := by decide +kernel
theorem dL_law_311 : decode cL_law 311 = .ok (.aload_n 0, 1) := by decide +kernel
theorem dL_law_312 : decode cL_law 312 = .ok (.iload 4, 2) := by decide +kernel
theorem dL_law_314 : decode cL_law 314 = .ok (.iconst 2, 1) := by decide +kernel
theorem dL_law_315 : decode cL_law 315 = .ok (.iadd, 1) := by decide +kernel
theorem dL_law_316 : decode cL_law 316 = .ok (.iaload, 1) := by decide +kernel
theorem dL_law_317 : decode cL_law 317 = .ok (.aload_n 3, 1) := by decide +kernel
theorem dL_law_318 : decode cL_law 318 = .ok (.invokestatic 107, 3) := by decide +kernel
theorem dL_law_321 : decode cL_law 321 = .ok (.istore 5, 2) := by decide +kernel
theorem dL_law_323 : decode cL_law 323 = .ok (.aload_n 2, 1) := by decide +kernel
theorem dL_law_324 : decode cL_law 324 = .ok (.aload_n 0, 1) := by decide +kernel
theorem dL_law_325 : decode cL_law 325 = .ok (.iload 4, 2) := by decide +kernel
theorem dL_law_327 : decode cL_law 327 = .ok (.iconst 1, 1) := by decide +kernel
theorem dL_law_328 : decode cL_law 328 = .ok (.iadd, 1) := by decide +kernel
theorem dL_law_329 : decode cL_law 329 = .ok (.iaload, 1) := by decide +kernel
theorem dL_law_330 : decode cL_law 330 = .ok (.aload_n 0, 1) := by decide +kernel
theorem dL_law_331 : decode cL_law 331 = .ok (.iload 4, 2) := by decide +kernel
theorem dL_law_333 : decode cL_law 333 = .ok (.iconst 2, 1) := by decide +kernel
theorem dL_law_334 : decode cL_law 334 = .ok (.iadd, 1) := by decide +kernel
theorem dL_law_335 : decode cL_law 335 = .ok (.iaload, 1) := by decide +kernel
theorem dL_law_336 : decode cL_law 336 = .ok (.invokevirtual 109, 3) := by decide +kernel
theorem dL_law_339 : decode cL_law 339 = .ok (.istore 6, 2) := by decide +kernel
theorem dL_law_341 : decode cL_law 341 = .ok (.aload_n 2, 1) := by decide +kernel
theorem dL_law_342 : decode cL_law 342 = .ok (.invokevirtual 101, 3) := by decide +kernel
theorem dL_law_345 : decode cL_law 345 = .ok (.iload 5, 2) := by decide +kernel
theorem dL_law_347 : decode cL_law 347 = .ok (.if_icmp .eq 5, 3) := by decide +kernel
theorem dL_law_350 : decode cL_law 350 = .ok (.iconst 0, 1) := by decide +kernel
theorem dL_law_351 : decode cL_law 351 = .ok (.ireturn, 1) := by decide +kernel
theorem dL_law_352 : decode cL_law 352 = .ok (.iload 5, 2) := by decide +kernel
theorem dL_law_354 : decode cL_law 354 = .ok (.ifCond .ne 15, 3) := by decide +kernel
theorem dL_law_357 : decode cL_law 357 = .ok (.aload_n 3, 1) := by decide +kernel
theorem dL_law_358 : decode cL_law 358 = .ok (.iconst 0, 1) := by decide +kernel
theorem dL_law_359 : decode cL_law 359 = .ok (.laload, 1) := by decide +kernel
theorem dL_law_360 : decode cL_law 360 = .ok (.iload 6, 2) := by decide +kernel
theorem dL_law_362 : decode cL_law 362 = .ok (.i2l, 1) := by decide +kernel
theorem dL_law_363 : decode cL_law 363 = .ok (.lcmp, 1) := by decide +kernel
theorem dL_law_364 : decode cL_law 364 = .ok (.ifCond .eq 5, 3) := by decide +kernel
theorem dL_law_367 : decode cL_law 367 = .ok (.iconst 0, 1) := by decide +kernel
theorem dL_law_368 : decode cL_law 368 = .ok (.ireturn, 1) := by decide +kernel
theorem dL_law_369 : decode cL_law 369 = .ok (.goto 1465, 3) := by decide +kernel
theorem dL_law_372 : decode cL_law 372 = .ok (.aload_n 1, 1) := by decide +kernel
theorem dL_law_373 : decode cL_law 373 = .ok (.aload_n 0, 1) := by decide +kernel
theorem dL_law_374 : decode cL_law 374 = .ok (.iload 4, 2) := by decide +kernel
theorem dL_law_376 : decode cL_law 376 = .ok (.iconst 1, 1) := by decide +kernel
theorem dL_law_377 : decode cL_law 377 = .ok (.iadd, 1) := by decide +kernel
theorem dL_law_378 : decode cL_law 378 = .ok (.iaload, 1) := by decide +kernel
theorem dL_law_379 : decode cL_law 379 = .ok (.aload_n 0, 1) := by decide +kernel
theorem dL_law_380 : decode cL_law 380 = .ok (.iload 4, 2) := by decide +kernel
theorem dL_law_382 : decode cL_law 382 = .ok (.iconst 2, 1) := by decide +kernel
theorem dL_law_383 : decode cL_law 383 = .ok (.iadd, 1) := by decide +kernel
theorem dL_law_384 : decode cL_law 384 = .ok (.iaload, 1) := by decide +kernel
theorem dL_law_385 : decode cL_law 385 = .ok (.aload_n 3, 1) := by decide +kernel
theorem dL_law_386 : decode cL_law 386 = .ok (.invokestatic 110, 3) := by decide +kernel
theorem dL_law_389 : decode cL_law 389 = .ok (.istore 5, 2) := by decide +kernel
theorem dL_law_391 : decode cL_law 391 = .ok (.aload_n 2, 1) := by decide +kernel
theorem dL_law_392 : decode cL_law 392 = .ok (.aload_n 0, 1) := by decide +kernel
theorem dL_law_393 : decode cL_law 393 = .ok (.iload 4, 2) := by decide +kernel
theorem dL_law_395 : decode cL_law 395 = .ok (.iconst 1, 1) := by decide +kernel
theorem dL_law_396 : decode cL_law 396 = .ok (.iadd, 1) := by decide +kernel
theorem dL_law_397 : decode cL_law 397 = .ok (.iaload, 1) := by decide +kernel
theorem dL_law_398 : decode cL_law 398 = .ok (.aload_n 0, 1) := by decide +kernel
theorem dL_law_399 : decode cL_law 399 = .ok (.iload 4, 2) := by decide +kernel
theorem dL_law_401 : decode cL_law 401 = .ok (.iconst 2, 1) := by decide +kernel
theorem dL_law_402 : decode cL_law 402 = .ok (.iadd, 1) := by decide +kernel
theorem dL_law_403 : decode cL_law 403 = .ok (.iaload, 1) := by decide +kernel
theorem dL_law_404 : decode cL_law 404 = .ok (.invokevirtual 112, 3) := by decide +kernel
theorem dL_law_407 : decode cL_law 407 = .ok (.istore 6, 2) := by decide +kernel
theorem dL_law_409 : decode cL_law 409 = .ok (.aload_n 2, 1) := by decide +kernel
theorem dL_law_410 : decode cL_law 410 = .ok (.invokevirtual 101, 3) := by decide +kernel
theorem dL_law_413 : decode cL_law 413 = .ok (.iload 5, 2) := by decide +kernel
theorem dL_law_415 : decode cL_law 415 = .ok (.if_icmp .eq 5, 3) := by decide +kernel
theorem dL_law_418 : decode cL_law 418 = .ok (.iconst 0, 1) := by decide +kernel
theorem dL_law_419 : decode cL_law 419 = .ok (.ireturn, 1) := by decide +kernel
theorem dL_law_420 : decode cL_law 420 = .ok (.iload 5, 2) := by decide +kernel
theorem dL_law_422 : decode cL_law 422 = .ok (.ifCond .ne 15, 3) := by decide +kernel
theorem dL_law_425 : decode cL_law 425 = .ok (.aload_n 3, 1) := by decide +kernel
theorem dL_law_426 : decode cL_law 426 = .ok (.iconst 0, 1) := by decide +kernel
theorem dL_law_427 : decode cL_law 427 = .ok (.laload, 1) := by decide +kernel
theorem dL_law_428 : decode cL_law 428 = .ok (.iload 6, 2) := by decide +kernel
theorem dL_law_430 : decode cL_law 430 = .ok (.i2l, 1) := by decide +kernel
theorem dL_law_431 : decode cL_law 431 = .ok (.lcmp, 1) := by decide +kernel
theorem dL_law_432 : decode cL_law 432 = .ok (.ifCond .eq 5, 3) := by decide +kernel
theorem dL_law_435 : decode cL_law 435 = .ok (.iconst 0, 1) := by decide +kernel
theorem dL_law_436 : decode cL_law 436 = .ok (.ireturn, 1) := by decide +kernel
theorem dL_law_437 : decode cL_law 437 = .ok (.goto 1397, 3) := by decide +kernel
theorem dL_law_440 : decode cL_law 440 = .ok (.aload_n 1, 1) := by decide +kernel
theorem dL_law_441 : decode cL_law 441 = .ok (.aload_n 0, 1) := by decide +kernel
theorem dL_law_442 : decode cL_law 442 = .ok (.iload 4, 2) := by decide +kernel
theorem dL_law_444 : decode cL_law 444 = .ok (.iconst 1, 1) := by decide +kernel
theorem dL_law_445 : decode cL_law 445 = .ok (.iadd, 1) := by decide +kernel
theorem dL_law_446 : decode cL_law 446 = .ok (.iaload, 1) := by decide +kernel
theorem dL_law_447 : decode cL_law 447 = .ok (.aload_n 3, 1) := by decide +kernel
theorem dL_law_448 : decode cL_law 448 = .ok (.invokestatic 113, 3) := by decide +kernel
theorem dL_law_451 : decode cL_law 451 = .ok (.istore 5, 2) := by decide +kernel
theorem dL_law_453 : decode cL_law 453 = .ok (.aload_n 2, 1) := by decide +kernel
theorem dL_law_454 : decode cL_law 454 = .ok (.aload_n 0, 1) := by decide +kernel
theorem dL_law_455 : decode cL_law 455 = .ok (.iload 4, 2) := by decide +kernel
theorem dL_law_457 : decode cL_law 457 = .ok (.iconst 1, 1) := by decide +kernel
theorem dL_law_458 : decode cL_law 458 = .ok (.iadd, 1) := by decide +kernel
theorem dL_law_459 : decode cL_law 459 = .ok (.iaload, 1) := by decide +kernel
theorem dL_law_460 : decode cL_law 460 = .ok (.invokevirtual 116, 3) := by decide +kernel
theorem dL_law_463 : decode cL_law 463 = .ok (.istore 6, 2) := by decide +kernel
theorem dL_law_465 : decode cL_law 465 = .ok (.aload_n 2, 1) := by decide +kernel
theorem dL_law_466 : decode cL_law 466 = .ok (.invokevirtual 101, 3) := by decide +kernel
theorem dL_law_469 : decode cL_law 469 = .ok (.iload 5, 2) := by decide +kernel
theorem dL_law_471 : decode cL_law 471 = .ok (.if_icmp .eq 5, 3) := by decide +kernel
theorem dL_law_474 : decode cL_law 474 = .ok (.iconst 0, 1) := by decide +kernel
theorem dL_law_475 : decode cL_law 475 = .ok (.ireturn, 1) := by decide +kernel
theorem dL_law_476 : decode cL_law 476 = .ok (.iload 5, 2) := by decide +kernel
theorem dL_law_478 : decode cL_law 478 = .ok (.ifCond .ne 15, 3) := by decide +kernel
theorem dL_law_481 : decode cL_law 481 = .ok (.aload_n 3, 1) := by decide +kernel
theorem dL_law_482 : decode cL_law 482 = .ok (.iconst 0, 1) := by decide +kernel
theorem dL_law_483 : decode cL_law 483 = .ok (.laload, 1) := by decide +kernel
theorem dL_law_484 : decode cL_law 484 = .ok (.iload 6, 2) := by decide +kernel
theorem dL_law_486 : decode cL_law 486 = .ok (.i2l, 1) := by decide +kernel
theorem dL_law_487 : decode cL_law 487 = .ok (.lcmp, 1) := by decide +kernel
theorem dL_law_488 : decode cL_law 488 = .ok (.ifCond .eq 5, 3) := by decide +kernel
theorem dL_law_491 : decode cL_law 491 = .ok (.iconst 0, 1) := by decide +kernel
theorem dL_law_492 : decode cL_law 492 = .ok (.ireturn, 1) := by decide +kernel
theorem dL_law_493 : decode cL_law 493 = .ok (.goto 1341, 3) := by decide +kernel
theorem dL_law_496 : decode cL_law 496 = .ok (.aload_n 1, 1) := by decide +kernel
theorem dL_law_497 : decode cL_law 497 = .ok (.aload_n 0, 1) := by decide +kernel
theorem dL_law_498 : decode cL_law 498 = .ok (.iload 4, 2) := by decide +kernel
theorem dL_law_500 : decode cL_law 500 = .ok (.iconst 1, 1) := by decide +kernel
theorem dL_law_501 : decode cL_law 501 = .ok (.iadd, 1) := by decide +kernel
theorem dL_law_502 : decode cL_law 502 = .ok (.iaload, 1) := by decide +kernel
theorem dL_law_503 : decode cL_law 503 = .ok (.aload_n 0, 1) := by decide +kernel
theorem dL_law_504 : decode cL_law 504 = .ok (.iload 4, 2) := by decide +kernel
theorem dL_law_506 : decode cL_law 506 = .ok (.iconst 2, 1) := by decide +kernel
theorem dL_law_507 : decode cL_law 507 = .ok (.iadd, 1) := by decide +kernel
theorem dL_law_508 : decode cL_law 508 = .ok (.iaload, 1) := by decide +kernel
theorem dL_law_509 : decode cL_law 509 = .ok (.aload_n 0, 1) := by decide +kernel
theorem dL_law_510 : decode cL_law 510 = .ok (.iload 4, 2) := by decide +kernel
theorem dL_law_512 : decode cL_law 512 = .ok (.iconst 3, 1) := by decide +kernel
theorem dL_law_513 : decode cL_law 513 = .ok (.iadd, 1) := by decide +kernel
theorem dL_law_514 : decode cL_law 514 = .ok (.iaload, 1) := by decide +kernel
theorem dL_law_515 : decode cL_law 515 = .ok (.aload_n 3, 1) := by decide +kernel
theorem dL_law_516 : decode cL_law 516 = .ok (.invokestatic 117, 3) := by decide +kernel
theorem dL_law_519 : decode cL_law 519 = .ok (.istore 5, 2) := by decide +kernel
theorem dL_law_521 : decode cL_law 521 = .ok (.aload_n 2, 1) := by decide +kernel
theorem dL_law_522 : decode cL_law 522 = .ok (.aload_n 0, 1) := by decide +kernel
theorem dL_law_523 : decode cL_law 523 = .ok (.iload 4, 2) := by decide +kernel
theorem dL_law_525 : decode cL_law 525 = .ok (.iconst 1, 1) := by decide +kernel
theorem dL_law_526 : decode cL_law 526 = .ok (.iadd, 1) := by decide +kernel
theorem dL_law_527 : decode cL_law 527 = .ok (.iaload, 1) := by decide +kernel
theorem dL_law_528 : decode cL_law 528 = .ok (.aload_n 0, 1) := by decide +kernel
theorem dL_law_529 : decode cL_law 529 = .ok (.iload 4, 2) := by decide +kernel
theorem dL_law_531 : decode cL_law 531 = .ok (.iconst 2, 1) := by decide +kernel
theorem dL_law_532 : decode cL_law 532 = .ok (.iadd, 1) := by decide +kernel
theorem dL_law_533 : decode cL_law 533 = .ok (.iaload, 1) := by decide +kernel
theorem dL_law_534 : decode cL_law 534 = .ok (.aload_n 0, 1) := by decide +kernel
theorem dL_law_535 : decode cL_law 535 = .ok (.iload 4, 2) := by decide +kernel
theorem dL_law_537 : decode cL_law 537 = .ok (.iconst 3, 1) := by decide +kernel
theorem dL_law_538 : decode cL_law 538 = .ok (.iadd, 1) := by decide +kernel
theorem dL_law_539 : decode cL_law 539 = .ok (.iaload, 1) := by decide +kernel
theorem dL_law_540 : decode cL_law 540 = .ok (.invokevirtual 120, 3) := by decide +kernel
theorem dL_law_543 : decode cL_law 543 = .ok (.istore 6, 2) := by decide +kernel
theorem dL_law_545 : decode cL_law 545 = .ok (.aload_n 2, 1) := by decide +kernel
theorem dL_law_546 : decode cL_law 546 = .ok (.invokevirtual 101, 3) := by decide +kernel
theorem dL_law_549 : decode cL_law 549 = .ok (.iload 5, 2) := by decide +kernel
theorem dL_law_551 : decode cL_law 551 = .ok (.if_icmp .eq 5, 3) := by decide +kernel
theorem dL_law_554 : decode cL_law 554 = .ok (.iconst 0, 1) := by decide +kernel
theorem dL_law_555 : decode cL_law 555 = .ok (.ireturn, 1) := by decide +kernel
theorem dL_law_556 : decode cL_law 556 = .ok (.iload 5, 2) := by decide +kernel
theorem dL_law_558 : decode cL_law 558 = .ok (.ifCond .ne 15, 3) := by decide +kernel
theorem dL_law_561 : decode cL_law 561 = .ok (.aload_n 3, 1) := by decide +kernel
theorem dL_law_562 : decode cL_law 562 = .ok (.iconst 0, 1) := by decide +kernel
theorem dL_law_563 : decode cL_law 563 = .ok (.laload, 1) := by decide +kernel
theorem dL_law_564 : decode cL_law 564 = .ok (.iload 6, 2) := by decide +kernel
theorem dL_law_566 : decode cL_law 566 = .ok (.i2l, 1) := by decide +kernel
theorem dL_law_567 : decode cL_law 567 = .ok (.lcmp, 1) := by decide +kernel
theorem dL_law_568 : decode cL_law 568 = .ok (.ifCond .eq 5, 3) := by decide +kernel
theorem dL_law_571 : decode cL_law 571 = .ok (.iconst 0, 1) := by decide +kernel
theorem dL_law_572 : decode cL_law 572 = .ok (.ireturn, 1) := by decide +kernel
theorem dL_law_573 : decode cL_law 573 = .ok (.goto 1261, 3) := by decide +kernel
theorem dL_law_576 : decode cL_law 576 = .ok (.aload_n 1, 1) := by decide +kernel
theorem dL_law_577 : decode cL_law 577 = .ok (.aload_n 0, 1) := by decide +kernel
theorem dL_law_578 : decode cL_law 578 = .ok (.iload 4, 2) := by decide +kernel
theorem dL_law_580 : decode cL_law 580 = .ok (.iconst 1, 1) := by decide +kernel
theorem dL_law_581 : decode cL_law 581 = .ok (.iadd, 1) := by decide +kernel
theorem dL_law_582 : decode cL_law 582 = .ok (.iaload, 1) := by decide +kernel
theorem dL_law_583 : decode cL_law 583 = .ok (.aload_n 0, 1) := by decide +kernel
theorem dL_law_584 : decode cL_law 584 = .ok (.iload 4, 2) := by decide +kernel
theorem dL_law_586 : decode cL_law 586 = .ok (.iconst 2, 1) := by decide +kernel
theorem dL_law_587 : decode cL_law 587 = .ok (.iadd, 1) := by decide +kernel
theorem dL_law_588 : decode cL_law 588 = .ok (.iaload, 1) := by decide +kernel
theorem dL_law_589 : decode cL_law 589 = .ok (.aload_n 0, 1) := by decide +kernel
theorem dL_law_590 : decode cL_law 590 = .ok (.iload 4, 2) := by decide +kernel
theorem dL_law_592 : decode cL_law 592 = .ok (.iconst 3, 1) := by decide +kernel
theorem dL_law_593 : decode cL_law 593 = .ok (.iadd, 1) := by decide +kernel
theorem dL_law_594 : decode cL_law 594 = .ok (.iaload, 1) := by decide +kernel
theorem dL_law_595 : decode cL_law 595 = .ok (.aload_n 3, 1) := by decide +kernel
theorem dL_law_596 : decode cL_law 596 = .ok (.invokestatic 121, 3) := by decide +kernel
theorem dL_law_599 : decode cL_law 599 = .ok (.istore 5, 2) := by decide +kernel
theorem dL_law_601 : decode cL_law 601 = .ok (.aload_n 2, 1) := by decide +kernel
theorem dL_law_602 : decode cL_law 602 = .ok (.aload_n 0, 1) := by decide +kernel
theorem dL_law_603 : decode cL_law 603 = .ok (.iload 4, 2) := by decide +kernel
theorem dL_law_605 : decode cL_law 605 = .ok (.iconst 1, 1) := by decide +kernel
theorem dL_law_606 : decode cL_law 606 = .ok (.iadd, 1) := by decide +kernel
theorem dL_law_607 : decode cL_law 607 = .ok (.iaload, 1) := by decide +kernel
theorem dL_law_608 : decode cL_law 608 = .ok (.aload_n 0, 1) := by decide +kernel
theorem dL_law_609 : decode cL_law 609 = .ok (.iload 4, 2) := by decide +kernel
theorem dL_law_611 : decode cL_law 611 = .ok (.iconst 2, 1) := by decide +kernel
theorem dL_law_612 : decode cL_law 612 = .ok (.iadd, 1) := by decide +kernel
theorem dL_law_613 : decode cL_law 613 = .ok (.iaload, 1) := by decide +kernel
theorem dL_law_614 : decode cL_law 614 = .ok (.aload_n 0, 1) := by decide +kernel
theorem dL_law_615 : decode cL_law 615 = .ok (.iload 4, 2) := by decide +kernel
theorem dL_law_617 : decode cL_law 617 = .ok (.iconst 3, 1) := by decide +kernel
theorem dL_law_618 : decode cL_law 618 = .ok (.iadd, 1) := by decide +kernel
theorem dL_law_619 : decode cL_law 619 = .ok (.iaload, 1) := by decide +kernel
theorem dL_law_620 : decode cL_law 620 = .ok (.invokevirtual 123, 3) := by decide +kernel
theorem dL_law_623 : decode cL_law 623 = .ok (.istore 6, 2) := by decide +kernel
theorem dL_law_625 : decode cL_law 625 = .ok (.aload_n 2, 1) := by decide +kernel
theorem dL_law_626 : decode cL_law 626 = .ok (.invokevirtual 101, 3) := by decide +kernel
theorem dL_law_629 : decode cL_law 629 = .ok (.iload 5, 2) := by decide +kernel
theorem dL_law_631 : decode cL_law 631 = .ok (.if_icmp .eq 5, 3) := by decide +kernel
theorem dL_law_634 : decode cL_law 634 = .ok (.iconst 0, 1) := by decide +kernel
theorem dL_law_635 : decode cL_law 635 = .ok (.ireturn, 1) := by decide +kernel
theorem dL_law_636 : decode cL_law 636 = .ok (.iload 5, 2) := by decide +kernel
theorem dL_law_638 : decode cL_law 638 = .ok (.ifCond .ne 15, 3) := by decide +kernel
theorem dL_law_641 : decode cL_law 641 = .ok (.aload_n 3, 1) := by decide +kernel
theorem dL_law_642 : decode cL_law 642 = .ok (.iconst 0, 1) := by decide +kernel
theorem dL_law_643 : decode cL_law 643 = .ok (.laload, 1) := by decide +kernel
theorem dL_law_644 : decode cL_law 644 = .ok (.iload 6, 2) := by decide +kernel
theorem dL_law_646 : decode cL_law 646 = .ok (.i2l, 1) := by decide +kernel
theorem dL_law_647 : decode cL_law 647 = .ok (.lcmp, 1) := by decide +kernel
theorem dL_law_648 : decode cL_law 648 = .ok (.ifCond .eq 5, 3) := by decide +kernel
theorem dL_law_651 : decode cL_law 651 = .ok (.iconst 0, 1) := by decide +kernel
theorem dL_law_652 : decode cL_law 652 = .ok (.ireturn, 1) := by decide +kernel
theorem dL_law_653 : decode cL_law 653 = .ok (.goto 1181, 3) := by decide +kernel
theorem dL_law_656 : decode cL_law 656 = .ok (.aload_n 1, 1) := by decide +kernel
theorem dL_law_657 : decode cL_law 657 = .ok (.aload_n 0, 1) := by decide +kernel
theorem dL_law_658 : decode cL_law 658 = .ok (.iload 4, 2) := by decide +kernel
theorem dL_law_660 : decode cL_law 660 = .ok (.iconst 1, 1) := by decide +kernel
theorem dL_law_661 : decode cL_law 661 = .ok (.iadd, 1) := by decide +kernel
theorem dL_law_662 : decode cL_law 662 = .ok (.iaload, 1) := by decide +kernel
theorem dL_law_663 : decode cL_law 663 = .ok (.aload_n 0, 1) := by decide +kernel
theorem dL_law_664 : decode cL_law 664 = .ok (.iload 4, 2) := by decide +kernel
theorem dL_law_666 : decode cL_law 666 = .ok (.iconst 2, 1) := by decide +kernel
theorem dL_law_667 : decode cL_law 667 = .ok (.iadd, 1) := by decide +kernel
theorem dL_law_668 : decode cL_law 668 = .ok (.iaload, 1) := by decide +kernel
theorem dL_law_669 : decode cL_law 669 = .ok (.aload_n 3, 1) := by decide +kernel
theorem dL_law_670 : decode cL_law 670 = .ok (.invokestatic 124, 3) := by decide +kernel
theorem dL_law_673 : decode cL_law 673 = .ok (.istore 5, 2) := by decide +kernel
theorem dL_law_675 : decode cL_law 675 = .ok (.aload_n 2, 1) := by decide +kernel
theorem dL_law_676 : decode cL_law 676 = .ok (.aload_n 0, 1) := by decide +kernel
theorem dL_law_677 : decode cL_law 677 = .ok (.iload 4, 2) := by decide +kernel
theorem dL_law_679 : decode cL_law 679 = .ok (.iconst 1, 1) := by decide +kernel
theorem dL_law_680 : decode cL_law 680 = .ok (.iadd, 1) := by decide +kernel
theorem dL_law_681 : decode cL_law 681 = .ok (.iaload, 1) := by decide +kernel
theorem dL_law_682 : decode cL_law 682 = .ok (.aload_n 0, 1) := by decide +kernel
theorem dL_law_683 : decode cL_law 683 = .ok (.iload 4, 2) := by decide +kernel
theorem dL_law_685 : decode cL_law 685 = .ok (.iconst 2, 1) := by decide +kernel
theorem dL_law_686 : decode cL_law 686 = .ok (.iadd, 1) := by decide +kernel
theorem dL_law_687 : decode cL_law 687 = .ok (.iaload, 1) := by decide +kernel
theorem dL_law_688 : decode cL_law 688 = .ok (.invokevirtual 126, 3) := by decide +kernel
theorem dL_law_691 : decode cL_law 691 = .ok (.istore 6, 2) := by decide +kernel
theorem dL_law_693 : decode cL_law 693 = .ok (.aload_n 2, 1) := by decide +kernel
theorem dL_law_694 : decode cL_law 694 = .ok (.invokevirtual 101, 3) := by decide +kernel
theorem dL_law_697 : decode cL_law 697 = .ok (.iload 5, 2) := by decide +kernel
theorem dL_law_699 : decode cL_law 699 = .ok (.if_icmp .eq 5, 3) := by decide +kernel
theorem dL_law_702 : decode cL_law 702 = .ok (.iconst 0, 1) := by decide +kernel
theorem dL_law_703 : decode cL_law 703 = .ok (.ireturn, 1) := by decide +kernel
theorem dL_law_704 : decode cL_law 704 = .ok (.iload 5, 2) := by decide +kernel
theorem dL_law_706 : decode cL_law 706 = .ok (.ifCond .ne 15, 3) := by decide +kernel
theorem dL_law_709 : decode cL_law 709 = .ok (.aload_n 3, 1) := by decide +kernel
theorem dL_law_710 : decode cL_law 710 = .ok (.iconst 0, 1) := by decide +kernel
theorem dL_law_711 : decode cL_law 711 = .ok (.laload, 1) := by decide +kernel
theorem dL_law_712 : decode cL_law 712 = .ok (.iload 6, 2) := by decide +kernel
theorem dL_law_714 : decode cL_law 714 = .ok (.i2l, 1) := by decide +kernel
theorem dL_law_715 : decode cL_law 715 = .ok (.lcmp, 1) := by decide +kernel
theorem dL_law_716 : decode cL_law 716 = .ok (.ifCond .eq 5, 3) := by decide +kernel
theorem dL_law_719 : decode cL_law 719 = .ok (.iconst 0, 1) := by decide +kernel
theorem dL_law_720 : decode cL_law 720 = .ok (.ireturn, 1) := by decide +kernel
theorem dL_law_721 : decode cL_law 721 = .ok (.goto 1113, 3) := by decide +kernel
theorem dL_law_724 : decode cL_law 724 = .ok (.aload_n 1, 1) := by decide +kernel
theorem dL_law_725 : decode cL_law 725 = .ok (.aload_n 0, 1) := by decide +kernel
theorem dL_law_726 : decode cL_law 726 = .ok (.iload 4, 2) := by decide +kernel
theorem dL_law_728 : decode cL_law 728 = .ok (.iconst 1, 1) := by decide +kernel
theorem dL_law_729 : decode cL_law 729 = .ok (.iadd, 1) := by decide +kernel
theorem dL_law_730 : decode cL_law 730 = .ok (.iaload, 1) := by decide +kernel
theorem dL_law_731 : decode cL_law 731 = .ok (.aload_n 3, 1) := by decide +kernel
theorem dL_law_732 : decode cL_law 732 = .ok (.invokestatic 127, 3) := by decide +kernel
theorem dL_law_735 : decode cL_law 735 = .ok (.istore 5, 2) := by decide +kernel
theorem dL_law_737 : decode cL_law 737 = .ok (.aload_n 2, 1) := by decide +kernel
theorem dL_law_738 : decode cL_law 738 = .ok (.aload_n 0, 1) := by decide +kernel
theorem dL_law_739 : decode cL_law 739 = .ok (.iload 4, 2) := by decide +kernel
theorem dL_law_741 : decode cL_law 741 = .ok (.iconst 1, 1) := by decide +kernel
theorem dL_law_742 : decode cL_law 742 = .ok (.iadd, 1) := by decide +kernel
theorem dL_law_743 : decode cL_law 743 = .ok (.iaload, 1) := by decide +kernel
theorem dL_law_744 : decode cL_law 744 = .ok (.invokevirtual 129, 3) := by decide +kernel
theorem dL_law_747 : decode cL_law 747 = .ok (.istore 6, 2) := by decide +kernel
theorem dL_law_749 : decode cL_law 749 = .ok (.aload_n 2, 1) := by decide +kernel
theorem dL_law_750 : decode cL_law 750 = .ok (.invokevirtual 101, 3) := by decide +kernel
theorem dL_law_753 : decode cL_law 753 = .ok (.iload 5, 2) := by decide +kernel
theorem dL_law_755 : decode cL_law 755 = .ok (.if_icmp .eq 5, 3) := by decide +kernel
theorem dL_law_758 : decode cL_law 758 = .ok (.iconst 0, 1) := by decide +kernel
theorem dL_law_759 : decode cL_law 759 = .ok (.ireturn, 1) := by decide +kernel
theorem dL_law_760 : decode cL_law 760 = .ok (.iload 5, 2) := by decide +kernel
theorem dL_law_762 : decode cL_law 762 = .ok (.ifCond .ne 15, 3) := by decide +kernel
theorem dL_law_765 : decode cL_law 765 = .ok (.aload_n 3, 1) := by decide +kernel
theorem dL_law_766 : decode cL_law 766 = .ok (.iconst 0, 1) := by decide +kernel
theorem dL_law_767 : decode cL_law 767 = .ok (.laload, 1) := by decide +kernel
theorem dL_law_768 : decode cL_law 768 = .ok (.iload 6, 2) := by decide +kernel
theorem dL_law_770 : decode cL_law 770 = .ok (.i2l, 1) := by decide +kernel
theorem dL_law_771 : decode cL_law 771 = .ok (.lcmp, 1) := by decide +kernel
theorem dL_law_772 : decode cL_law 772 = .ok (.ifCond .eq 5, 3) := by decide +kernel
theorem dL_law_775 : decode cL_law 775 = .ok (.iconst 0, 1) := by decide +kernel
theorem dL_law_776 : decode cL_law 776 = .ok (.ireturn, 1) := by decide +kernel
theorem dL_law_777 : decode cL_law 777 = .ok (.goto 1057, 3) := by decide +kernel
theorem dL_law_780 : decode cL_law 780 = .ok (.aload_n 1, 1) := by decide +kernel
theorem dL_law_781 : decode cL_law 781 = .ok (.invokevirtual 130, 3) := by decide +kernel
theorem dL_law_784 : decode cL_law 784 = .ok (.aload_n 2, 1) := by decide +kernel
theorem dL_law_785 : decode cL_law 785 = .ok (.invokevirtual 133, 3) := by decide +kernel
theorem dL_law_788 : decode cL_law 788 = .ok (.if_icmp .eq 1046, 3) := by decide +kernel
theorem dL_law_791 : decode cL_law 791 = .ok (.iconst 0, 1) := by decide +kernel
theorem dL_law_792 : decode cL_law 792 = .ok (.ireturn, 1) := by decide +kernel
theorem dL_law_793 : decode cL_law 793 = .ok (.aload_n 1, 1) := by decide +kernel
theorem dL_law_794 : decode cL_law 794 = .ok (.invokevirtual 134, 3) := by decide +kernel
theorem dL_law_797 : decode cL_law 797 = .ok (.aload_n 2, 1) := by decide +kernel
theorem dL_law_798 : decode cL_law 798 = .ok (.invokevirtual 137, 3) := by decide +kernel
theorem dL_law_801 : decode cL_law 801 = .ok (.if_icmp .eq 1033, 3) := by decide +kernel
theorem dL_law_804 : decode cL_law 804 = .ok (.iconst 0, 1) := by decide +kernel
theorem dL_law_805 : decode cL_law 805 = .ok (.ireturn, 1) := by decide +kernel
theorem dL_law_806 : decode cL_law 806 = .ok (.aload_n 1, 1) := by decide +kernel
theorem dL_law_807 : decode cL_law 807 = .ok (.aload_n 3, 1) := by decide +kernel
theorem dL_law_808 : decode cL_law 808 = .ok (.invokestatic 138, 3) := by decide +kernel
theorem dL_law_811 : decode cL_law 811 = .ok (.istore 5, 2) := by decide +kernel
theorem dL_law_813 : decode cL_law 813 = .ok (.aload_n 2, 1) := by decide +kernel
theorem dL_law_814 : decode cL_law 814 = .ok (.invokevirtual 141, 3) := by decide +kernel
theorem dL_law_817 : decode cL_law 817 = .ok (.istore 6, 2) := by decide +kernel
theorem dL_law_819 : decode cL_law 819 = .ok (.aload_n 2, 1) := by decide +kernel
theorem dL_law_820 : decode cL_law 820 = .ok (.invokevirtual 101, 3) := by decide +kernel
theorem dL_law_823 : decode cL_law 823 = .ok (.iload 5, 2) := by decide +kernel
theorem dL_law_825 : decode cL_law 825 = .ok (.if_icmp .eq 5, 3) := by decide +kernel
theorem dL_law_828 : decode cL_law 828 = .ok (.iconst 0, 1) := by decide +kernel
theorem dL_law_829 : decode cL_law 829 = .ok (.ireturn, 1) := by decide +kernel
theorem dL_law_830 : decode cL_law 830 = .ok (.iload 5, 2) := by decide +kernel
theorem dL_law_832 : decode cL_law 832 = .ok (.ifCond .ne 15, 3) := by decide +kernel
theorem dL_law_835 : decode cL_law 835 = .ok (.aload_n 3, 1) := by decide +kernel
theorem dL_law_836 : decode cL_law 836 = .ok (.iconst 0, 1) := by decide +kernel
theorem dL_law_837 : decode cL_law 837 = .ok (.laload, 1) := by decide +kernel
theorem dL_law_838 : decode cL_law 838 = .ok (.iload 6, 2) := by decide +kernel
theorem dL_law_840 : decode cL_law 840 = .ok (.i2l, 1) := by decide +kernel
theorem dL_law_841 : decode cL_law 841 = .ok (.lcmp, 1) := by decide +kernel
theorem dL_law_842 : decode cL_law 842 = .ok (.ifCond .eq 5, 3) := by decide +kernel
theorem dL_law_845 : decode cL_law 845 = .ok (.iconst 0, 1) := by decide +kernel
theorem dL_law_846 : decode cL_law 846 = .ok (.ireturn, 1) := by decide +kernel
theorem dL_law_847 : decode cL_law 847 = .ok (.goto 987, 3) := by decide +kernel
theorem dL_law_850 : decode cL_law 850 = .ok (.aload_n 1, 1) := by decide +kernel
theorem dL_law_851 : decode cL_law 851 = .ok (.aload_n 0, 1) := by decide +kernel
theorem dL_law_852 : decode cL_law 852 = .ok (.iload 4, 2) := by decide +kernel
theorem dL_law_854 : decode cL_law 854 = .ok (.iconst 1, 1) := by decide +kernel
theorem dL_law_855 : decode cL_law 855 = .ok (.iadd, 1) := by decide +kernel
theorem dL_law_856 : decode cL_law 856 = .ok (.iaload, 1) := by decide +kernel
theorem dL_law_857 : decode cL_law 857 = .ok (.aload_n 3, 1) := by decide +kernel
theorem dL_law_858 : decode cL_law 858 = .ok (.invokestatic 142, 3) := by decide +kernel
theorem dL_law_861 : decode cL_law 861 = .ok (.istore 5, 2) := by decide +kernel
theorem dL_law_863 : decode cL_law 863 = .ok (.aload_n 2, 1) := by decide +kernel
theorem dL_law_864 : decode cL_law 864 = .ok (.aload_n 0, 1) := by decide +kernel
theorem dL_law_865 : decode cL_law 865 = .ok (.iload 4, 2) := by decide +kernel
theorem dL_law_867 : decode cL_law 867 = .ok (.iconst 1, 1) := by decide +kernel
theorem dL_law_868 : decode cL_law 868 = .ok (.iadd, 1) := by decide +kernel
theorem dL_law_869 : decode cL_law 869 = .ok (.iaload, 1) := by decide +kernel
theorem dL_law_870 : decode cL_law 870 = .ok (.invokevirtual 144, 3) := by decide +kernel
theorem dL_law_873 : decode cL_law 873 = .ok (.istore 6, 2) := by decide +kernel
theorem dL_law_875 : decode cL_law 875 = .ok (.aload_n 2, 1) := by decide +kernel
theorem dL_law_876 : decode cL_law 876 = .ok (.invokevirtual 101, 3) := by decide +kernel
theorem dL_law_879 : decode cL_law 879 = .ok (.iload 5, 2) := by decide +kernel
theorem dL_law_881 : decode cL_law 881 = .ok (.if_icmp .eq 5, 3) := by decide +kernel
theorem dL_law_884 : decode cL_law 884 = .ok (.iconst 0, 1) := by decide +kernel
theorem dL_law_885 : decode cL_law 885 = .ok (.ireturn, 1) := by decide +kernel
theorem dL_law_886 : decode cL_law 886 = .ok (.iload 5, 2) := by decide +kernel
theorem dL_law_888 : decode cL_law 888 = .ok (.ifCond .ne 15, 3) := by decide +kernel
theorem dL_law_891 : decode cL_law 891 = .ok (.aload_n 3, 1) := by decide +kernel
theorem dL_law_892 : decode cL_law 892 = .ok (.iconst 0, 1) := by decide +kernel
theorem dL_law_893 : decode cL_law 893 = .ok (.laload, 1) := by decide +kernel
theorem dL_law_894 : decode cL_law 894 = .ok (.iload 6, 2) := by decide +kernel
theorem dL_law_896 : decode cL_law 896 = .ok (.i2l, 1) := by decide +kernel
theorem dL_law_897 : decode cL_law 897 = .ok (.lcmp, 1) := by decide +kernel
theorem dL_law_898 : decode cL_law 898 = .ok (.ifCond .eq 5, 3) := by decide +kernel
theorem dL_law_901 : decode cL_law 901 = .ok (.iconst 0, 1) := by decide +kernel
theorem dL_law_902 : decode cL_law 902 = .ok (.ireturn, 1) := by decide +kernel
theorem dL_law_903 : decode cL_law 903 = .ok (.goto 931, 3) := by decide +kernel
theorem dL_law_906 : decode cL_law 906 = .ok (.aload_n 1, 1) := by decide +kernel
theorem dL_law_907 : decode cL_law 907 = .ok (.aload_n 3, 1) := by decide +kernel
theorem dL_law_908 : decode cL_law 908 = .ok (.invokestatic 145, 3) := by decide +kernel
theorem dL_law_911 : decode cL_law 911 = .ok (.istore 5, 2) := by decide +kernel
theorem dL_law_913 : decode cL_law 913 = .ok (.aload_n 2, 1) := by decide +kernel
theorem dL_law_914 : decode cL_law 914 = .ok (.invokevirtual 147, 3) := by decide +kernel
theorem dL_law_917 : decode cL_law 917 = .ok (.istore 6, 2) := by decide +kernel
theorem dL_law_919 : decode cL_law 919 = .ok (.aload_n 2, 1) := by decide +kernel
theorem dL_law_920 : decode cL_law 920 = .ok (.invokevirtual 101, 3) := by decide +kernel
theorem dL_law_923 : decode cL_law 923 = .ok (.iload 5, 2) := by decide +kernel
theorem dL_law_925 : decode cL_law 925 = .ok (.if_icmp .eq 5, 3) := by decide +kernel
theorem dL_law_928 : decode cL_law 928 = .ok (.iconst 0, 1) := by decide +kernel
theorem dL_law_929 : decode cL_law 929 = .ok (.ireturn, 1) := by decide +kernel
theorem dL_law_930 : decode cL_law 930 = .ok (.iload 5, 2) := by decide +kernel
theorem dL_law_932 : decode cL_law 932 = .ok (.ifCond .ne 15, 3) := by decide +kernel
theorem dL_law_935 : decode cL_law 935 = .ok (.aload_n 3, 1) := by decide +kernel
theorem dL_law_936 : decode cL_law 936 = .ok (.iconst 0, 1) := by decide +kernel
theorem dL_law_937 : decode cL_law 937 = .ok (.laload, 1) := by decide +kernel
theorem dL_law_938 : decode cL_law 938 = .ok (.iload 6, 2) := by decide +kernel
theorem dL_law_940 : decode cL_law 940 = .ok (.i2l, 1) := by decide +kernel
theorem dL_law_941 : decode cL_law 941 = .ok (.lcmp, 1) := by decide +kernel
theorem dL_law_942 : decode cL_law 942 = .ok (.ifCond .eq 5, 3) := by decide +kernel
theorem dL_law_945 : decode cL_law 945 = .ok (.iconst 0, 1) := by decide +kernel
theorem dL_law_946 : decode cL_law 946 = .ok (.ireturn, 1) := by decide +kernel
theorem dL_law_947 : decode cL_law 947 = .ok (.goto 887, 3) := by decide +kernel
theorem dL_law_950 : decode cL_law 950 = .ok (.aload_n 1, 1) := by decide +kernel
theorem dL_law_951 : decode cL_law 951 = .ok (.aload_n 0, 1) := by decide +kernel
theorem dL_law_952 : decode cL_law 952 = .ok (.iload 4, 2) := by decide +kernel
theorem dL_law_954 : decode cL_law 954 = .ok (.iconst 1, 1) := by decide +kernel
theorem dL_law_955 : decode cL_law 955 = .ok (.iadd, 1) := by decide +kernel
theorem dL_law_956 : decode cL_law 956 = .ok (.iaload, 1) := by decide +kernel
theorem dL_law_957 : decode cL_law 957 = .ok (.aload_n 0, 1) := by decide +kernel
theorem dL_law_958 : decode cL_law 958 = .ok (.iload 4, 2) := by decide +kernel
theorem dL_law_960 : decode cL_law 960 = .ok (.iconst 2, 1) := by decide +kernel
theorem dL_law_961 : decode cL_law 961 = .ok (.iadd, 1) := by decide +kernel
theorem dL_law_962 : decode cL_law 962 = .ok (.iaload, 1) := by decide +kernel
theorem dL_law_963 : decode cL_law 963 = .ok (.aload_n 3, 1) := by decide +kernel
theorem dL_law_964 : decode cL_law 964 = .ok (.invokestatic 148, 3) := by decide +kernel
theorem dL_law_967 : decode cL_law 967 = .ok (.istore 5, 2) := by decide +kernel
theorem dL_law_969 : decode cL_law 969 = .ok (.aload_n 2, 1) := by decide +kernel
theorem dL_law_970 : decode cL_law 970 = .ok (.aload_n 0, 1) := by decide +kernel
theorem dL_law_971 : decode cL_law 971 = .ok (.iload 4, 2) := by decide +kernel
theorem dL_law_973 : decode cL_law 973 = .ok (.iconst 1, 1) := by decide +kernel
theorem dL_law_974 : decode cL_law 974 = .ok (.iadd, 1) := by decide +kernel
theorem dL_law_975 : decode cL_law 975 = .ok (.iaload, 1) := by decide +kernel
theorem dL_law_976 : decode cL_law 976 = .ok (.aload_n 0, 1) := by decide +kernel
theorem dL_law_977 : decode cL_law 977 = .ok (.iload 4, 2) := by decide +kernel
theorem dL_law_979 : decode cL_law 979 = .ok (.iconst 2, 1) := by decide +kernel
theorem dL_law_980 : decode cL_law 980 = .ok (.iadd, 1) := by decide +kernel
theorem dL_law_981 : decode cL_law 981 = .ok (.iaload, 1) := by decide +kernel
theorem dL_law_982 : decode cL_law 982 = .ok (.invokevirtual 150, 3) := by decide +kernel
theorem dL_law_985 : decode cL_law 985 = .ok (.istore 6, 2) := by decide +kernel
theorem dL_law_987 : decode cL_law 987 = .ok (.aload_n 2, 1) := by decide +kernel
theorem dL_law_988 : decode cL_law 988 = .ok (.invokevirtual 101, 3) := by decide +kernel
theorem dL_law_991 : decode cL_law 991 = .ok (.iload 5, 2) := by decide +kernel
theorem dL_law_993 : decode cL_law 993 = .ok (.if_icmp .eq 5, 3) := by decide +kernel
theorem dL_law_996 : decode cL_law 996 = .ok (.iconst 0, 1) := by decide +kernel
theorem dL_law_997 : decode cL_law 997 = .ok (.ireturn, 1) := by decide +kernel
theorem dL_law_998 : decode cL_law 998 = .ok (.iload 5, 2) := by decide +kernel
theorem dL_law_1000 : decode cL_law 1000 = .ok (.ifCond .ne 15, 3) := by decide +kernel
theorem dL_law_1003 : decode cL_law 1003 = .ok (.aload_n 3, 1) := by decide +kernel
theorem dL_law_1004 : decode cL_law 1004 = .ok (.iconst 0, 1) := by decide +kernel
theorem dL_law_1005 : decode cL_law 1005 = .ok (.laload, 1) := by decide +kernel
theorem dL_law_1006 : decode cL_law 1006 = .ok (.iload 6, 2) := by decide +kernel
theorem dL_law_1008 : decode cL_law 1008 = .ok (.i2l, 1) := by decide +kernel
theorem dL_law_1009 : decode cL_law 1009 = .ok (.lcmp, 1) := by decide +kernel
theorem dL_law_1010 : decode cL_law 1010 = .ok (.ifCond .eq 5, 3) := by decide +kernel
theorem dL_law_1013 : decode cL_law 1013 = .ok (.iconst 0, 1) := by decide +kernel
theorem dL_law_1014 : decode cL_law 1014 = .ok (.ireturn, 1) := by decide +kernel
theorem dL_law_1015 : decode cL_law 1015 = .ok (.goto 819, 3) := by decide +kernel
theorem dL_law_1018 : decode cL_law 1018 = .ok (.aload_n 1, 1) := by decide +kernel
theorem dL_law_1019 : decode cL_law 1019 = .ok (.aload_n 0, 1) := by decide +kernel
theorem dL_law_1020 : decode cL_law 1020 = .ok (.iload 4, 2) := by decide +kernel
theorem dL_law_1022 : decode cL_law 1022 = .ok (.iconst 1, 1) := by decide +kernel
theorem dL_law_1023 : decode cL_law 1023 = .ok (.iadd, 1) := by decide +kernel
theorem dL_law_1024 : decode cL_law 1024 = .ok (.iaload, 1) := by decide +kernel
theorem dL_law_1025 : decode cL_law 1025 = .ok (.aload_n 0, 1) := by decide +kernel
theorem dL_law_1026 : decode cL_law 1026 = .ok (.iload 4, 2) := by decide +kernel
theorem dL_law_1028 : decode cL_law 1028 = .ok (.iconst 2, 1) := by decide +kernel
theorem dL_law_1029 : decode cL_law 1029 = .ok (.iadd, 1) := by decide +kernel
theorem dL_law_1030 : decode cL_law 1030 = .ok (.iaload, 1) := by decide +kernel
theorem dL_law_1031 : decode cL_law 1031 = .ok (.aload_n 3, 1) := by decide +kernel
theorem dL_law_1032 : decode cL_law 1032 = .ok (.invokestatic 151, 3) := by decide +kernel
theorem dL_law_1035 : decode cL_law 1035 = .ok (.istore 5, 2) := by decide +kernel
theorem dL_law_1037 : decode cL_law 1037 = .ok (.aload_n 2, 1) := by decide +kernel
theorem dL_law_1038 : decode cL_law 1038 = .ok (.aload_n 0, 1) := by decide +kernel
theorem dL_law_1039 : decode cL_law 1039 = .ok (.iload 4, 2) := by decide +kernel
theorem dL_law_1041 : decode cL_law 1041 = .ok (.iconst 1, 1) := by decide +kernel
theorem dL_law_1042 : decode cL_law 1042 = .ok (.iadd, 1) := by decide +kernel
theorem dL_law_1043 : decode cL_law 1043 = .ok (.iaload, 1) := by decide +kernel
theorem dL_law_1044 : decode cL_law 1044 = .ok (.aload_n 0, 1) := by decide +kernel
theorem dL_law_1045 : decode cL_law 1045 = .ok (.iload 4, 2) := by decide +kernel
theorem dL_law_1047 : decode cL_law 1047 = .ok (.iconst 2, 1) := by decide +kernel
theorem dL_law_1048 : decode cL_law 1048 = .ok (.iadd, 1) := by decide +kernel
theorem dL_law_1049 : decode cL_law 1049 = .ok (.iaload, 1) := by decide +kernel
theorem dL_law_1050 : decode cL_law 1050 = .ok (.invokevirtual 153, 3) := by decide +kernel
theorem dL_law_1053 : decode cL_law 1053 = .ok (.istore 6, 2) := by decide +kernel
theorem dL_law_1055 : decode cL_law 1055 = .ok (.aload_n 2, 1) := by decide +kernel
theorem dL_law_1056 : decode cL_law 1056 = .ok (.invokevirtual 101, 3) := by decide +kernel
theorem dL_law_1059 : decode cL_law 1059 = .ok (.iload 5, 2) := by decide +kernel
theorem dL_law_1061 : decode cL_law 1061 = .ok (.if_icmp .eq 5, 3) := by decide +kernel
theorem dL_law_1064 : decode cL_law 1064 = .ok (.iconst 0, 1) := by decide +kernel
theorem dL_law_1065 : decode cL_law 1065 = .ok (.ireturn, 1) := by decide +kernel
theorem dL_law_1066 : decode cL_law 1066 = .ok (.iload 5, 2) := by decide +kernel
theorem dL_law_1068 : decode cL_law 1068 = .ok (.ifCond .ne 15, 3) := by decide +kernel
theorem dL_law_1071 : decode cL_law 1071 = .ok (.aload_n 3, 1) := by decide +kernel
theorem dL_law_1072 : decode cL_law 1072 = .ok (.iconst 0, 1) := by decide +kernel
theorem dL_law_1073 : decode cL_law 1073 = .ok (.laload, 1) := by decide +kernel
theorem dL_law_1074 : decode cL_law 1074 = .ok (.iload 6, 2) := by decide +kernel
theorem dL_law_1076 : decode cL_law 1076 = .ok (.i2l, 1) := by decide +kernel
theorem dL_law_1077 : decode cL_law 1077 = .ok (.lcmp, 1) := by decide +kernel
theorem dL_law_1078 : decode cL_law 1078 = .ok (.ifCond .eq 5, 3) := by decide +kernel
theorem dL_law_1081 : decode cL_law 1081 = .ok (.iconst 0, 1) := by decide +kernel
theorem dL_law_1082 : decode cL_law 1082 = .ok (.ireturn, 1) := by decide +kernel
theorem dL_law_1083 : decode cL_law 1083 = .ok (.goto 751, 3) := by decide +kernel
theorem dL_law_1086 : decode cL_law 1086 = .ok (.aload_n 1, 1) := by decide +kernel
theorem dL_law_1087 : decode cL_law 1087 = .ok (.aload_n 0, 1) := by decide +kernel
theorem dL_law_1088 : decode cL_law 1088 = .ok (.iload 4, 2) := by decide +kernel
theorem dL_law_1090 : decode cL_law 1090 = .ok (.iconst 1, 1) := by decide +kernel
theorem dL_law_1091 : decode cL_law 1091 = .ok (.iadd, 1) := by decide +kernel
theorem dL_law_1092 : decode cL_law 1092 = .ok (.iaload, 1) := by decide +kernel
theorem dL_law_1093 : decode cL_law 1093 = .ok (.aload_n 0, 1) := by decide +kernel
theorem dL_law_1094 : decode cL_law 1094 = .ok (.iload 4, 2) := by decide +kernel
theorem dL_law_1096 : decode cL_law 1096 = .ok (.iconst 2, 1) := by decide +kernel
theorem dL_law_1097 : decode cL_law 1097 = .ok (.iadd, 1) := by decide +kernel
theorem dL_law_1098 : decode cL_law 1098 = .ok (.iaload, 1) := by decide +kernel
theorem dL_law_1099 : decode cL_law 1099 = .ok (.aload_n 3, 1) := by decide +kernel
theorem dL_law_1100 : decode cL_law 1100 = .ok (.invokestatic 154, 3) := by decide +kernel
theorem dL_law_1103 : decode cL_law 1103 = .ok (.istore 5, 2) := by decide +kernel
theorem dL_law_1105 : decode cL_law 1105 = .ok (.aload_n 2, 1) := by decide +kernel
theorem dL_law_1106 : decode cL_law 1106 = .ok (.aload_n 0, 1) := by decide +kernel
theorem dL_law_1107 : decode cL_law 1107 = .ok (.iload 4, 2) := by decide +kernel
theorem dL_law_1109 : decode cL_law 1109 = .ok (.iconst 1, 1) := by decide +kernel
theorem dL_law_1110 : decode cL_law 1110 = .ok (.iadd, 1) := by decide +kernel
theorem dL_law_1111 : decode cL_law 1111 = .ok (.iaload, 1) := by decide +kernel
theorem dL_law_1112 : decode cL_law 1112 = .ok (.aload_n 0, 1) := by decide +kernel
theorem dL_law_1113 : decode cL_law 1113 = .ok (.iload 4, 2) := by decide +kernel
theorem dL_law_1115 : decode cL_law 1115 = .ok (.iconst 2, 1) := by decide +kernel
theorem dL_law_1116 : decode cL_law 1116 = .ok (.iadd, 1) := by decide +kernel
theorem dL_law_1117 : decode cL_law 1117 = .ok (.iaload, 1) := by decide +kernel
theorem dL_law_1118 : decode cL_law 1118 = .ok (.invokevirtual 156, 3) := by decide +kernel
theorem dL_law_1121 : decode cL_law 1121 = .ok (.istore 6, 2) := by decide +kernel
theorem dL_law_1123 : decode cL_law 1123 = .ok (.aload_n 2, 1) := by decide +kernel
theorem dL_law_1124 : decode cL_law 1124 = .ok (.invokevirtual 101, 3) := by decide +kernel
theorem dL_law_1127 : decode cL_law 1127 = .ok (.iload 5, 2) := by decide +kernel
theorem dL_law_1129 : decode cL_law 1129 = .ok (.if_icmp .eq 5, 3) := by decide +kernel
theorem dL_law_1132 : decode cL_law 1132 = .ok (.iconst 0, 1) := by decide +kernel
theorem dL_law_1133 : decode cL_law 1133 = .ok (.ireturn, 1) := by decide +kernel
theorem dL_law_1134 : decode cL_law 1134 = .ok (.iload 5, 2) := by decide +kernel
theorem dL_law_1136 : decode cL_law 1136 = .ok (.ifCond .ne 15, 3) := by decide +kernel
theorem dL_law_1139 : decode cL_law 1139 = .ok (.aload_n 3, 1) := by decide +kernel
theorem dL_law_1140 : decode cL_law 1140 = .ok (.iconst 0, 1) := by decide +kernel
theorem dL_law_1141 : decode cL_law 1141 = .ok (.laload, 1) := by decide +kernel
theorem dL_law_1142 : decode cL_law 1142 = .ok (.iload 6, 2) := by decide +kernel
theorem dL_law_1144 : decode cL_law 1144 = .ok (.i2l, 1) := by decide +kernel
theorem dL_law_1145 : decode cL_law 1145 = .ok (.lcmp, 1) := by decide +kernel
theorem dL_law_1146 : decode cL_law 1146 = .ok (.ifCond .eq 5, 3) := by decide +kernel
theorem dL_law_1149 : decode cL_law 1149 = .ok (.iconst 0, 1) := by decide +kernel
theorem dL_law_1150 : decode cL_law 1150 = .ok (.ireturn, 1) := by decide +kernel
theorem dL_law_1151 : decode cL_law 1151 = .ok (.goto 683, 3) := by decide +kernel
theorem dL_law_1154 : decode cL_law 1154 = .ok (.aload_n 1, 1) := by decide +kernel
theorem dL_law_1155 : decode cL_law 1155 = .ok (.aload_n 0, 1) := by decide +kernel
theorem dL_law_1156 : decode cL_law 1156 = .ok (.iload 4, 2) := by decide +kernel
theorem dL_law_1158 : decode cL_law 1158 = .ok (.iconst 1, 1) := by decide +kernel
theorem dL_law_1159 : decode cL_law 1159 = .ok (.iadd, 1) := by decide +kernel
theorem dL_law_1160 : decode cL_law 1160 = .ok (.iaload, 1) := by decide +kernel
theorem dL_law_1161 : decode cL_law 1161 = .ok (.aload_n 0, 1) := by decide +kernel
theorem dL_law_1162 : decode cL_law 1162 = .ok (.iload 4, 2) := by decide +kernel
theorem dL_law_1164 : decode cL_law 1164 = .ok (.iconst 2, 1) := by decide +kernel
theorem dL_law_1165 : decode cL_law 1165 = .ok (.iadd, 1) := by decide +kernel
theorem dL_law_1166 : decode cL_law 1166 = .ok (.iaload, 1) := by decide +kernel
theorem dL_law_1167 : decode cL_law 1167 = .ok (.aload_n 3, 1) := by decide +kernel
theorem dL_law_1168 : decode cL_law 1168 = .ok (.invokestatic 157, 3) := by decide +kernel
theorem dL_law_1171 : decode cL_law 1171 = .ok (.istore 5, 2) := by decide +kernel
theorem dL_law_1173 : decode cL_law 1173 = .ok (.aload_n 2, 1) := by decide +kernel
theorem dL_law_1174 : decode cL_law 1174 = .ok (.aload_n 0, 1) := by decide +kernel
theorem dL_law_1175 : decode cL_law 1175 = .ok (.iload 4, 2) := by decide +kernel
theorem dL_law_1177 : decode cL_law 1177 = .ok (.iconst 1, 1) := by decide +kernel
theorem dL_law_1178 : decode cL_law 1178 = .ok (.iadd, 1) := by decide +kernel
theorem dL_law_1179 : decode cL_law 1179 = .ok (.iaload, 1) := by decide +kernel
theorem dL_law_1180 : decode cL_law 1180 = .ok (.aload_n 0, 1) := by decide +kernel
theorem dL_law_1181 : decode cL_law 1181 = .ok (.iload 4, 2) := by decide +kernel
theorem dL_law_1183 : decode cL_law 1183 = .ok (.iconst 2, 1) := by decide +kernel
theorem dL_law_1184 : decode cL_law 1184 = .ok (.iadd, 1) := by decide +kernel
theorem dL_law_1185 : decode cL_law 1185 = .ok (.iaload, 1) := by decide +kernel
theorem dL_law_1186 : decode cL_law 1186 = .ok (.invokevirtual 159, 3) := by decide +kernel
theorem dL_law_1189 : decode cL_law 1189 = .ok (.istore 6, 2) := by decide +kernel
theorem dL_law_1191 : decode cL_law 1191 = .ok (.aload_n 2, 1) := by decide +kernel
theorem dL_law_1192 : decode cL_law 1192 = .ok (.invokevirtual 101, 3) := by decide +kernel
theorem dL_law_1195 : decode cL_law 1195 = .ok (.iload 5, 2) := by decide +kernel
theorem dL_law_1197 : decode cL_law 1197 = .ok (.if_icmp .eq 5, 3) := by decide +kernel
theorem dL_law_1200 : decode cL_law 1200 = .ok (.iconst 0, 1) := by decide +kernel
theorem dL_law_1201 : decode cL_law 1201 = .ok (.ireturn, 1) := by decide +kernel
theorem dL_law_1202 : decode cL_law 1202 = .ok (.iload 5, 2) := by decide +kernel
theorem dL_law_1204 : decode cL_law 1204 = .ok (.ifCond .ne 15, 3) := by decide +kernel
theorem dL_law_1207 : decode cL_law 1207 = .ok (.aload_n 3, 1) := by decide +kernel
theorem dL_law_1208 : decode cL_law 1208 = .ok (.iconst 0, 1) := by decide +kernel
theorem dL_law_1209 : decode cL_law 1209 = .ok (.laload, 1) := by decide +kernel
theorem dL_law_1210 : decode cL_law 1210 = .ok (.iload 6, 2) := by decide +kernel
theorem dL_law_1212 : decode cL_law 1212 = .ok (.i2l, 1) := by decide +kernel
theorem dL_law_1213 : decode cL_law 1213 = .ok (.lcmp, 1) := by decide +kernel
theorem dL_law_1214 : decode cL_law 1214 = .ok (.ifCond .eq 5, 3) := by decide +kernel
theorem dL_law_1217 : decode cL_law 1217 = .ok (.iconst 0, 1) := by decide +kernel
theorem dL_law_1218 : decode cL_law 1218 = .ok (.ireturn, 1) := by decide +kernel
theorem dL_law_1219 : decode cL_law 1219 = .ok (.goto 615, 3) := by decide +kernel
theorem dL_law_1222 : decode cL_law 1222 = .ok (.aload_n 1, 1) := by decide +kernel
theorem dL_law_1223 : decode cL_law 1223 = .ok (.aload_n 0, 1) := by decide +kernel
theorem dL_law_1224 : decode cL_law 1224 = .ok (.iload 4, 2) := by decide +kernel
theorem dL_law_1226 : decode cL_law 1226 = .ok (.iconst 1, 1) := by decide +kernel
theorem dL_law_1227 : decode cL_law 1227 = .ok (.iadd, 1) := by decide +kernel
theorem dL_law_1228 : decode cL_law 1228 = .ok (.iaload, 1) := by decide +kernel
theorem dL_law_1229 : decode cL_law 1229 = .ok (.aload_n 0, 1) := by decide +kernel
theorem dL_law_1230 : decode cL_law 1230 = .ok (.iload 4, 2) := by decide +kernel
theorem dL_law_1232 : decode cL_law 1232 = .ok (.iconst 2, 1) := by decide +kernel
theorem dL_law_1233 : decode cL_law 1233 = .ok (.iadd, 1) := by decide +kernel
theorem dL_law_1234 : decode cL_law 1234 = .ok (.iaload, 1) := by decide +kernel
theorem dL_law_1235 : decode cL_law 1235 = .ok (.aload_n 3, 1) := by decide +kernel
theorem dL_law_1236 : decode cL_law 1236 = .ok (.invokestatic 160, 3) := by decide +kernel
theorem dL_law_1239 : decode cL_law 1239 = .ok (.istore 5, 2) := by decide +kernel
theorem dL_law_1241 : decode cL_law 1241 = .ok (.aload_n 2, 1) := by decide +kernel
theorem dL_law_1242 : decode cL_law 1242 = .ok (.aload_n 0, 1) := by decide +kernel
theorem dL_law_1243 : decode cL_law 1243 = .ok (.iload 4, 2) := by decide +kernel
theorem dL_law_1245 : decode cL_law 1245 = .ok (.iconst 1, 1) := by decide +kernel
theorem dL_law_1246 : decode cL_law 1246 = .ok (.iadd, 1) := by decide +kernel
theorem dL_law_1247 : decode cL_law 1247 = .ok (.iaload, 1) := by decide +kernel
theorem dL_law_1248 : decode cL_law 1248 = .ok (.aload_n 0, 1) := by decide +kernel
theorem dL_law_1249 : decode cL_law 1249 = .ok (.iload 4, 2) := by decide +kernel
theorem dL_law_1251 : decode cL_law 1251 = .ok (.iconst 2, 1) := by decide +kernel
theorem dL_law_1252 : decode cL_law 1252 = .ok (.iadd, 1) := by decide +kernel
theorem dL_law_1253 : decode cL_law 1253 = .ok (.iaload, 1) := by decide +kernel
theorem dL_law_1254 : decode cL_law 1254 = .ok (.invokevirtual 162, 3) := by decide +kernel
theorem dL_law_1257 : decode cL_law 1257 = .ok (.istore 6, 2) := by decide +kernel
theorem dL_law_1259 : decode cL_law 1259 = .ok (.aload_n 2, 1) := by decide +kernel
theorem dL_law_1260 : decode cL_law 1260 = .ok (.invokevirtual 101, 3) := by decide +kernel
theorem dL_law_1263 : decode cL_law 1263 = .ok (.iload 5, 2) := by decide +kernel
theorem dL_law_1265 : decode cL_law 1265 = .ok (.if_icmp .eq 5, 3) := by decide +kernel
theorem dL_law_1268 : decode cL_law 1268 = .ok (.iconst 0, 1) := by decide +kernel
theorem dL_law_1269 : decode cL_law 1269 = .ok (.ireturn, 1) := by decide +kernel
theorem dL_law_1270 : decode cL_law 1270 = .ok (.iload 5, 2) := by decide +kernel
theorem dL_law_1272 : decode cL_law 1272 = .ok (.ifCond .ne 15, 3) := by decide +kernel
theorem dL_law_1275 : decode cL_law 1275 = .ok (.aload_n 3, 1) := by decide +kernel
theorem dL_law_1276 : decode cL_law 1276 = .ok (.iconst 0, 1) := by decide +kernel
theorem dL_law_1277 : decode cL_law 1277 = .ok (.laload, 1) := by decide +kernel
theorem dL_law_1278 : decode cL_law 1278 = .ok (.iload 6, 2) := by decide +kernel
theorem dL_law_1280 : decode cL_law 1280 = .ok (.i2l, 1) := by decide +kernel
theorem dL_law_1281 : decode cL_law 1281 = .ok (.lcmp, 1) := by decide +kernel
theorem dL_law_1282 : decode cL_law 1282 = .ok (.ifCond .eq 5, 3) := by decide +kernel
theorem dL_law_1285 : decode cL_law 1285 = .ok (.iconst 0, 1) := by decide +kernel
theorem dL_law_1286 : decode cL_law 1286 = .ok (.ireturn, 1) := by decide +kernel
theorem dL_law_1287 : decode cL_law 1287 = .ok (.goto 547, 3) := by decide +kernel
theorem dL_law_1290 : decode cL_law 1290 = .ok (.aload_n 1, 1) := by decide +kernel
theorem dL_law_1291 : decode cL_law 1291 = .ok (.aload_n 0, 1) := by decide +kernel
theorem dL_law_1292 : decode cL_law 1292 = .ok (.iload 4, 2) := by decide +kernel
theorem dL_law_1294 : decode cL_law 1294 = .ok (.iconst 1, 1) := by decide +kernel
theorem dL_law_1295 : decode cL_law 1295 = .ok (.iadd, 1) := by decide +kernel
theorem dL_law_1296 : decode cL_law 1296 = .ok (.iaload, 1) := by decide +kernel
theorem dL_law_1297 : decode cL_law 1297 = .ok (.aload_n 0, 1) := by decide +kernel
theorem dL_law_1298 : decode cL_law 1298 = .ok (.iload 4, 2) := by decide +kernel
theorem dL_law_1300 : decode cL_law 1300 = .ok (.iconst 2, 1) := by decide +kernel
theorem dL_law_1301 : decode cL_law 1301 = .ok (.iadd, 1) := by decide +kernel
theorem dL_law_1302 : decode cL_law 1302 = .ok (.iaload, 1) := by decide +kernel
theorem dL_law_1303 : decode cL_law 1303 = .ok (.aload_n 3, 1) := by decide +kernel
theorem dL_law_1304 : decode cL_law 1304 = .ok (.invokestatic 163, 3) := by decide +kernel
theorem dL_law_1307 : decode cL_law 1307 = .ok (.istore 5, 2) := by decide +kernel
theorem dL_law_1309 : decode cL_law 1309 = .ok (.aload_n 2, 1) := by decide +kernel
theorem dL_law_1310 : decode cL_law 1310 = .ok (.aload_n 0, 1) := by decide +kernel
theorem dL_law_1311 : decode cL_law 1311 = .ok (.iload 4, 2) := by decide +kernel
theorem dL_law_1313 : decode cL_law 1313 = .ok (.iconst 1, 1) := by decide +kernel
theorem dL_law_1314 : decode cL_law 1314 = .ok (.iadd, 1) := by decide +kernel
theorem dL_law_1315 : decode cL_law 1315 = .ok (.iaload, 1) := by decide +kernel
theorem dL_law_1316 : decode cL_law 1316 = .ok (.aload_n 0, 1) := by decide +kernel
theorem dL_law_1317 : decode cL_law 1317 = .ok (.iload 4, 2) := by decide +kernel
theorem dL_law_1319 : decode cL_law 1319 = .ok (.iconst 2, 1) := by decide +kernel
theorem dL_law_1320 : decode cL_law 1320 = .ok (.iadd, 1) := by decide +kernel
theorem dL_law_1321 : decode cL_law 1321 = .ok (.iaload, 1) := by decide +kernel
theorem dL_law_1322 : decode cL_law 1322 = .ok (.invokevirtual 165, 3) := by decide +kernel
theorem dL_law_1325 : decode cL_law 1325 = .ok (.istore 6, 2) := by decide +kernel
theorem dL_law_1327 : decode cL_law 1327 = .ok (.aload_n 2, 1) := by decide +kernel
theorem dL_law_1328 : decode cL_law 1328 = .ok (.invokevirtual 101, 3) := by decide +kernel
theorem dL_law_1331 : decode cL_law 1331 = .ok (.iload 5, 2) := by decide +kernel
theorem dL_law_1333 : decode cL_law 1333 = .ok (.if_icmp .eq 5, 3) := by decide +kernel
theorem dL_law_1336 : decode cL_law 1336 = .ok (.iconst 0, 1) := by decide +kernel
theorem dL_law_1337 : decode cL_law 1337 = .ok (.ireturn, 1) := by decide +kernel
theorem dL_law_1338 : decode cL_law 1338 = .ok (.iload 5, 2) := by decide +kernel
theorem dL_law_1340 : decode cL_law 1340 = .ok (.ifCond .ne 15, 3) := by decide +kernel
theorem dL_law_1343 : decode cL_law 1343 = .ok (.aload_n 3, 1) := by decide +kernel
theorem dL_law_1344 : decode cL_law 1344 = .ok (.iconst 0, 1) := by decide +kernel
theorem dL_law_1345 : decode cL_law 1345 = .ok (.laload, 1) := by decide +kernel
theorem dL_law_1346 : decode cL_law 1346 = .ok (.iload 6, 2) := by decide +kernel
theorem dL_law_1348 : decode cL_law 1348 = .ok (.i2l, 1) := by decide +kernel
theorem dL_law_1349 : decode cL_law 1349 = .ok (.lcmp, 1) := by decide +kernel
theorem dL_law_1350 : decode cL_law 1350 = .ok (.ifCond .eq 5, 3) := by decide +kernel
theorem dL_law_1353 : decode cL_law 1353 = .ok (.iconst 0, 1) := by decide +kernel
theorem dL_law_1354 : decode cL_law 1354 = .ok (.ireturn, 1) := by decide +kernel
theorem dL_law_1355 : decode cL_law 1355 = .ok (.goto 479, 3) := by decide +kernel
theorem dL_law_1358 : decode cL_law 1358 = .ok (.aload_n 1, 1) := by decide +kernel
theorem dL_law_1359 : decode cL_law 1359 = .ok (.aload_n 0, 1) := by decide +kernel
theorem dL_law_1360 : decode cL_law 1360 = .ok (.iload 4, 2) := by decide +kernel
theorem dL_law_1362 : decode cL_law 1362 = .ok (.iconst 1, 1) := by decide +kernel
theorem dL_law_1363 : decode cL_law 1363 = .ok (.iadd, 1) := by decide +kernel
theorem dL_law_1364 : decode cL_law 1364 = .ok (.iaload, 1) := by decide +kernel
theorem dL_law_1365 : decode cL_law 1365 = .ok (.aload_n 3, 1) := by decide +kernel
theorem dL_law_1366 : decode cL_law 1366 = .ok (.invokestatic 166, 3) := by decide +kernel
theorem dL_law_1369 : decode cL_law 1369 = .ok (.istore 5, 2) := by decide +kernel
theorem dL_law_1371 : decode cL_law 1371 = .ok (.aload_n 2, 1) := by decide +kernel
theorem dL_law_1372 : decode cL_law 1372 = .ok (.aload_n 0, 1) := by decide +kernel
theorem dL_law_1373 : decode cL_law 1373 = .ok (.iload 4, 2) := by decide +kernel
theorem dL_law_1375 : decode cL_law 1375 = .ok (.iconst 1, 1) := by decide +kernel
theorem dL_law_1376 : decode cL_law 1376 = .ok (.iadd, 1) := by decide +kernel
theorem dL_law_1377 : decode cL_law 1377 = .ok (.iaload, 1) := by decide +kernel
theorem dL_law_1378 : decode cL_law 1378 = .ok (.invokevirtual 168, 3) := by decide +kernel
theorem dL_law_1381 : decode cL_law 1381 = .ok (.istore 6, 2) := by decide +kernel
theorem dL_law_1383 : decode cL_law 1383 = .ok (.aload_n 2, 1) := by decide +kernel
theorem dL_law_1384 : decode cL_law 1384 = .ok (.invokevirtual 101, 3) := by decide +kernel
theorem dL_law_1387 : decode cL_law 1387 = .ok (.iload 5, 2) := by decide +kernel
theorem dL_law_1389 : decode cL_law 1389 = .ok (.if_icmp .eq 5, 3) := by decide +kernel
theorem dL_law_1392 : decode cL_law 1392 = .ok (.iconst 0, 1) := by decide +kernel
theorem dL_law_1393 : decode cL_law 1393 = .ok (.ireturn, 1) := by decide +kernel
theorem dL_law_1394 : decode cL_law 1394 = .ok (.iload 5, 2) := by decide +kernel
theorem dL_law_1396 : decode cL_law 1396 = .ok (.ifCond .ne 15, 3) := by decide +kernel
theorem dL_law_1399 : decode cL_law 1399 = .ok (.aload_n 3, 1) := by decide +kernel
theorem dL_law_1400 : decode cL_law 1400 = .ok (.iconst 0, 1) := by decide +kernel
theorem dL_law_1401 : decode cL_law 1401 = .ok (.laload, 1) := by decide +kernel
theorem dL_law_1402 : decode cL_law 1402 = .ok (.iload 6, 2) := by decide +kernel
theorem dL_law_1404 : decode cL_law 1404 = .ok (.i2l, 1) := by decide +kernel
theorem dL_law_1405 : decode cL_law 1405 = .ok (.lcmp, 1) := by decide +kernel
theorem dL_law_1406 : decode cL_law 1406 = .ok (.ifCond .eq 5, 3) := by decide +kernel
theorem dL_law_1409 : decode cL_law 1409 = .ok (.iconst 0, 1) := by decide +kernel
theorem dL_law_1410 : decode cL_law 1410 = .ok (.ireturn, 1) := by decide +kernel
theorem dL_law_1411 : decode cL_law 1411 = .ok (.goto 423, 3) := by decide +kernel
theorem dL_law_1414 : decode cL_law 1414 = .ok (.aload_n 1, 1) := by decide +kernel
theorem dL_law_1415 : decode cL_law 1415 = .ok (.aload_n 0, 1) := by decide +kernel
theorem dL_law_1416 : decode cL_law 1416 = .ok (.iload 4, 2) := by decide +kernel
theorem dL_law_1418 : decode cL_law 1418 = .ok (.iconst 1, 1) := by decide +kernel
theorem dL_law_1419 : decode cL_law 1419 = .ok (.iadd, 1) := by decide +kernel
theorem dL_law_1420 : decode cL_law 1420 = .ok (.iaload, 1) := by decide +kernel
theorem dL_law_1421 : decode cL_law 1421 = .ok (.aload_n 3, 1) := by decide +kernel
theorem dL_law_1422 : decode cL_law 1422 = .ok (.invokestatic 169, 3) := by decide +kernel
theorem dL_law_1425 : decode cL_law 1425 = .ok (.istore 5, 2) := by decide +kernel
theorem dL_law_1427 : decode cL_law 1427 = .ok (.aload_n 2, 1) := by decide +kernel
theorem dL_law_1428 : decode cL_law 1428 = .ok (.aload_n 0, 1) := by decide +kernel
theorem dL_law_1429 : decode cL_law 1429 = .ok (.iload 4, 2) := by decide +kernel
theorem dL_law_1431 : decode cL_law 1431 = .ok (.iconst 1, 1) := by decide +kernel
theorem dL_law_1432 : decode cL_law 1432 = .ok (.iadd, 1) := by decide +kernel
theorem dL_law_1433 : decode cL_law 1433 = .ok (.iaload, 1) := by decide +kernel
theorem dL_law_1434 : decode cL_law 1434 = .ok (.invokevirtual 171, 3) := by decide +kernel
theorem dL_law_1437 : decode cL_law 1437 = .ok (.istore 6, 2) := by decide +kernel
theorem dL_law_1439 : decode cL_law 1439 = .ok (.aload_n 2, 1) := by decide +kernel
theorem dL_law_1440 : decode cL_law 1440 = .ok (.invokevirtual 101, 3) := by decide +kernel
theorem dL_law_1443 : decode cL_law 1443 = .ok (.iload 5, 2) := by decide +kernel
theorem dL_law_1445 : decode cL_law 1445 = .ok (.if_icmp .eq 5, 3) := by decide +kernel
theorem dL_law_1448 : decode cL_law 1448 = .ok (.iconst 0, 1) := by decide +kernel
theorem dL_law_1449 : decode cL_law 1449 = .ok (.ireturn, 1) := by decide +kernel
theorem dL_law_1450 : decode cL_law 1450 = .ok (.iload 5, 2) := by decide +kernel
theorem dL_law_1452 : decode cL_law 1452 = .ok (.ifCond .ne 15, 3) := by decide +kernel
theorem dL_law_1455 : decode cL_law 1455 = .ok (.aload_n 3, 1) := by decide +kernel
theorem dL_law_1456 : decode cL_law 1456 = .ok (.iconst 0, 1) := by decide +kernel
theorem dL_law_1457 : decode cL_law 1457 = .ok (.laload, 1) := by decide +kernel
theorem dL_law_1458 : decode cL_law 1458 = .ok (.iload 6, 2) := by decide +kernel
theorem dL_law_1460 : decode cL_law 1460 = .ok (.i2l, 1) := by decide +kernel
theorem dL_law_1461 : decode cL_law 1461 = .ok (.lcmp, 1) := by decide +kernel
theorem dL_law_1462 : decode cL_law 1462 = .ok (.ifCond .eq 5, 3) := by decide +kernel
theorem dL_law_1465 : decode cL_law 1465 = .ok (.iconst 0, 1) := by decide +kernel
theorem dL_law_1466 : decode cL_law 1466 = .ok (.ireturn, 1) := by decide +kernel
theorem dL_law_1467 : decode cL_law 1467 = .ok (.goto 367, 3) := by decide +kernel
theorem dL_law_1470 : decode cL_law 1470 = .ok (.aload_n 1, 1) := by decide +kernel
theorem dL_law_1471 : decode cL_law 1471 = .ok (.aload_n 0, 1) := by decide +kernel
theorem dL_law_1472 : decode cL_law 1472 = .ok (.iload 4, 2) := by decide +kernel
theorem dL_law_1474 : decode cL_law 1474 = .ok (.iconst 1, 1) := by decide +kernel
theorem dL_law_1475 : decode cL_law 1475 = .ok (.iadd, 1) := by decide +kernel
theorem dL_law_1476 : decode cL_law 1476 = .ok (.iaload, 1) := by decide +kernel
theorem dL_law_1477 : decode cL_law 1477 = .ok (.aload_n 0, 1) := by decide +kernel
theorem dL_law_1478 : decode cL_law 1478 = .ok (.iload 4, 2) := by decide +kernel
theorem dL_law_1480 : decode cL_law 1480 = .ok (.iconst 2, 1) := by decide +kernel
theorem dL_law_1481 : decode cL_law 1481 = .ok (.iadd, 1) := by decide +kernel
theorem dL_law_1482 : decode cL_law 1482 = .ok (.iaload, 1) := by decide +kernel
theorem dL_law_1483 : decode cL_law 1483 = .ok (.aload_n 0, 1) := by decide +kernel
theorem dL_law_1484 : decode cL_law 1484 = .ok (.iload 4, 2) := by decide +kernel
theorem dL_law_1486 : decode cL_law 1486 = .ok (.iconst 3, 1) := by decide +kernel
theorem dL_law_1487 : decode cL_law 1487 = .ok (.iadd, 1) := by decide +kernel
theorem dL_law_1488 : decode cL_law 1488 = .ok (.iaload, 1) := by decide +kernel
theorem dL_law_1489 : decode cL_law 1489 = .ok (.aload_n 3, 1) := by decide +kernel
theorem dL_law_1490 : decode cL_law 1490 = .ok (.invokestatic 172, 3) := by decide +kernel
theorem dL_law_1493 : decode cL_law 1493 = .ok (.istore 5, 2) := by decide +kernel
theorem dL_law_1495 : decode cL_law 1495 = .ok (.aload_n 2, 1) := by decide +kernel
theorem dL_law_1496 : decode cL_law 1496 = .ok (.aload_n 0, 1) := by decide +kernel
theorem dL_law_1497 : decode cL_law 1497 = .ok (.iload 4, 2) := by decide +kernel
theorem dL_law_1499 : decode cL_law 1499 = .ok (.iconst 1, 1) := by decide +kernel
theorem dL_law_1500 : decode cL_law 1500 = .ok (.iadd, 1) := by decide +kernel
theorem dL_law_1501 : decode cL_law 1501 = .ok (.iaload, 1) := by decide +kernel
theorem dL_law_1502 : decode cL_law 1502 = .ok (.aload_n 0, 1) := by decide +kernel
theorem dL_law_1503 : decode cL_law 1503 = .ok (.iload 4, 2) := by decide +kernel
theorem dL_law_1505 : decode cL_law 1505 = .ok (.iconst 2, 1) := by decide +kernel
theorem dL_law_1506 : decode cL_law 1506 = .ok (.iadd, 1) := by decide +kernel
theorem dL_law_1507 : decode cL_law 1507 = .ok (.iaload, 1) := by decide +kernel
theorem dL_law_1508 : decode cL_law 1508 = .ok (.aload_n 0, 1) := by decide +kernel
theorem dL_law_1509 : decode cL_law 1509 = .ok (.iload 4, 2) := by decide +kernel
theorem dL_law_1511 : decode cL_law 1511 = .ok (.iconst 3, 1) := by decide +kernel
theorem dL_law_1512 : decode cL_law 1512 = .ok (.iadd, 1) := by decide +kernel
theorem dL_law_1513 : decode cL_law 1513 = .ok (.iaload, 1) := by decide +kernel
theorem dL_law_1514 : decode cL_law 1514 = .ok (.invokevirtual 174, 3) := by decide +kernel
theorem dL_law_1517 : decode cL_law 1517 = .ok (.istore 6, 2) := by decide +kernel
theorem dL_law_1519 : decode cL_law 1519 = .ok (.aload_n 2, 1) := by decide +kernel
theorem dL_law_1520 : decode cL_law 1520 = .ok (.invokevirtual 101, 3) := by decide +kernel
theorem dL_law_1523 : decode cL_law 1523 = .ok (.iload 5, 2) := by decide +kernel
theorem dL_law_1525 : decode cL_law 1525 = .ok (.if_icmp .eq 5, 3) := by decide +kernel
theorem dL_law_1528 : decode cL_law 1528 = .ok (.iconst 0, 1) := by decide +kernel
theorem dL_law_1529 : decode cL_law 1529 = .ok (.ireturn, 1) := by decide +kernel
theorem dL_law_1530 : decode cL_law 1530 = .ok (.iload 5, 2) := by decide +kernel
theorem dL_law_1532 : decode cL_law 1532 = .ok (.ifCond .ne 15, 3) := by decide +kernel
theorem dL_law_1535 : decode cL_law 1535 = .ok (.aload_n 3, 1) := by decide +kernel
theorem dL_law_1536 : decode cL_law 1536 = .ok (.iconst 0, 1) := by decide +kernel
theorem dL_law_1537 : decode cL_law 1537 = .ok (.laload, 1) := by decide +kernel
theorem dL_law_1538 : decode cL_law 1538 = .ok (.iload 6, 2) := by decide +kernel
theorem dL_law_1540 : decode cL_law 1540 = .ok (.i2l, 1) := by decide +kernel
theorem dL_law_1541 : decode cL_law 1541 = .ok (.lcmp, 1) := by decide +kernel
theorem dL_law_1542 : decode cL_law 1542 = .ok (.ifCond .eq 5, 3) := by decide +kernel
theorem dL_law_1545 : decode cL_law 1545 = .ok (.iconst 0, 1) := by decide +kernel
theorem dL_law_1546 : decode cL_law 1546 = .ok (.ireturn, 1) := by decide +kernel
theorem dL_law_1547 : decode cL_law 1547 = .ok (.goto 287, 3) := by decide +kernel
theorem dL_law_1550 : decode cL_law 1550 = .ok (.aload_n 1, 1) := by decide +kernel
theorem dL_law_1551 : decode cL_law 1551 = .ok (.aload_n 0, 1) := by decide +kernel
theorem dL_law_1552 : decode cL_law 1552 = .ok (.iload 4, 2) := by decide +kernel
theorem dL_law_1554 : decode cL_law 1554 = .ok (.iconst 1, 1) := by decide +kernel
theorem dL_law_1555 : decode cL_law 1555 = .ok (.iadd, 1) := by decide +kernel
theorem dL_law_1556 : decode cL_law 1556 = .ok (.iaload, 1) := by decide +kernel
theorem dL_law_1557 : decode cL_law 1557 = .ok (.aload_n 0, 1) := by decide +kernel
theorem dL_law_1558 : decode cL_law 1558 = .ok (.iload 4, 2) := by decide +kernel
theorem dL_law_1560 : decode cL_law 1560 = .ok (.iconst 2, 1) := by decide +kernel
theorem dL_law_1561 : decode cL_law 1561 = .ok (.iadd, 1) := by decide +kernel
theorem dL_law_1562 : decode cL_law 1562 = .ok (.iaload, 1) := by decide +kernel
theorem dL_law_1563 : decode cL_law 1563 = .ok (.aload_n 0, 1) := by decide +kernel
theorem dL_law_1564 : decode cL_law 1564 = .ok (.iload 4, 2) := by decide +kernel
theorem dL_law_1566 : decode cL_law 1566 = .ok (.iconst 3, 1) := by decide +kernel
theorem dL_law_1567 : decode cL_law 1567 = .ok (.iadd, 1) := by decide +kernel
theorem dL_law_1568 : decode cL_law 1568 = .ok (.iaload, 1) := by decide +kernel
theorem dL_law_1569 : decode cL_law 1569 = .ok (.aload_n 3, 1) := by decide +kernel
theorem dL_law_1570 : decode cL_law 1570 = .ok (.invokestatic 175, 3) := by decide +kernel
theorem dL_law_1573 : decode cL_law 1573 = .ok (.istore 5, 2) := by decide +kernel
theorem dL_law_1575 : decode cL_law 1575 = .ok (.aload_n 2, 1) := by decide +kernel
theorem dL_law_1576 : decode cL_law 1576 = .ok (.aload_n 0, 1) := by decide +kernel
theorem dL_law_1577 : decode cL_law 1577 = .ok (.iload 4, 2) := by decide +kernel
theorem dL_law_1579 : decode cL_law 1579 = .ok (.iconst 1, 1) := by decide +kernel
theorem dL_law_1580 : decode cL_law 1580 = .ok (.iadd, 1) := by decide +kernel
theorem dL_law_1581 : decode cL_law 1581 = .ok (.iaload, 1) := by decide +kernel
theorem dL_law_1582 : decode cL_law 1582 = .ok (.aload_n 0, 1) := by decide +kernel
theorem dL_law_1583 : decode cL_law 1583 = .ok (.iload 4, 2) := by decide +kernel
theorem dL_law_1585 : decode cL_law 1585 = .ok (.iconst 2, 1) := by decide +kernel
theorem dL_law_1586 : decode cL_law 1586 = .ok (.iadd, 1) := by decide +kernel
theorem dL_law_1587 : decode cL_law 1587 = .ok (.iaload, 1) := by decide +kernel
theorem dL_law_1588 : decode cL_law 1588 = .ok (.aload_n 0, 1) := by decide +kernel
theorem dL_law_1589 : decode cL_law 1589 = .ok (.iload 4, 2) := by decide +kernel
theorem dL_law_1591 : decode cL_law 1591 = .ok (.iconst 3, 1) := by decide +kernel
theorem dL_law_1592 : decode cL_law 1592 = .ok (.iadd, 1) := by decide +kernel
theorem dL_law_1593 : decode cL_law 1593 = .ok (.iaload, 1) := by decide +kernel
theorem dL_law_1594 : decode cL_law 1594 = .ok (.invokevirtual 177, 3) := by decide +kernel
theorem dL_law_1597 : decode cL_law 1597 = .ok (.istore 6, 2) := by decide +kernel
theorem dL_law_1599 : decode cL_law 1599 = .ok (.aload_n 2, 1) := by decide +kernel
theorem dL_law_1600 : decode cL_law 1600 = .ok (.invokevirtual 101, 3) := by decide +kernel
theorem dL_law_1603 : decode cL_law 1603 = .ok (.iload 5, 2) := by decide +kernel
theorem dL_law_1605 : decode cL_law 1605 = .ok (.if_icmp .eq 5, 3) := by decide +kernel
theorem dL_law_1608 : decode cL_law 1608 = .ok (.iconst 0, 1) := by decide +kernel
theorem dL_law_1609 : decode cL_law 1609 = .ok (.ireturn, 1) := by decide +kernel
theorem dL_law_1610 : decode cL_law 1610 = .ok (.iload 5, 2) := by decide +kernel
theorem dL_law_1612 : decode cL_law 1612 = .ok (.ifCond .ne 15, 3) := by decide +kernel
theorem dL_law_1615 : decode cL_law 1615 = .ok (.aload_n 3, 1) := by decide +kernel
theorem dL_law_1616 : decode cL_law 1616 = .ok (.iconst 0, 1) := by decide +kernel
theorem dL_law_1617 : decode cL_law 1617 = .ok (.laload, 1) := by decide +kernel
theorem dL_law_1618 : decode cL_law 1618 = .ok (.iload 6, 2) := by decide +kernel
theorem dL_law_1620 : decode cL_law 1620 = .ok (.i2l, 1) := by decide +kernel
theorem dL_law_1621 : decode cL_law 1621 = .ok (.lcmp, 1) := by decide +kernel
theorem dL_law_1622 : decode cL_law 1622 = .ok (.ifCond .eq 5, 3) := by decide +kernel
theorem dL_law_1625 : decode cL_law 1625 = .ok (.iconst 0, 1) := by decide +kernel
theorem dL_law_1626 : decode cL_law 1626 = .ok (.ireturn, 1) := by decide +kernel
theorem dL_law_1627 : decode cL_law 1627 = .ok (.goto 207, 3) := by decide +kernel
theorem dL_law_1630 : decode cL_law 1630 = .ok (.aload_n 1, 1) := by decide +kernel
theorem dL_law_1631 : decode cL_law 1631 = .ok (.aload_n 0, 1) := by decide +kernel
theorem dL_law_1632 : decode cL_law 1632 = .ok (.iload 4, 2) := by decide +kernel
theorem dL_law_1634 : decode cL_law 1634 = .ok (.iconst 1, 1) := by decide +kernel
theorem dL_law_1635 : decode cL_law 1635 = .ok (.iadd, 1) := by decide +kernel
theorem dL_law_1636 : decode cL_law 1636 = .ok (.iaload, 1) := by decide +kernel
theorem dL_law_1637 : decode cL_law 1637 = .ok (.aload_n 0, 1) := by decide +kernel
theorem dL_law_1638 : decode cL_law 1638 = .ok (.iload 4, 2) := by decide +kernel
theorem dL_law_1640 : decode cL_law 1640 = .ok (.iconst 2, 1) := by decide +kernel
theorem dL_law_1641 : decode cL_law 1641 = .ok (.iadd, 1) := by decide +kernel
theorem dL_law_1642 : decode cL_law 1642 = .ok (.iaload, 1) := by decide +kernel
theorem dL_law_1643 : decode cL_law 1643 = .ok (.aload_n 3, 1) := by decide +kernel
theorem dL_law_1644 : decode cL_law 1644 = .ok (.invokestatic 178, 3) := by decide +kernel
theorem dL_law_1647 : decode cL_law 1647 = .ok (.istore 5, 2) := by decide +kernel
theorem dL_law_1649 : decode cL_law 1649 = .ok (.aload_n 2, 1) := by decide +kernel
theorem dL_law_1650 : decode cL_law 1650 = .ok (.aload_n 0, 1) := by decide +kernel
theorem dL_law_1651 : decode cL_law 1651 = .ok (.iload 4, 2) := by decide +kernel
theorem dL_law_1653 : decode cL_law 1653 = .ok (.iconst 1, 1) := by decide +kernel
theorem dL_law_1654 : decode cL_law 1654 = .ok (.iadd, 1) := by decide +kernel
theorem dL_law_1655 : decode cL_law 1655 = .ok (.iaload, 1) := by decide +kernel
theorem dL_law_1656 : decode cL_law 1656 = .ok (.aload_n 0, 1) := by decide +kernel
theorem dL_law_1657 : decode cL_law 1657 = .ok (.iload 4, 2) := by decide +kernel
theorem dL_law_1659 : decode cL_law 1659 = .ok (.iconst 2, 1) := by decide +kernel
theorem dL_law_1660 : decode cL_law 1660 = .ok (.iadd, 1) := by decide +kernel
theorem dL_law_1661 : decode cL_law 1661 = .ok (.iaload, 1) := by decide +kernel
theorem dL_law_1662 : decode cL_law 1662 = .ok (.invokevirtual 180, 3) := by decide +kernel
theorem dL_law_1665 : decode cL_law 1665 = .ok (.istore 6, 2) := by decide +kernel
theorem dL_law_1667 : decode cL_law 1667 = .ok (.aload_n 2, 1) := by decide +kernel
theorem dL_law_1668 : decode cL_law 1668 = .ok (.invokevirtual 101, 3) := by decide +kernel
theorem dL_law_1671 : decode cL_law 1671 = .ok (.iload 5, 2) := by decide +kernel
theorem dL_law_1673 : decode cL_law 1673 = .ok (.if_icmp .eq 5, 3) := by decide +kernel
theorem dL_law_1676 : decode cL_law 1676 = .ok (.iconst 0, 1) := by decide +kernel
theorem dL_law_1677 : decode cL_law 1677 = .ok (.ireturn, 1) := by decide +kernel
theorem dL_law_1678 : decode cL_law 1678 = .ok (.iload 5, 2) := by decide +kernel
theorem dL_law_1680 : decode cL_law 1680 = .ok (.ifCond .ne 15, 3) := by decide +kernel
theorem dL_law_1683 : decode cL_law 1683 = .ok (.aload_n 3, 1) := by decide +kernel
theorem dL_law_1684 : decode cL_law 1684 = .ok (.iconst 0, 1) := by decide +kernel
theorem dL_law_1685 : decode cL_law 1685 = .ok (.laload, 1) := by decide +kernel
theorem dL_law_1686 : decode cL_law 1686 = .ok (.iload 6, 2) := by decide +kernel
theorem dL_law_1688 : decode cL_law 1688 = .ok (.i2l, 1) := by decide +kernel
theorem dL_law_1689 : decode cL_law 1689 = .ok (.lcmp, 1) := by decide +kernel
theorem dL_law_1690 : decode cL_law 1690 = .ok (.ifCond .eq 5, 3) := by decide +kernel
theorem dL_law_1693 : decode cL_law 1693 = .ok (.iconst 0, 1) := by decide +kernel
theorem dL_law_1694 : decode cL_law 1694 = .ok (.ireturn, 1) := by decide +kernel
theorem dL_law_1695 : decode cL_law 1695 = .ok (.goto 139, 3) := by decide +kernel
theorem dL_law_1698 : decode cL_law 1698 = .ok (.aload_n 1, 1) := by decide +kernel
theorem dL_law_1699 : decode cL_law 1699 = .ok (.aload_n 0, 1) := by decide +kernel
theorem dL_law_1700 : decode cL_law 1700 = .ok (.iload 4, 2) := by decide +kernel
theorem dL_law_1702 : decode cL_law 1702 = .ok (.iconst 1, 1) := by decide +kernel
theorem dL_law_1703 : decode cL_law 1703 = .ok (.iadd, 1) := by decide +kernel
theorem dL_law_1704 : decode cL_law 1704 = .ok (.iaload, 1) := by decide +kernel
theorem dL_law_1705 : decode cL_law 1705 = .ok (.aload_n 0, 1) := by decide +kernel
theorem dL_law_1706 : decode cL_law 1706 = .ok (.iload 4, 2) := by decide +kernel
theorem dL_law_1708 : decode cL_law 1708 = .ok (.iconst 2, 1) := by decide +kernel
theorem dL_law_1709 : decode cL_law 1709 = .ok (.iadd, 1) := by decide +kernel
theorem dL_law_1710 : decode cL_law 1710 = .ok (.iaload, 1) := by decide +kernel
theorem dL_law_1711 : decode cL_law 1711 = .ok (.aload_n 3, 1) := by decide +kernel
theorem dL_law_1712 : decode cL_law 1712 = .ok (.invokestatic 181, 3) := by decide +kernel
theorem dL_law_1715 : decode cL_law 1715 = .ok (.istore 5, 2) := by decide +kernel
theorem dL_law_1717 : decode cL_law 1717 = .ok (.aload_n 2, 1) := by decide +kernel
theorem dL_law_1718 : decode cL_law 1718 = .ok (.aload_n 0, 1) := by decide +kernel
theorem dL_law_1719 : decode cL_law 1719 = .ok (.iload 4, 2) := by decide +kernel
theorem dL_law_1721 : decode cL_law 1721 = .ok (.iconst 1, 1) := by decide +kernel
theorem dL_law_1722 : decode cL_law 1722 = .ok (.iadd, 1) := by decide +kernel
theorem dL_law_1723 : decode cL_law 1723 = .ok (.iaload, 1) := by decide +kernel
theorem dL_law_1724 : decode cL_law 1724 = .ok (.aload_n 0, 1) := by decide +kernel
theorem dL_law_1725 : decode cL_law 1725 = .ok (.iload 4, 2) := by decide +kernel
theorem dL_law_1727 : decode cL_law 1727 = .ok (.iconst 2, 1) := by decide +kernel
theorem dL_law_1728 : decode cL_law 1728 = .ok (.iadd, 1) := by decide +kernel
theorem dL_law_1729 : decode cL_law 1729 = .ok (.iaload, 1) := by decide +kernel
theorem dL_law_1730 : decode cL_law 1730 = .ok (.invokevirtual 183, 3) := by decide +kernel
theorem dL_law_1733 : decode cL_law 1733 = .ok (.istore 6, 2) := by decide +kernel
theorem dL_law_1735 : decode cL_law 1735 = .ok (.aload_n 2, 1) := by decide +kernel
theorem dL_law_1736 : decode cL_law 1736 = .ok (.invokevirtual 101, 3) := by decide +kernel
theorem dL_law_1739 : decode cL_law 1739 = .ok (.iload 5, 2) := by decide +kernel
theorem dL_law_1741 : decode cL_law 1741 = .ok (.if_icmp .eq 5, 3) := by decide +kernel
theorem dL_law_1744 : decode cL_law 1744 = .ok (.iconst 0, 1) := by decide +kernel
theorem dL_law_1745 : decode cL_law 1745 = .ok (.ireturn, 1) := by decide +kernel
theorem dL_law_1746 : decode cL_law 1746 = .ok (.iload 5, 2) := by decide +kernel
theorem dL_law_1748 : decode cL_law 1748 = .ok (.ifCond .ne 15, 3) := by decide +kernel
theorem dL_law_1751 : decode cL_law 1751 = .ok (.aload_n 3, 1) := by decide +kernel
theorem dL_law_1752 : decode cL_law 1752 = .ok (.iconst 0, 1) := by decide +kernel
theorem dL_law_1753 : decode cL_law 1753 = .ok (.laload, 1) := by decide +kernel
theorem dL_law_1754 : decode cL_law 1754 = .ok (.iload 6, 2) := by decide +kernel
theorem dL_law_1756 : decode cL_law 1756 = .ok (.i2l, 1) := by decide +kernel
