theorem dX9_orderMatters_105 : decode cX9_orderMatters 105 = .ok (.getfield 98, 3) := by decide +kernel
theorem dX9_orderMatters_108 : decode cX9_orderMatters 108 = .ok (.invokevirtual 281, 3) := by decide +kernel
theorem dX9_orderMatters_111 : decode cX9_orderMatters 111 = .ok (.isub, 1) := by decide +kernel
theorem dX9_orderMatters_112 : decode cX9_orderMatters 112 = .ok (.ireturn, 1) := by decide +kernel
theorem dX9_saved_0 : decode cX9_saved 0 = .ok (.aload_n 0, 1) := by decide +kernel
theorem dX9_saved_1 : decode cX9_saved 1 = .ok (.getfield 10, 3) := by decide +kernel
theorem dX9_saved_4 : decode cX9_saved 4 = .ok (.invokevirtual 246, 3) := by decide +kernel
theorem dX9_saved_7 : decode cX9_saved 7 = .ok (.istore_n 1, 1) := by decide +kernel
theorem dX9_saved_8 : decode cX9_saved 8 = .ok (.iload_n 1, 1) := by decide +kernel
theorem dX9_saved_9 : decode cX9_saved 9 = .ok (.ifCond .ne 8, 3) := by decide +kernel
theorem dX9_saved_12 : decode cX9_saved 12 = .ok (.fconst 0, 1) := by decide +kernel
theorem dX9_saved_13 : decode cX9_saved 13 = .ok (.invokestatic 271, 3) := by decide +kernel
theorem dX9_saved_16 : decode cX9_saved 16 = .ok (.ireturn, 1) := by decide +kernel
theorem dX9_saved_17 : decode cX9_saved 17 = .ok (.aload_n 0, 1) := by decide +kernel
theorem dX9_saved_18 : decode cX9_saved 18 = .ok (.getfield 10, 3) := by decide +kernel
theorem dX9_saved_21 : decode cX9_saved 21 = .ok (.invokevirtual 285, 3) := by decide +kernel
theorem dX9_saved_24 : decode cX9_saved 24 = .ok (.i2f, 1) := by decide +kernel
theorem dX9_saved_25 : decode cX9_saved 25 = .ok (.bipush 100, 2) := by decide +kernel
theorem dX9_saved_27 : decode cX9_saved 27 = .ok (.iload_n 1, 1) := by decide +kernel
theorem dX9_saved_28 : decode cX9_saved 28 = .ok (.imul, 1) := by decide +kernel
theorem dX9_saved_29 : decode cX9_saved 29 = .ok (.i2f, 1) := by decide +kernel
theorem dX9_saved_30 : decode cX9_saved 30 = .ok (.fdiv, 1) := by decide +kernel
theorem dX9_saved_31 : decode cX9_saved 31 = .ok (.invokestatic 271, 3) := by decide +kernel
theorem dX9_saved_34 : decode cX9_saved 34 = .ok (.ireturn, 1) := by decide +kernel
theorem dX9_wordCost_0 : decode cX9_wordCost 0 = .ok (.aload_n 0, 1) := by decide +kernel
theorem dX9_wordCost_1 : decode cX9_wordCost 1 = .ok (.getfield 10, 3) := by decide +kernel
theorem dX9_wordCost_4 : decode cX9_wordCost 4 = .ok (.invokevirtual 249, 3) := by decide +kernel
theorem dX9_wordCost_7 : decode cX9_wordCost 7 = .ok (.istore_n 1, 1) := by decide +kernel
theorem dX9_wordCost_8 : decode cX9_wordCost 8 = .ok (.iload_n 1, 1) := by decide +kernel
theorem dX9_wordCost_9 : decode cX9_wordCost 9 = .ok (.ifCond .ne 5, 3) := by decide +kernel
theorem dX9_wordCost_12 : decode cX9_wordCost 12 = .ok (.dconst 0, 1) := by decide +kernel
theorem dX9_wordCost_13 : decode cX9_wordCost 13 = .ok (.dreturn, 1) := by decide +kernel
theorem dX9_wordCost_14 : decode cX9_wordCost 14 = .ok (.aload_n 0, 1) := by decide +kernel
theorem dX9_wordCost_15 : decode cX9_wordCost 15 = .ok (.getfield 10, 3) := by decide +kernel
theorem dX9_wordCost_18 : decode cX9_wordCost 18 = .ok (.invokevirtual 251, 3) := by decide +kernel
theorem dX9_wordCost_21 : decode cX9_wordCost 21 = .ok (.i2d, 1) := by decide +kernel
theorem dX9_wordCost_22 : decode cX9_wordCost 22 = .ok (.iload_n 1, 1) := by decide +kernel
theorem dX9_wordCost_23 : decode cX9_wordCost 23 = .ok (.i2d, 1) := by decide +kernel
theorem dX9_wordCost_24 : decode cX9_wordCost 24 = .ok (.ddiv, 1) := by decide +kernel
theorem dX9_wordCost_25 : decode cX9_wordCost 25 = .ok (.dreturn, 1) := by decide +kernel
theorem dX9_digest_0 : decode cX9_digest 0 = .ok (.ldc2_w 288, 3) := by decide +kernel
theorem dX9_digest_3 : decode cX9_digest 3 = .ok (.lstore_n 1, 1) := by decide +kernel
theorem dX9_digest_4 : decode cX9_digest 4 = .ok (.iconst 0, 1) := by decide +kernel
theorem dX9_digest_5 : decode cX9_digest 5 = .ok (.istore_n 3, 1) := by decide +kernel
theorem dX9_digest_6 : decode cX9_digest 6 = .ok (.iload_n 3, 1) := by decide +kernel
theorem dX9_digest_7 : decode cX9_digest 7 = .ok (.bipush 11, 2) := by decide +kernel
theorem dX9_digest_9 : decode cX9_digest 9 = .ok (.if_icmp .gt 20, 3) := by decide +kernel
theorem dX9_digest_12 : decode cX9_digest 12 = .ok (.lload_n 1, 1) := by decide +kernel
theorem dX9_digest_13 : decode cX9_digest 13 = .ok (.aload_n 0, 1) := by decide +kernel
theorem dX9_digest_14 : decode cX9_digest 14 = .ok (.iload_n 3, 1) := by decide +kernel
theorem dX9_digest_15 : decode cX9_digest 15 = .ok (.invokevirtual 290, 3) := by decide +kernel
theorem dX9_digest_18 : decode cX9_digest 18 = .ok (.i2l, 1) := by decide +kernel
theorem dX9_digest_19 : decode cX9_digest 19 = .ok (.invokestatic 293, 3) := by decide +kernel
theorem dX9_digest_22 : decode cX9_digest 22 = .ok (.lstore_n 1, 1) := by decide +kernel
theorem dX9_digest_23 : decode cX9_digest 23 = .ok (.iinc 3 1, 3) := by decide +kernel
theorem dX9_digest_26 : decode cX9_digest 26 = .ok (.goto (-20), 3) := by decide +kernel
theorem dX9_digest_29 : decode cX9_digest 29 = .ok (.iconst 0, 1) := by decide +kernel
theorem dX9_digest_30 : decode cX9_digest 30 = .ok (.istore_n 3, 1) := by decide +kernel
theorem dX9_digest_31 : decode cX9_digest 31 = .ok (.iload_n 3, 1) := by decide +kernel
theorem dX9_digest_32 : decode cX9_digest 32 = .ok (.iconst 2, 1) := by decide +kernel
theorem dX9_digest_33 : decode cX9_digest 33 = .ok (.if_icmp .ge 20, 3) := by decide +kernel
theorem dX9_digest_36 : decode cX9_digest 36 = .ok (.lload_n 1, 1) := by decide +kernel
theorem dX9_digest_37 : decode cX9_digest 37 = .ok (.aload_n 0, 1) := by decide +kernel
theorem dX9_digest_38 : decode cX9_digest 38 = .ok (.iload_n 3, 1) := by decide +kernel
theorem dX9_digest_39 : decode cX9_digest 39 = .ok (.invokevirtual 297, 3) := by decide +kernel
theorem dX9_digest_42 : decode cX9_digest 42 = .ok (.i2l, 1) := by decide +kernel
theorem dX9_digest_43 : decode cX9_digest 43 = .ok (.invokestatic 293, 3) := by decide +kernel
theorem dX9_digest_46 : decode cX9_digest 46 = .ok (.lstore_n 1, 1) := by decide +kernel
theorem dX9_digest_47 : decode cX9_digest 47 = .ok (.iinc 3 1, 3) := by decide +kernel
theorem dX9_digest_50 : decode cX9_digest 50 = .ok (.goto (-19), 3) := by decide +kernel
theorem dX9_digest_53 : decode cX9_digest 53 = .ok (.aload_n 0, 1) := by decide +kernel
theorem dX9_digest_54 : decode cX9_digest 54 = .ok (.lload_n 1, 1) := by decide +kernel
theorem dX9_digest_55 : decode cX9_digest 55 = .ok (.invokevirtual 300, 3) := by decide +kernel
theorem dX9_digest_58 : decode cX9_digest 58 = .ok (.lstore_n 1, 1) := by decide +kernel
theorem dX9_digest_59 : decode cX9_digest 59 = .ok (.aload_n 0, 1) := by decide +kernel
theorem dX9_digest_60 : decode cX9_digest 60 = .ok (.lload_n 1, 1) := by decide +kernel
theorem dX9_digest_61 : decode cX9_digest 61 = .ok (.invokevirtual 304, 3) := by decide +kernel
theorem dX9_digest_64 : decode cX9_digest 64 = .ok (.lstore_n 1, 1) := by decide +kernel
theorem dX9_digest_65 : decode cX9_digest 65 = .ok (.aload_n 0, 1) := by decide +kernel
theorem dX9_digest_66 : decode cX9_digest 66 = .ok (.lload_n 1, 1) := by decide +kernel
theorem dX9_digest_67 : decode cX9_digest 67 = .ok (.invokevirtual 307, 3) := by decide +kernel
theorem dX9_digest_70 : decode cX9_digest 70 = .ok (.lstore_n 1, 1) := by decide +kernel
theorem dX9_digest_71 : decode cX9_digest 71 = .ok (.iconst 0, 1) := by decide +kernel
theorem dX9_digest_72 : decode cX9_digest 72 = .ok (.istore_n 3, 1) := by decide +kernel
theorem dX9_digest_73 : decode cX9_digest 73 = .ok (.iload_n 3, 1) := by decide +kernel
theorem dX9_digest_74 : decode cX9_digest 74 = .ok (.aload_n 0, 1) := by decide +kernel
theorem dX9_digest_75 : decode cX9_digest 75 = .ok (.getfield 10, 3) := by decide +kernel
theorem dX9_digest_78 : decode cX9_digest 78 = .ok (.getfield 68, 3) := by decide +kernel
theorem dX9_digest_81 : decode cX9_digest 81 = .ok (.if_icmp .ge 16, 3) := by decide +kernel
theorem dX9_digest_84 : decode cX9_digest 84 = .ok (.aload_n 0, 1) := by decide +kernel
theorem dX9_digest_85 : decode cX9_digest 85 = .ok (.lload_n 1, 1) := by decide +kernel
theorem dX9_digest_86 : decode cX9_digest 86 = .ok (.iload_n 3, 1) := by decide +kernel
theorem dX9_digest_87 : decode cX9_digest 87 = .ok (.invokevirtual 310, 3) := by decide +kernel
theorem dX9_digest_90 : decode cX9_digest 90 = .ok (.lstore_n 1, 1) := by decide +kernel
theorem dX9_digest_91 : decode cX9_digest 91 = .ok (.iinc 3 1, 3) := by decide +kernel
theorem dX9_digest_94 : decode cX9_digest 94 = .ok (.goto (-21), 3) := by decide +kernel
theorem dX9_digest_97 : decode cX9_digest 97 = .ok (.iconst 0, 1) := by decide +kernel
theorem dX9_digest_98 : decode cX9_digest 98 = .ok (.istore_n 3, 1) := by decide +kernel
theorem dX9_digest_99 : decode cX9_digest 99 = .ok (.iload_n 3, 1) := by decide +kernel
theorem dX9_digest_100 : decode cX9_digest 100 = .ok (.aload_n 0, 1) := by decide +kernel
theorem dX9_digest_101 : decode cX9_digest 101 = .ok (.getfield 10, 3) := by decide +kernel
theorem dX9_digest_104 : decode cX9_digest 104 = .ok (.getfield 176, 3) := by decide +kernel
theorem dX9_digest_107 : decode cX9_digest 107 = .ok (.getfield 207, 3) := by decide +kernel
theorem dX9_digest_110 : decode cX9_digest 110 = .ok (.if_icmp .ge 16, 3) := by decide +kernel
theorem dX9_digest_113 : decode cX9_digest 113 = .ok (.aload_n 0, 1) := by decide +kernel
theorem dX9_digest_114 : decode cX9_digest 114 = .ok (.lload_n 1, 1) := by decide +kernel
theorem dX9_digest_115 : decode cX9_digest 115 = .ok (.iload_n 3, 1) := by decide +kernel
theorem dX9_digest_116 : decode cX9_digest 116 = .ok (.invokevirtual 314, 3) := by decide +kernel
theorem dX9_digest_119 : decode cX9_digest 119 = .ok (.lstore_n 1, 1) := by decide +kernel
theorem dX9_digest_120 : decode cX9_digest 120 = .ok (.iinc 3 1, 3) := by decide +kernel
theorem dX9_digest_123 : decode cX9_digest 123 = .ok (.goto (-24), 3) := by decide +kernel
theorem dX9_digest_126 : decode cX9_digest 126 = .ok (.lload_n 1, 1) := by decide +kernel
theorem dX9_digest_127 : decode cX9_digest 127 = .ok (.aload_n 0, 1) := by decide +kernel
theorem dX9_digest_128 : decode cX9_digest 128 = .ok (.invokevirtual 317, 3) := by decide +kernel
theorem dX9_digest_131 : decode cX9_digest 131 = .ok (.i2l, 1) := by decide +kernel
theorem dX9_digest_132 : decode cX9_digest 132 = .ok (.invokestatic 293, 3) := by decide +kernel
theorem dX9_digest_135 : decode cX9_digest 135 = .ok (.lstore_n 1, 1) := by decide +kernel
theorem dX9_digest_136 : decode cX9_digest 136 = .ok (.lload_n 1, 1) := by decide +kernel
theorem dX9_digest_137 : decode cX9_digest 137 = .ok (.aload_n 0, 1) := by decide +kernel
theorem dX9_digest_138 : decode cX9_digest 138 = .ok (.invokevirtual 320, 3) := by decide +kernel
theorem dX9_digest_141 : decode cX9_digest 141 = .ok (.sipush 1023, 3) := by decide +kernel
theorem dX9_digest_144 : decode cX9_digest 144 = .ok (.bipush 52, 2) := by decide +kernel
theorem dX9_digest_146 : decode cX9_digest 146 = .ok (.invokestatic 324, 3) := by decide +kernel
theorem dX9_digest_149 : decode cX9_digest 149 = .ok (.invokestatic 293, 3) := by decide +kernel
theorem dX9_digest_152 : decode cX9_digest 152 = .ok (.lstore_n 1, 1) := by decide +kernel
theorem dX9_digest_153 : decode cX9_digest 153 = .ok (.aload_n 0, 1) := by decide +kernel
theorem dX9_digest_154 : decode cX9_digest 154 = .ok (.lload_n 1, 1) := by decide +kernel
theorem dX9_digest_155 : decode cX9_digest 155 = .ok (.invokevirtual 328, 3) := by decide +kernel
theorem dX9_digest_158 : decode cX9_digest 158 = .ok (.lreturn, 1) := by decide +kernel
theorem dX9_mix_0 : decode cX9_mix 0 = .ok (.ldc2_w 331, 3) := by decide +kernel
theorem dX9_mix_3 : decode cX9_mix 3 = .ok (.lload_n 0, 1) := by decide +kernel
theorem dX9_mix_4 : decode cX9_mix 4 = .ok (.lmul, 1) := by decide +kernel
theorem dX9_mix_5 : decode cX9_mix 5 = .ok (.lload_n 2, 1) := by decide +kernel
theorem dX9_mix_6 : decode cX9_mix 6 = .ok (.ladd, 1) := by decide +kernel
theorem dX9_mix_7 : decode cX9_mix 7 = .ok (.lreturn, 1) := by decide +kernel
theorem dX9_mixTranslators_0 : decode cX9_mixTranslators 0 = .ok (.lload_n 1, 1) := by decide +kernel
theorem dX9_mixTranslators_1 : decode cX9_mixTranslators 1 = .ok (.lstore_n 3, 1) := by decide +kernel
theorem dX9_mixTranslators_2 : decode cX9_mixTranslators 2 = .ok (.iconst 0, 1) := by decide +kernel
theorem dX9_mixTranslators_3 : decode cX9_mixTranslators 3 = .ok (.istore 5, 2) := by decide +kernel
theorem dX9_mixTranslators_5 : decode cX9_mixTranslators 5 = .ok (.iload 5, 2) := by decide +kernel
theorem dX9_mixTranslators_7 : decode cX9_mixTranslators 7 = .ok (.iconst 4, 1) := by decide +kernel
theorem dX9_mixTranslators_8 : decode cX9_mixTranslators 8 = .ok (.if_icmp .ge 39, 3) := by decide +kernel
theorem dX9_mixTranslators_11 : decode cX9_mixTranslators 11 = .ok (.iconst 0, 1) := by decide +kernel
theorem dX9_mixTranslators_12 : decode cX9_mixTranslators 12 = .ok (.istore 6, 2) := by decide +kernel
theorem dX9_mixTranslators_14 : decode cX9_mixTranslators 14 = .ok (.iload 6, 2) := by decide +kernel
theorem dX9_mixTranslators_16 : decode cX9_mixTranslators 16 = .ok (.bipush 6, 2) := by decide +kernel
theorem dX9_mixTranslators_18 : decode cX9_mixTranslators 18 = .ok (.if_icmp .gt 23, 3) := by decide +kernel
theorem dX9_mixTranslators_21 : decode cX9_mixTranslators 21 = .ok (.lload_n 3, 1) := by decide +kernel
theorem dX9_mixTranslators_22 : decode cX9_mixTranslators 22 = .ok (.aload_n 0, 1) := by decide +kernel
theorem dX9_mixTranslators_23 : decode cX9_mixTranslators 23 = .ok (.iload 5, 2) := by decide +kernel
theorem dX9_mixTranslators_25 : decode cX9_mixTranslators 25 = .ok (.iload 6, 2) := by decide +kernel
theorem dX9_mixTranslators_27 : decode cX9_mixTranslators 27 = .ok (.invokevirtual 333, 3) := by decide +kernel
theorem dX9_mixTranslators_30 : decode cX9_mixTranslators 30 = .ok (.i2l, 1) := by decide +kernel
theorem dX9_mixTranslators_31 : decode cX9_mixTranslators 31 = .ok (.invokestatic 293, 3) := by decide +kernel
theorem dX9_mixTranslators_34 : decode cX9_mixTranslators 34 = .ok (.lstore_n 3, 1) := by decide +kernel
theorem dX9_mixTranslators_35 : decode cX9_mixTranslators 35 = .ok (.iinc 6 1, 3) := by decide +kernel
theorem dX9_mixTranslators_38 : decode cX9_mixTranslators 38 = .ok (.goto (-24), 3) := by decide +kernel
theorem dX9_mixTranslators_41 : decode cX9_mixTranslators 41 = .ok (.iinc 5 1, 3) := by decide +kernel
theorem dX9_mixTranslators_44 : decode cX9_mixTranslators 44 = .ok (.goto (-39), 3) := by decide +kernel
theorem dX9_mixTranslators_47 : decode cX9_mixTranslators 47 = .ok (.lload_n 3, 1) := by decide +kernel
theorem dX9_mixTranslators_48 : decode cX9_mixTranslators 48 = .ok (.lreturn, 1) := by decide +kernel
theorem dX9_mixTerms_0 : decode cX9_mixTerms 0 = .ok (.lload_n 1, 1) := by decide +kernel
theorem dX9_mixTerms_1 : decode cX9_mixTerms 1 = .ok (.lstore_n 3, 1) := by decide +kernel
theorem dX9_mixTerms_2 : decode cX9_mixTerms 2 = .ok (.iconst 0, 1) := by decide +kernel
theorem dX9_mixTerms_3 : decode cX9_mixTerms 3 = .ok (.istore 5, 2) := by decide +kernel
theorem dX9_mixTerms_5 : decode cX9_mixTerms 5 = .ok (.iload 5, 2) := by decide +kernel
theorem dX9_mixTerms_7 : decode cX9_mixTerms 7 = .ok (.bipush 8, 2) := by decide +kernel
theorem dX9_mixTerms_9 : decode cX9_mixTerms 9 = .ok (.if_icmp .ge 39, 3) := by decide +kernel
theorem dX9_mixTerms_12 : decode cX9_mixTerms 12 = .ok (.iconst 0, 1) := by decide +kernel
theorem dX9_mixTerms_13 : decode cX9_mixTerms 13 = .ok (.istore 6, 2) := by decide +kernel
theorem dX9_mixTerms_15 : decode cX9_mixTerms 15 = .ok (.iload 6, 2) := by decide +kernel
theorem dX9_mixTerms_17 : decode cX9_mixTerms 17 = .ok (.bipush 7, 2) := by decide +kernel
theorem dX9_mixTerms_19 : decode cX9_mixTerms 19 = .ok (.if_icmp .gt 23, 3) := by decide +kernel
theorem dX9_mixTerms_22 : decode cX9_mixTerms 22 = .ok (.lload_n 3, 1) := by decide +kernel
theorem dX9_mixTerms_23 : decode cX9_mixTerms 23 = .ok (.aload_n 0, 1) := by decide +kernel
theorem dX9_mixTerms_24 : decode cX9_mixTerms 24 = .ok (.iload 5, 2) := by decide +kernel
theorem dX9_mixTerms_26 : decode cX9_mixTerms 26 = .ok (.iload 6, 2) := by decide +kernel
theorem dX9_mixTerms_28 : decode cX9_mixTerms 28 = .ok (.invokevirtual 336, 3) := by decide +kernel
theorem dX9_mixTerms_31 : decode cX9_mixTerms 31 = .ok (.i2l, 1) := by decide +kernel
theorem dX9_mixTerms_32 : decode cX9_mixTerms 32 = .ok (.invokestatic 293, 3) := by decide +kernel
theorem dX9_mixTerms_35 : decode cX9_mixTerms 35 = .ok (.lstore_n 3, 1) := by decide +kernel
theorem dX9_mixTerms_36 : decode cX9_mixTerms 36 = .ok (.iinc 6 1, 3) := by decide +kernel
theorem dX9_mixTerms_39 : decode cX9_mixTerms 39 = .ok (.goto (-24), 3) := by decide +kernel
theorem dX9_mixTerms_42 : decode cX9_mixTerms 42 = .ok (.iinc 5 1, 3) := by decide +kernel
theorem dX9_mixTerms_45 : decode cX9_mixTerms 45 = .ok (.goto (-40), 3) := by decide +kernel
theorem dX9_mixTerms_48 : decode cX9_mixTerms 48 = .ok (.lload_n 3, 1) := by decide +kernel
theorem dX9_mixTerms_49 : decode cX9_mixTerms 49 = .ok (.lreturn, 1) := by decide +kernel
theorem dX9_mixBands_0 : decode cX9_mixBands 0 = .ok (.lload_n 1, 1) := by decide +kernel
theorem dX9_mixBands_1 : decode cX9_mixBands 1 = .ok (.lstore_n 3, 1) := by decide +kernel
theorem dX9_mixBands_2 : decode cX9_mixBands 2 = .ok (.iconst 0, 1) := by decide +kernel
theorem dX9_mixBands_3 : decode cX9_mixBands 3 = .ok (.istore 5, 2) := by decide +kernel
theorem dX9_mixBands_5 : decode cX9_mixBands 5 = .ok (.iload 5, 2) := by decide +kernel
theorem dX9_mixBands_7 : decode cX9_mixBands 7 = .ok (.iconst 5, 1) := by decide +kernel
theorem dX9_mixBands_8 : decode cX9_mixBands 8 = .ok (.if_icmp .ge 38, 3) := by decide +kernel
theorem dX9_mixBands_11 : decode cX9_mixBands 11 = .ok (.iconst 0, 1) := by decide +kernel
theorem dX9_mixBands_12 : decode cX9_mixBands 12 = .ok (.istore 6, 2) := by decide +kernel
theorem dX9_mixBands_14 : decode cX9_mixBands 14 = .ok (.iload 6, 2) := by decide +kernel
theorem dX9_mixBands_16 : decode cX9_mixBands 16 = .ok (.iconst 2, 1) := by decide +kernel
theorem dX9_mixBands_17 : decode cX9_mixBands 17 = .ok (.if_icmp .gt 23, 3) := by decide +kernel
theorem dX9_mixBands_20 : decode cX9_mixBands 20 = .ok (.lload_n 3, 1) := by decide +kernel
theorem dX9_mixBands_21 : decode cX9_mixBands 21 = .ok (.aload_n 0, 1) := by decide +kernel
theorem dX9_mixBands_22 : decode cX9_mixBands 22 = .ok (.iload 5, 2) := by decide +kernel
theorem dX9_mixBands_24 : decode cX9_mixBands 24 = .ok (.iload 6, 2) := by decide +kernel
theorem dX9_mixBands_26 : decode cX9_mixBands 26 = .ok (.invokevirtual 339, 3) := by decide +kernel
theorem dX9_mixBands_29 : decode cX9_mixBands 29 = .ok (.i2l, 1) := by decide +kernel
theorem dX9_mixBands_30 : decode cX9_mixBands 30 = .ok (.invokestatic 293, 3) := by decide +kernel
theorem dX9_mixBands_33 : decode cX9_mixBands 33 = .ok (.lstore_n 3, 1) := by decide +kernel
theorem dX9_mixBands_34 : decode cX9_mixBands 34 = .ok (.iinc 6 1, 3) := by decide +kernel
theorem dX9_mixBands_37 : decode cX9_mixBands 37 = .ok (.goto (-23), 3) := by decide +kernel
theorem dX9_mixBands_40 : decode cX9_mixBands 40 = .ok (.iinc 5 1, 3) := by decide +kernel
theorem dX9_mixBands_43 : decode cX9_mixBands 43 = .ok (.goto (-38), 3) := by decide +kernel
theorem dX9_mixBands_46 : decode cX9_mixBands 46 = .ok (.lload_n 3, 1) := by decide +kernel
theorem dX9_mixBands_47 : decode cX9_mixBands 47 = .ok (.lreturn, 1) := by decide +kernel
theorem dX9_mixSegment_0 : decode cX9_mixSegment 0 = .ok (.lload_n 1, 1) := by decide +kernel
theorem dX9_mixSegment_1 : decode cX9_mixSegment 1 = .ok (.lstore 4, 2) := by decide +kernel
theorem dX9_mixSegment_3 : decode cX9_mixSegment 3 = .ok (.iconst 0, 1) := by decide +kernel
theorem dX9_mixSegment_4 : decode cX9_mixSegment 4 = .ok (.istore 6, 2) := by decide +kernel
theorem dX9_mixSegment_6 : decode cX9_mixSegment 6 = .ok (.iload 6, 2) := by decide +kernel
theorem dX9_mixSegment_8 : decode cX9_mixSegment 8 = .ok (.bipush 11, 2) := by decide +kernel
theorem dX9_mixSegment_10 : decode cX9_mixSegment 10 = .ok (.if_icmp .gt 24, 3) := by decide +kernel
theorem dX9_mixSegment_13 : decode cX9_mixSegment 13 = .ok (.lload 4, 2) := by decide +kernel
theorem dX9_mixSegment_15 : decode cX9_mixSegment 15 = .ok (.aload_n 0, 1) := by decide +kernel
theorem dX9_mixSegment_16 : decode cX9_mixSegment 16 = .ok (.iload_n 3, 1) := by decide +kernel
theorem dX9_mixSegment_17 : decode cX9_mixSegment 17 = .ok (.iload 6, 2) := by decide +kernel
theorem dX9_mixSegment_19 : decode cX9_mixSegment 19 = .ok (.invokevirtual 341, 3) := by decide +kernel
theorem dX9_mixSegment_22 : decode cX9_mixSegment 22 = .ok (.i2l, 1) := by decide +kernel
theorem dX9_mixSegment_23 : decode cX9_mixSegment 23 = .ok (.invokestatic 293, 3) := by decide +kernel
theorem dX9_mixSegment_26 : decode cX9_mixSegment 26 = .ok (.lstore 4, 2) := by decide +kernel
theorem dX9_mixSegment_28 : decode cX9_mixSegment 28 = .ok (.iinc 6 1, 3) := by decide +kernel
theorem dX9_mixSegment_31 : decode cX9_mixSegment 31 = .ok (.goto (-25), 3) := by decide +kernel
theorem dX9_mixSegment_34 : decode cX9_mixSegment 34 = .ok (.lload 4, 2) := by decide +kernel
theorem dX9_mixSegment_36 : decode cX9_mixSegment 36 = .ok (.aload_n 0, 1) := by decide +kernel
theorem dX9_mixSegment_37 : decode cX9_mixSegment 37 = .ok (.getfield 10, 3) := by decide +kernel
theorem dX9_mixSegment_40 : decode cX9_mixSegment 40 = .ok (.getfield 71, 3) := by decide +kernel
theorem dX9_mixSegment_43 : decode cX9_mixSegment 43 = .ok (.iload_n 3, 1) := by decide +kernel
theorem dX9_mixSegment_44 : decode cX9_mixSegment 44 = .ok (.aaload, 1) := by decide +kernel
theorem dX9_mixSegment_45 : decode cX9_mixSegment 45 = .ok (.getfield 98, 3) := by decide +kernel
theorem dX9_mixSegment_48 : decode cX9_mixSegment 48 = .ok (.invokestatic 344, 3) := by decide +kernel
theorem dX9_mixSegment_51 : decode cX9_mixSegment 51 = .ok (.lstore 4, 2) := by decide +kernel
theorem dX9_mixSegment_53 : decode cX9_mixSegment 53 = .ok (.iconst 0, 1) := by decide +kernel
theorem dX9_mixSegment_54 : decode cX9_mixSegment 54 = .ok (.istore 6, 2) := by decide +kernel
theorem dX9_mixSegment_56 : decode cX9_mixSegment 56 = .ok (.iload 6, 2) := by decide +kernel
theorem dX9_mixSegment_58 : decode cX9_mixSegment 58 = .ok (.iconst 4, 1) := by decide +kernel
theorem dX9_mixSegment_59 : decode cX9_mixSegment 59 = .ok (.if_icmp .ge 24, 3) := by decide +kernel
theorem dX9_mixSegment_62 : decode cX9_mixSegment 62 = .ok (.lload 4, 2) := by decide +kernel
theorem dX9_mixSegment_64 : decode cX9_mixSegment 64 = .ok (.aload_n 0, 1) := by decide +kernel
theorem dX9_mixSegment_65 : decode cX9_mixSegment 65 = .ok (.iload_n 3, 1) := by decide +kernel
theorem dX9_mixSegment_66 : decode cX9_mixSegment 66 = .ok (.iload 6, 2) := by decide +kernel
theorem dX9_mixSegment_68 : decode cX9_mixSegment 68 = .ok (.invokevirtual 348, 3) := by decide +kernel
theorem dX9_mixSegment_71 : decode cX9_mixSegment 71 = .ok (.i2l, 1) := by decide +kernel
theorem dX9_mixSegment_72 : decode cX9_mixSegment 72 = .ok (.invokestatic 293, 3) := by decide +kernel
theorem dX9_mixSegment_75 : decode cX9_mixSegment 75 = .ok (.lstore 4, 2) := by decide +kernel
theorem dX9_mixSegment_77 : decode cX9_mixSegment 77 = .ok (.iinc 6 1, 3) := by decide +kernel
theorem dX9_mixSegment_80 : decode cX9_mixSegment 80 = .ok (.goto (-24), 3) := by decide +kernel
theorem dX9_mixSegment_83 : decode cX9_mixSegment 83 = .ok (.iconst 0, 1) := by decide +kernel
theorem dX9_mixSegment_84 : decode cX9_mixSegment 84 = .ok (.istore 6, 2) := by decide +kernel
theorem dX9_mixSegment_86 : decode cX9_mixSegment 86 = .ok (.iload 6, 2) := by decide +kernel
theorem dX9_mixSegment_88 : decode cX9_mixSegment 88 = .ok (.iconst 3, 1) := by decide +kernel
theorem dX9_mixSegment_89 : decode cX9_mixSegment 89 = .ok (.if_icmp .ge 25, 3) := by decide +kernel
theorem dX9_mixSegment_92 : decode cX9_mixSegment 92 = .ok (.lload 4, 2) := by decide +kernel
theorem dX9_mixSegment_94 : decode cX9_mixSegment 94 = .ok (.aload_n 0, 1) := by decide +kernel
theorem dX9_mixSegment_95 : decode cX9_mixSegment 95 = .ok (.iload_n 3, 1) := by decide +kernel
theorem dX9_mixSegment_96 : decode cX9_mixSegment 96 = .ok (.iconst 0, 1) := by decide +kernel
theorem dX9_mixSegment_97 : decode cX9_mixSegment 97 = .ok (.iload 6, 2) := by decide +kernel
theorem dX9_mixSegment_99 : decode cX9_mixSegment 99 = .ok (.invokevirtual 351, 3) := by decide +kernel
theorem dX9_mixSegment_102 : decode cX9_mixSegment 102 = .ok (.i2l, 1) := by decide +kernel
theorem dX9_mixSegment_103 : decode cX9_mixSegment 103 = .ok (.invokestatic 293, 3) := by decide +kernel
theorem dX9_mixSegment_106 : decode cX9_mixSegment 106 = .ok (.lstore 4, 2) := by decide +kernel
theorem dX9_mixSegment_108 : decode cX9_mixSegment 108 = .ok (.iinc 6 1, 3) := by decide +kernel
theorem dX9_mixSegment_111 : decode cX9_mixSegment 111 = .ok (.goto (-25), 3) := by decide +kernel
theorem dX9_mixSegment_114 : decode cX9_mixSegment 114 = .ok (.lload 4, 2) := by decide +kernel
theorem dX9_mixSegment_116 : decode cX9_mixSegment 116 = .ok (.lreturn, 1) := by decide +kernel
theorem dX9_mixRemembered_0 : decode cX9_mixRemembered 0 = .ok (.lload_n 1, 1) := by decide +kernel
theorem dX9_mixRemembered_1 : decode cX9_mixRemembered 1 = .ok (.aload_n 0, 1) := by decide +kernel
theorem dX9_mixRemembered_2 : decode cX9_mixRemembered 2 = .ok (.getfield 10, 3) := by decide +kernel
theorem dX9_mixRemembered_5 : decode cX9_mixRemembered 5 = .ok (.getfield 176, 3) := by decide +kernel
theorem dX9_mixRemembered_8 : decode cX9_mixRemembered 8 = .ok (.getfield 208, 3) := by decide +kernel
theorem dX9_mixRemembered_11 : decode cX9_mixRemembered 11 = .ok (.iload_n 3, 1) := by decide +kernel
theorem dX9_mixRemembered_12 : decode cX9_mixRemembered 12 = .ok (.aaload, 1) := by decide +kernel
theorem dX9_mixRemembered_13 : decode cX9_mixRemembered 13 = .ok (.invokestatic 344, 3) := by decide +kernel
theorem dX9_mixRemembered_16 : decode cX9_mixRemembered 16 = .ok (.lstore 4, 2) := by decide +kernel
theorem dX9_mixRemembered_18 : decode cX9_mixRemembered 18 = .ok (.iconst 0, 1) := by decide +kernel
theorem dX9_mixRemembered_19 : decode cX9_mixRemembered 19 = .ok (.istore 6, 2) := by decide +kernel
theorem dX9_mixRemembered_21 : decode cX9_mixRemembered 21 = .ok (.iload 6, 2) := by decide +kernel
theorem dX9_mixRemembered_23 : decode cX9_mixRemembered 23 = .ok (.iconst 2, 1) := by decide +kernel
theorem dX9_mixRemembered_24 : decode cX9_mixRemembered 24 = .ok (.if_icmp .gt 25, 3) := by decide +kernel
theorem dX9_mixRemembered_27 : decode cX9_mixRemembered 27 = .ok (.lload 4, 2) := by decide +kernel
theorem dX9_mixRemembered_29 : decode cX9_mixRemembered 29 = .ok (.aload_n 0, 1) := by decide +kernel
theorem dX9_mixRemembered_30 : decode cX9_mixRemembered 30 = .ok (.iconst 0, 1) := by decide +kernel
theorem dX9_mixRemembered_31 : decode cX9_mixRemembered 31 = .ok (.iload_n 3, 1) := by decide +kernel
theorem dX9_mixRemembered_32 : decode cX9_mixRemembered 32 = .ok (.iload 6, 2) := by decide +kernel
theorem dX9_mixRemembered_34 : decode cX9_mixRemembered 34 = .ok (.invokevirtual 355, 3) := by decide +kernel
theorem dX9_mixRemembered_37 : decode cX9_mixRemembered 37 = .ok (.i2l, 1) := by decide +kernel
theorem dX9_mixRemembered_38 : decode cX9_mixRemembered 38 = .ok (.invokestatic 293, 3) := by decide +kernel
theorem dX9_mixRemembered_41 : decode cX9_mixRemembered 41 = .ok (.lstore 4, 2) := by decide +kernel
theorem dX9_mixRemembered_43 : decode cX9_mixRemembered 43 = .ok (.iinc 6 1, 3) := by decide +kernel
theorem dX9_mixRemembered_46 : decode cX9_mixRemembered 46 = .ok (.goto (-25), 3) := by decide +kernel
theorem dX9_mixRemembered_49 : decode cX9_mixRemembered 49 = .ok (.lload 4, 2) := by decide +kernel
theorem dX9_mixRemembered_51 : decode cX9_mixRemembered 51 = .ok (.lreturn, 1) := by decide +kernel
theorem dX9_mixRow_0 : decode cX9_mixRow 0 = .ok (.lload_n 0, 1) := by decide +kernel
theorem dX9_mixRow_1 : decode cX9_mixRow 1 = .ok (.lstore_n 3, 1) := by decide +kernel
theorem dX9_mixRow_2 : decode cX9_mixRow 2 = .ok (.aload_n 2, 1) := by decide +kernel
theorem dX9_mixRow_3 : decode cX9_mixRow 3 = .ok (.getfield 358, 3) := by decide +kernel
theorem dX9_mixRow_6 : decode cX9_mixRow 6 = .ok (.astore 5, 2) := by decide +kernel
theorem dX9_mixRow_8 : decode cX9_mixRow 8 = .ok (.aload 5, 2) := by decide +kernel
theorem dX9_mixRow_10 : decode cX9_mixRow 10 = .ok (.arraylength, 1) := by decide +kernel
theorem dX9_mixRow_11 : decode cX9_mixRow 11 = .ok (.istore 6, 2) := by decide +kernel
theorem dX9_mixRow_13 : decode cX9_mixRow 13 = .ok (.iconst 0, 1) := by decide +kernel
theorem dX9_mixRow_14 : decode cX9_mixRow 14 = .ok (.istore 7, 2) := by decide +kernel
theorem dX9_mixRow_16 : decode cX9_mixRow 16 = .ok (.iload 7, 2) := by decide +kernel
theorem dX9_mixRow_18 : decode cX9_mixRow 18 = .ok (.iload 6, 2) := by decide +kernel
theorem dX9_mixRow_20 : decode cX9_mixRow 20 = .ok (.if_icmp .ge 24, 3) := by decide +kernel
theorem dX9_mixRow_23 : decode cX9_mixRow 23 = .ok (.aload 5, 2) := by decide +kernel
theorem dX9_mixRow_25 : decode cX9_mixRow 25 = .ok (.iload 7, 2) := by decide +kernel
theorem dX9_mixRow_27 : decode cX9_mixRow 27 = .ok (.iaload, 1) := by decide +kernel
theorem dX9_mixRow_28 : decode cX9_mixRow 28 = .ok (.istore 8, 2) := by decide +kernel
theorem dX9_mixRow_30 : decode cX9_mixRow 30 = .ok (.lload_n 3, 1) := by decide +kernel
theorem dX9_mixRow_31 : decode cX9_mixRow 31 = .ok (.iload 8, 2) := by decide +kernel
theorem dX9_mixRow_33 : decode cX9_mixRow 33 = .ok (.i2l, 1) := by decide +kernel
theorem dX9_mixRow_34 : decode cX9_mixRow 34 = .ok (.invokestatic 293, 3) := by decide +kernel
theorem dX9_mixRow_37 : decode cX9_mixRow 37 = .ok (.lstore_n 3, 1) := by decide +kernel
theorem dX9_mixRow_38 : decode cX9_mixRow 38 = .ok (.iinc 7 1, 3) := by decide +kernel
theorem dX9_mixRow_41 : decode cX9_mixRow 41 = .ok (.goto (-25), 3) := by decide +kernel
theorem dX9_mixRow_44 : decode cX9_mixRow 44 = .ok (.lload_n 3, 1) := by decide +kernel
theorem dX9_mixRow_45 : decode cX9_mixRow 45 = .ok (.lreturn, 1) := by decide +kernel
theorem dX9_mixBuffer_0 : decode cX9_mixBuffer 0 = .ok (.lload_n 1, 1) := by decide +kernel
theorem dX9_mixBuffer_1 : decode cX9_mixBuffer 1 = .ok (.aload_n 0, 1) := by decide +kernel
theorem dX9_mixBuffer_2 : decode cX9_mixBuffer 2 = .ok (.getfield 26, 3) := by decide +kernel
theorem dX9_mixBuffer_5 : decode cX9_mixBuffer 5 = .ok (.getfield 140, 3) := by decide +kernel
theorem dX9_mixBuffer_8 : decode cX9_mixBuffer 8 = .ok (.i2l, 1) := by decide +kernel
theorem dX9_mixBuffer_9 : decode cX9_mixBuffer 9 = .ok (.invokestatic 293, 3) := by decide +kernel
theorem dX9_mixBuffer_12 : decode cX9_mixBuffer 12 = .ok (.lstore_n 3, 1) := by decide +kernel
theorem dX9_mixBuffer_13 : decode cX9_mixBuffer 13 = .ok (.iconst 0, 1) := by decide +kernel
theorem dX9_mixBuffer_14 : decode cX9_mixBuffer 14 = .ok (.istore 5, 2) := by decide +kernel
theorem dX9_mixBuffer_16 : decode cX9_mixBuffer 16 = .ok (.iload 5, 2) := by decide +kernel
theorem dX9_mixBuffer_18 : decode cX9_mixBuffer 18 = .ok (.aload_n 0, 1) := by decide +kernel
theorem dX9_mixBuffer_19 : decode cX9_mixBuffer 19 = .ok (.getfield 26, 3) := by decide +kernel
theorem dX9_mixBuffer_22 : decode cX9_mixBuffer 22 = .ok (.getfield 140, 3) := by decide +kernel
theorem dX9_mixBuffer_25 : decode cX9_mixBuffer 25 = .ok (.if_icmp .ge 25, 3) := by decide +kernel
theorem dX9_mixBuffer_28 : decode cX9_mixBuffer 28 = .ok (.lload_n 3, 1) := by decide +kernel
theorem dX9_mixBuffer_29 : decode cX9_mixBuffer 29 = .ok (.aload_n 0, 1) := by decide +kernel
theorem dX9_mixBuffer_30 : decode cX9_mixBuffer 30 = .ok (.getfield 26, 3) := by decide +kernel
theorem dX9_mixBuffer_33 : decode cX9_mixBuffer 33 = .ok (.getfield 141, 3) := by decide +kernel
theorem dX9_mixBuffer_36 : decode cX9_mixBuffer 36 = .ok (.iload 5, 2) := by decide +kernel
theorem dX9_mixBuffer_38 : decode cX9_mixBuffer 38 = .ok (.iaload, 1) := by decide +kernel
theorem dX9_mixBuffer_39 : decode cX9_mixBuffer 39 = .ok (.i2l, 1) := by decide +kernel
theorem dX9_mixBuffer_40 : decode cX9_mixBuffer 40 = .ok (.invokestatic 293, 3) := by decide +kernel
theorem dX9_mixBuffer_43 : decode cX9_mixBuffer 43 = .ok (.lstore_n 3, 1) := by decide +kernel
theorem dX9_mixBuffer_44 : decode cX9_mixBuffer 44 = .ok (.iinc 5 1, 3) := by decide +kernel
theorem dX9_mixBuffer_47 : decode cX9_mixBuffer 47 = .ok (.goto (-31), 3) := by decide +kernel
theorem dX9_mixBuffer_50 : decode cX9_mixBuffer 50 = .ok (.lload_n 3, 1) := by decide +kernel
theorem dX9_mixBuffer_51 : decode cX9_mixBuffer 51 = .ok (.lreturn, 1) := by decide +kernel
theorem dX9_checkNumber_0 : decode cX9_checkNumber 0 = .ok (.iload_n 0, 1) := by decide +kernel
theorem dX9_checkNumber_1 : decode cX9_checkNumber 1 = .ok (.ifCond .lt 8, 3) := by decide +kernel
theorem dX9_checkNumber_4 : decode cX9_checkNumber 4 = .ok (.iload_n 0, 1) := by decide +kernel
theorem dX9_checkNumber_5 : decode cX9_checkNumber 5 = .ok (.iload_n 1, 1) := by decide +kernel
theorem dX9_checkNumber_6 : decode cX9_checkNumber 6 = .ok (.if_icmp .lt 14, 3) := by decide +kernel
theorem dX9_checkNumber_9 : decode cX9_checkNumber 9 = .ok (.new 360, 3) := by decide +kernel
theorem dX9_checkNumber_12 : decode cX9_checkNumber 12 = .ok (.dup, 1) := by decide +kernel
theorem dX9_checkNumber_13 : decode cX9_checkNumber 13 = .ok (.ldc_w 362, 3) := by decide +kernel
theorem dX9_checkNumber_16 : decode cX9_checkNumber 16 = .ok (.invokespecial 364, 3) := by decide +kernel
theorem dX9_checkNumber_19 : decode cX9_checkNumber 19 = .ok (.athrow, 1) := by decide +kernel
theorem dX9_checkNumber_20 : decode cX9_checkNumber 20 = .ok (.return_, 1) := by decide +kernel
theorem dX9_checkRange_0 : decode cX9_checkRange 0 = .ok (.iload_n 0, 1) := by decide +kernel
theorem dX9_checkRange_1 : decode cX9_checkRange 1 = .ok (.iload_n 1, 1) := by decide +kernel
theorem dX9_checkRange_2 : decode cX9_checkRange 2 = .ok (.if_icmp .lt 8, 3) := by decide +kernel
theorem dX9_checkRange_5 : decode cX9_checkRange 5 = .ok (.iload_n 0, 1) := by decide +kernel
theorem dX9_checkRange_6 : decode cX9_checkRange 6 = .ok (.iload_n 2, 1) := by decide +kernel
theorem dX9_checkRange_7 : decode cX9_checkRange 7 = .ok (.if_icmp .le 14, 3) := by decide +kernel
theorem dX9_checkRange_10 : decode cX9_checkRange 10 = .ok (.new 367, 3) := by decide +kernel
theorem dX9_checkRange_13 : decode cX9_checkRange 13 = .ok (.dup, 1) := by decide +kernel
theorem dX9_checkRange_14 : decode cX9_checkRange 14 = .ok (.ldc_w 369, 3) := by decide +kernel
theorem dX9_checkRange_17 : decode cX9_checkRange 17 = .ok (.invokespecial 371, 3) := by decide +kernel
theorem dX9_checkRange_20 : decode cX9_checkRange 20 = .ok (.athrow, 1) := by decide +kernel
theorem dX9_checkRange_21 : decode cX9_checkRange 21 = .ok (.return_, 1) := by decide +kernel
theorem dX9_checkArgument_0 : decode cX9_checkArgument 0 = .ok (.iload_n 0, 1) := by decide +kernel
theorem dX9_checkArgument_1 : decode cX9_checkArgument 1 = .ok (.ifCond .ne 14, 3) := by decide +kernel
theorem dX9_checkArgument_4 : decode cX9_checkArgument 4 = .ok (.new 367, 3) := by decide +kernel
theorem dX9_checkArgument_7 : decode cX9_checkArgument 7 = .ok (.dup, 1) := by decide +kernel
theorem dX9_checkArgument_8 : decode cX9_checkArgument 8 = .ok (.ldc_w 372, 3) := by decide +kernel
theorem dX9_checkArgument_11 : decode cX9_checkArgument 11 = .ok (.invokespecial 371, 3) := by decide +kernel
theorem dX9_checkArgument_14 : decode cX9_checkArgument 14 = .ok (.athrow, 1) := by decide +kernel
theorem dX9_checkArgument_15 : decode cX9_checkArgument 15 = .ok (.return_, 1) := by decide +kernel
theorem dX9_checkState_0 : decode cX9_checkState 0 = .ok (.iload_n 0, 1) := by decide +kernel
theorem dX9_checkState_1 : decode cX9_checkState 1 = .ok (.ifCond .ne 14, 3) := by decide +kernel
theorem dX9_checkState_4 : decode cX9_checkState 4 = .ok (.new 374, 3) := by decide +kernel
theorem dX9_checkState_7 : decode cX9_checkState 7 = .ok (.dup, 1) := by decide +kernel
theorem dX9_checkState_8 : decode cX9_checkState 8 = .ok (.ldc_w 376, 3) := by decide +kernel
theorem dX9_checkState_11 : decode cX9_checkState 11 = .ok (.invokespecial 378, 3) := by decide +kernel
theorem dX9_checkState_14 : decode cX9_checkState 14 = .ok (.athrow, 1) := by decide +kernel
theorem dX9_checkState_15 : decode cX9_checkState 15 = .ok (.return_, 1) := by decide +kernel
theorem dX9_oneIf_0 : decode cX9_oneIf 0 = .ok (.iload_n 0, 1) := by decide +kernel
theorem dX9_oneIf_1 : decode cX9_oneIf 1 = .ok (.ifCond .eq 7, 3) := by decide +kernel
theorem dX9_oneIf_4 : decode cX9_oneIf 4 = .ok (.iconst 1, 1) := by decide +kernel
theorem dX9_oneIf_5 : decode cX9_oneIf 5 = .ok (.goto 4, 3) := by decide +kernel
theorem dX9_oneIf_8 : decode cX9_oneIf 8 = .ok (.iconst 0, 1) := by decide +kernel
theorem dX9_oneIf_9 : decode cX9_oneIf 9 = .ok (.ireturn, 1) := by decide +kernel
theorem dX9_floatBits_0 : decode cX9_floatBits 0 = .ok (.fload_n 0, 1) := by decide +kernel
theorem dX9_floatBits_1 : decode cX9_floatBits 1 = .ok (.f2d, 1) := by decide +kernel
theorem dX9_floatBits_2 : decode cX9_floatBits 2 = .ok (.bipush 127, 2) := by decide +kernel
theorem dX9_floatBits_4 : decode cX9_floatBits 4 = .ok (.bipush 23, 2) := by decide +kernel
theorem dX9_floatBits_6 : decode cX9_floatBits 6 = .ok (.invokestatic 324, 3) := by decide +kernel
theorem dX9_floatBits_9 : decode cX9_floatBits 9 = .ok (.l2i, 1) := by decide +kernel
theorem dX9_floatBits_10 : decode cX9_floatBits 10 = .ok (.ireturn, 1) := by decide +kernel
theorem dX9_bitsOf_0 : decode cX9_bitsOf 0 = .ok (.dload_n 0, 1) := by decide +kernel
theorem dX9_bitsOf_1 : decode cX9_bitsOf 1 = .ok (.dconst 0, 1) := by decide +kernel
theorem dX9_bitsOf_2 : decode cX9_bitsOf 2 = .ok (.dcmp .l, 1) := by decide +kernel
theorem dX9_bitsOf_3 : decode cX9_bitsOf 3 = .ok (.ifCond .gt 5, 3) := by decide +kernel
theorem dX9_bitsOf_6 : decode cX9_bitsOf 6 = .ok (.lconst 0, 1) := by decide +kernel
theorem dX9_bitsOf_7 : decode cX9_bitsOf 7 = .ok (.lreturn, 1) := by decide +kernel
theorem dX9_bitsOf_8 : decode cX9_bitsOf 8 = .ok (.dload_n 0, 1) := by decide +kernel
theorem dX9_bitsOf_9 : decode cX9_bitsOf 9 = .ok (.dstore 4, 2) := by decide +kernel
theorem dX9_bitsOf_11 : decode cX9_bitsOf 11 = .ok (.iload_n 2, 1) := by decide +kernel
theorem dX9_bitsOf_12 : decode cX9_bitsOf 12 = .ok (.i2l, 1) := by decide +kernel
theorem dX9_bitsOf_13 : decode cX9_bitsOf 13 = .ok (.lstore 6, 2) := by decide +kernel
theorem dX9_bitsOf_15 : decode cX9_bitsOf 15 = .ok (.iconst 1, 1) := by decide +kernel
theorem dX9_bitsOf_16 : decode cX9_bitsOf 16 = .ok (.istore 8, 2) := by decide +kernel
theorem dX9_bitsOf_18 : decode cX9_bitsOf 18 = .ok (.iload 8, 2) := by decide +kernel
theorem dX9_bitsOf_20 : decode cX9_bitsOf 20 = .ok (.iload_n 2, 1) := by decide +kernel
theorem dX9_bitsOf_21 : decode cX9_bitsOf 21 = .ok (.if_icmp .ge 30, 3) := by decide +kernel
theorem dX9_bitsOf_24 : decode cX9_bitsOf 24 = .ok (.dload 4, 2) := by decide +kernel
theorem dX9_bitsOf_26 : decode cX9_bitsOf 26 = .ok (.dconst 1, 1) := by decide +kernel
theorem dX9_bitsOf_27 : decode cX9_bitsOf 27 = .ok (.dcmp .g, 1) := by decide +kernel
theorem dX9_bitsOf_28 : decode cX9_bitsOf 28 = .ok (.ifCond .ge 23, 3) := by decide +kernel
theorem dX9_bitsOf_31 : decode cX9_bitsOf 31 = .ok (.dload 4, 2) := by decide +kernel
theorem dX9_bitsOf_33 : decode cX9_bitsOf 33 = .ok (.ldc2_w 379, 3) := by decide +kernel
theorem dX9_bitsOf_36 : decode cX9_bitsOf 36 = .ok (.dmul, 1) := by decide +kernel
theorem dX9_bitsOf_37 : decode cX9_bitsOf 37 = .ok (.dstore 4, 2) := by decide +kernel
theorem dX9_bitsOf_39 : decode cX9_bitsOf 39 = .ok (.lload 6, 2) := by decide +kernel
theorem dX9_bitsOf_41 : decode cX9_bitsOf 41 = .ok (.lconst 1, 1) := by decide +kernel
theorem dX9_bitsOf_42 : decode cX9_bitsOf 42 = .ok (.lsub, 1) := by decide +kernel
theorem dX9_bitsOf_43 : decode cX9_bitsOf 43 = .ok (.lstore 6, 2) := by decide +kernel
theorem dX9_bitsOf_45 : decode cX9_bitsOf 45 = .ok (.iinc 8 1, 3) := by decide +kernel
theorem dX9_bitsOf_48 : decode cX9_bitsOf 48 = .ok (.goto (-30), 3) := by decide +kernel
theorem dX9_bitsOf_51 : decode cX9_bitsOf 51 = .ok (.iconst 1, 1) := by decide +kernel
theorem dX9_bitsOf_52 : decode cX9_bitsOf 52 = .ok (.istore 8, 2) := by decide +kernel
theorem dX9_bitsOf_54 : decode cX9_bitsOf 54 = .ok (.iload 8, 2) := by decide +kernel
theorem dX9_bitsOf_56 : decode cX9_bitsOf 56 = .ok (.iload_n 2, 1) := by decide +kernel
theorem dX9_bitsOf_57 : decode cX9_bitsOf 57 = .ok (.if_icmp .ge 32, 3) := by decide +kernel
theorem dX9_bitsOf_60 : decode cX9_bitsOf 60 = .ok (.dload 4, 2) := by decide +kernel
theorem dX9_bitsOf_62 : decode cX9_bitsOf 62 = .ok (.ldc2_w 379, 3) := by decide +kernel
theorem dX9_bitsOf_65 : decode cX9_bitsOf 65 = .ok (.dcmp .l, 1) := by decide +kernel
theorem dX9_bitsOf_66 : decode cX9_bitsOf 66 = .ok (.ifCond .lt 23, 3) := by decide +kernel
theorem dX9_bitsOf_69 : decode cX9_bitsOf 69 = .ok (.dload 4, 2) := by decide +kernel
theorem dX9_bitsOf_71 : decode cX9_bitsOf 71 = .ok (.ldc2_w 379, 3) := by decide +kernel
theorem dX9_bitsOf_74 : decode cX9_bitsOf 74 = .ok (.ddiv, 1) := by decide +kernel
theorem dX9_bitsOf_75 : decode cX9_bitsOf 75 = .ok (.dstore 4, 2) := by decide +kernel
theorem dX9_bitsOf_77 : decode cX9_bitsOf 77 = .ok (.lload 6, 2) := by decide +kernel
theorem dX9_bitsOf_79 : decode cX9_bitsOf 79 = .ok (.lconst 1, 1) := by decide +kernel
theorem dX9_bitsOf_80 : decode cX9_bitsOf 80 = .ok (.ladd, 1) := by decide +kernel
theorem dX9_bitsOf_81 : decode cX9_bitsOf 81 = .ok (.lstore 6, 2) := by decide +kernel
theorem dX9_bitsOf_83 : decode cX9_bitsOf 83 = .ok (.iinc 8 1, 3) := by decide +kernel
theorem dX9_bitsOf_86 : decode cX9_bitsOf 86 = .ok (.goto (-32), 3) := by decide +kernel
theorem dX9_bitsOf_89 : decode cX9_bitsOf 89 = .ok (.lconst 1, 1) := by decide +kernel
theorem dX9_bitsOf_90 : decode cX9_bitsOf 90 = .ok (.iload_n 3, 1) := by decide +kernel
theorem dX9_bitsOf_91 : decode cX9_bitsOf 91 = .ok (.lshl, 1) := by decide +kernel
theorem dX9_bitsOf_92 : decode cX9_bitsOf 92 = .ok (.lstore 8, 2) := by decide +kernel
theorem dX9_bitsOf_94 : decode cX9_bitsOf 94 = .ok (.lload 6, 2) := by decide +kernel
theorem dX9_bitsOf_96 : decode cX9_bitsOf 96 = .ok (.lload 8, 2) := by decide +kernel
theorem dX9_bitsOf_98 : decode cX9_bitsOf 98 = .ok (.lmul, 1) := by decide +kernel
theorem dX9_bitsOf_99 : decode cX9_bitsOf 99 = .ok (.dload 4, 2) := by decide +kernel
theorem dX9_bitsOf_101 : decode cX9_bitsOf 101 = .ok (.dconst 1, 1) := by decide +kernel
theorem dX9_bitsOf_102 : decode cX9_bitsOf 102 = .ok (.dsub, 1) := by decide +kernel
theorem dX9_bitsOf_103 : decode cX9_bitsOf 103 = .ok (.lload 8, 2) := by decide +kernel
theorem dX9_bitsOf_105 : decode cX9_bitsOf 105 = .ok (.l2d, 1) := by decide +kernel
theorem dX9_bitsOf_106 : decode cX9_bitsOf 106 = .ok (.dmul, 1) := by decide +kernel
theorem dX9_bitsOf_107 : decode cX9_bitsOf 107 = .ok (.d2l, 1) := by decide +kernel
theorem dX9_bitsOf_108 : decode cX9_bitsOf 108 = .ok (.ladd, 1) := by decide +kernel
theorem dX9_bitsOf_109 : decode cX9_bitsOf 109 = .ok (.lreturn, 1) := by decide +kernel
theorem dX10_init_0 : decode cX10_init 0 = .ok (.aload_n 0, 1) := by decide +kernel
theorem dX10_init_1 : decode cX10_init 1 = .ok (.invokespecial 1, 3) := by decide +kernel
theorem dX10_init_4 : decode cX10_init 4 = .ok (.aload_n 0, 1) := by decide +kernel
theorem dX10_init_5 : decode cX10_init 5 = .ok (.sipush 689, 3) := by decide +kernel
theorem dX10_init_8 : decode cX10_init 8 = .ok (.newarray .int, 2) := by decide +kernel
theorem dX10_init_10 : decode cX10_init 10 = .ok (.putfield 7, 3) := by decide +kernel
theorem dX10_init_13 : decode cX10_init 13 = .ok (.aload_n 0, 1) := by decide +kernel
theorem dX10_init_14 : decode cX10_init 14 = .ok (.sipush 4134, 3) := by decide +kernel
theorem dX10_init_17 : decode cX10_init 17 = .ok (.newarray .int, 2) := by decide +kernel
theorem dX10_init_19 : decode cX10_init 19 = .ok (.putfield 13, 3) := by decide +kernel
theorem dX10_init_22 : decode cX10_init 22 = .ok (.aload_n 0, 1) := by decide +kernel
theorem dX10_init_23 : decode cX10_init 23 = .ok (.sipush 689, 3) := by decide +kernel
theorem dX10_init_26 : decode cX10_init 26 = .ok (.newarray .int, 2) := by decide +kernel
theorem dX10_init_28 : decode cX10_init 28 = .ok (.putfield 16, 3) := by decide +kernel
theorem dX10_init_31 : decode cX10_init 31 = .ok (.aload_n 0, 1) := by decide +kernel
theorem dX10_init_32 : decode cX10_init 32 = .ok (.bipush 60, 2) := by decide +kernel
theorem dX10_init_34 : decode cX10_init 34 = .ok (.newarray .int, 2) := by decide +kernel
theorem dX10_init_36 : decode cX10_init 36 = .ok (.putfield 19, 3) := by decide +kernel
theorem dX10_init_39 : decode cX10_init 39 = .ok (.aload_n 0, 1) := by decide +kernel
theorem dX10_init_40 : decode cX10_init 40 = .ok (.bipush 12, 2) := by decide +kernel
theorem dX10_init_42 : decode cX10_init 42 = .ok (.newarray .int, 2) := by decide +kernel
theorem dX10_init_44 : decode cX10_init 44 = .ok (.putfield 22, 3) := by decide +kernel
theorem dX10_init_47 : decode cX10_init 47 = .ok (.aload_n 0, 1) := by decide +kernel
theorem dX10_init_48 : decode cX10_init 48 = .ok (.bipush 12, 2) := by decide +kernel
theorem dX10_init_50 : decode cX10_init 50 = .ok (.newarray .int, 2) := by decide +kernel
theorem dX10_init_52 : decode cX10_init 52 = .ok (.putfield 25, 3) := by decide +kernel
theorem dX10_init_55 : decode cX10_init 55 = .ok (.aload_n 0, 1) := by decide +kernel
theorem dX10_init_56 : decode cX10_init 56 = .ok (.sipush 169, 3) := by decide +kernel
theorem dX10_init_59 : decode cX10_init 59 = .ok (.newarray .int, 2) := by decide +kernel
theorem dX10_init_61 : decode cX10_init 61 = .ok (.putfield 28, 3) := by decide +kernel
theorem dX10_init_64 : decode cX10_init 64 = .ok (.aload_n 0, 1) := by decide +kernel
theorem dX10_init_65 : decode cX10_init 65 = .ok (.bipush 31, 2) := by decide +kernel
theorem dX10_init_67 : decode cX10_init 67 = .ok (.newarray .int, 2) := by decide +kernel
theorem dX10_init_69 : decode cX10_init 69 = .ok (.putfield 31, 3) := by decide +kernel
theorem dX10_init_72 : decode cX10_init 72 = .ok (.aload_n 0, 1) := by decide +kernel
theorem dX10_init_73 : decode cX10_init 73 = .ok (.getfield 7, 3) := by decide +kernel
theorem dX10_init_76 : decode cX10_init 76 = .ok (.iconst 2, 1) := by decide +kernel
theorem dX10_init_77 : decode cX10_init 77 = .ok (.bipush 30, 2) := by decide +kernel
theorem dX10_init_79 : decode cX10_init 79 = .ok (.iastore, 1) := by decide +kernel
theorem dX10_init_80 : decode cX10_init 80 = .ok (.aload_n 0, 1) := by decide +kernel
theorem dX10_init_81 : decode cX10_init 81 = .ok (.getfield 7, 3) := by decide +kernel
theorem dX10_init_84 : decode cX10_init 84 = .ok (.iconst 3, 1) := by decide +kernel
theorem dX10_init_85 : decode cX10_init 85 = .ok (.bipush 50, 2) := by decide +kernel
theorem dX10_init_87 : decode cX10_init 87 = .ok (.iastore, 1) := by decide +kernel
theorem dX10_init_88 : decode cX10_init 88 = .ok (.iconst 0, 1) := by decide +kernel
theorem dX10_init_89 : decode cX10_init 89 = .ok (.istore_n 1, 1) := by decide +kernel
theorem dX10_init_90 : decode cX10_init 90 = .ok (.iload_n 1, 1) := by decide +kernel
theorem dX10_init_91 : decode cX10_init 91 = .ok (.iconst 4, 1) := by decide +kernel
theorem dX10_init_92 : decode cX10_init 92 = .ok (.if_icmp .ge 21, 3) := by decide +kernel
theorem dX10_init_95 : decode cX10_init 95 = .ok (.aload_n 0, 1) := by decide +kernel
theorem dX10_init_96 : decode cX10_init 96 = .ok (.getfield 7, 3) := by decide +kernel
theorem dX10_init_99 : decode cX10_init 99 = .ok (.iconst 4, 1) := by decide +kernel
theorem dX10_init_100 : decode cX10_init 100 = .ok (.iconst 5, 1) := by decide +kernel
theorem dX10_init_101 : decode cX10_init 101 = .ok (.iload_n 1, 1) := by decide +kernel
theorem dX10_init_102 : decode cX10_init 102 = .ok (.imul, 1) := by decide +kernel
theorem dX10_init_103 : decode cX10_init 103 = .ok (.iadd, 1) := by decide +kernel
theorem dX10_init_104 : decode cX10_init 104 = .ok (.bipush 10, 2) := by decide +kernel
theorem dX10_init_106 : decode cX10_init 106 = .ok (.iastore, 1) := by decide +kernel
theorem dX10_init_107 : decode cX10_init 107 = .ok (.iinc 1 1, 3) := by decide +kernel
theorem dX10_init_110 : decode cX10_init 110 = .ok (.goto (-20), 3) := by decide +kernel
theorem dX10_init_113 : decode cX10_init 113 = .ok (.iconst 0, 1) := by decide +kernel
theorem dX10_init_114 : decode cX10_init 114 = .ok (.istore_n 1, 1) := by decide +kernel
theorem dX10_init_115 : decode cX10_init 115 = .ok (.iload_n 1, 1) := by decide +kernel
theorem dX10_init_116 : decode cX10_init 116 = .ok (.bipush 40, 2) := by decide +kernel
theorem dX10_init_118 : decode cX10_init 118 = .ok (.if_icmp .ge 19, 3) := by decide +kernel
theorem dX10_init_121 : decode cX10_init 121 = .ok (.aload_n 0, 1) := by decide +kernel
theorem dX10_init_122 : decode cX10_init 122 = .ok (.getfield 7, 3) := by decide +kernel
theorem dX10_init_125 : decode cX10_init 125 = .ok (.bipush 24, 2) := by decide +kernel
theorem dX10_init_127 : decode cX10_init 127 = .ok (.iload_n 1, 1) := by decide +kernel
theorem dX10_init_128 : decode cX10_init 128 = .ok (.iadd, 1) := by decide +kernel
theorem dX10_init_129 : decode cX10_init 129 = .ok (.iconst (-1), 1) := by decide +kernel
theorem dX10_init_130 : decode cX10_init 130 = .ok (.iastore, 1) := by decide +kernel
theorem dX10_init_131 : decode cX10_init 131 = .ok (.iinc 1 1, 3) := by decide +kernel
theorem dX10_init_134 : decode cX10_init 134 = .ok (.goto (-19), 3) := by decide +kernel
theorem dX10_init_137 : decode cX10_init 137 = .ok (.aload_n 0, 1) := by decide +kernel
theorem dX10_init_138 : decode cX10_init 138 = .ok (.getfield 7, 3) := by decide +kernel
theorem dX10_init_141 : decode cX10_init 141 = .ok (.bipush 64, 2) := by decide +kernel
theorem dX10_init_143 : decode cX10_init 143 = .ok (.bipush 10, 2) := by decide +kernel
theorem dX10_init_145 : decode cX10_init 145 = .ok (.iastore, 1) := by decide +kernel
theorem dX10_init_146 : decode cX10_init 146 = .ok (.aload_n 0, 1) := by decide +kernel
theorem dX10_init_147 : decode cX10_init 147 = .ok (.getfield 7, 3) := by decide +kernel
theorem dX10_init_150 : decode cX10_init 150 = .ok (.bipush 67, 2) := by decide +kernel
theorem dX10_init_152 : decode cX10_init 152 = .ok (.bipush 30, 2) := by decide +kernel
theorem dX10_init_154 : decode cX10_init 154 = .ok (.iastore, 1) := by decide +kernel
theorem dX10_init_155 : decode cX10_init 155 = .ok (.aload_n 0, 1) := by decide +kernel
theorem dX10_init_156 : decode cX10_init 156 = .ok (.getfield 7, 3) := by decide +kernel
theorem dX10_init_159 : decode cX10_init 159 = .ok (.bipush 70, 2) := by decide +kernel
theorem dX10_init_161 : decode cX10_init 161 = .ok (.bipush 60, 2) := by decide +kernel
theorem dX10_init_163 : decode cX10_init 163 = .ok (.iastore, 1) := by decide +kernel
theorem dX10_init_164 : decode cX10_init 164 = .ok (.aload_n 0, 1) := by decide +kernel
theorem dX10_init_165 : decode cX10_init 165 = .ok (.getfield 7, 3) := by decide +kernel
theorem dX10_init_168 : decode cX10_init 168 = .ok (.bipush 73, 2) := by decide +kernel
theorem dX10_init_170 : decode cX10_init 170 = .ok (.bipush 80, 2) := by decide +kernel
theorem dX10_init_172 : decode cX10_init 172 = .ok (.iastore, 1) := by decide +kernel
theorem dX10_init_173 : decode cX10_init 173 = .ok (.aload_n 0, 1) := by decide +kernel
theorem dX10_init_174 : decode cX10_init 174 = .ok (.getfield 7, 3) := by decide +kernel
theorem dX10_init_177 : decode cX10_init 177 = .ok (.bipush 76, 2) := by decide +kernel
theorem dX10_init_179 : decode cX10_init 179 = .ok (.bipush 100, 2) := by decide +kernel
theorem dX10_init_181 : decode cX10_init 181 = .ok (.iastore, 1) := by decide +kernel
theorem dX10_init_182 : decode cX10_init 182 = .ok (.return_, 1) := by decide +kernel
theorem dX10_thrown_0 : decode cX10_thrown 0 = .ok (.aload_n 0, 1) := by decide +kernel
theorem dX10_thrown_1 : decode cX10_thrown 1 = .ok (.getfield 34, 3) := by decide +kernel
theorem dX10_thrown_4 : decode cX10_thrown 4 = .ok (.ireturn, 1) := by decide +kernel
theorem dX10_fails_0 : decode cX10_fails 0 = .ok (.aload_n 0, 1) := by decide +kernel
theorem dX10_fails_1 : decode cX10_fails 1 = .ok (.iload_n 1, 1) := by decide +kernel
theorem dX10_fails_2 : decode cX10_fails 2 = .ok (.putfield 34, 3) := by decide +kernel
theorem dX10_fails_5 : decode cX10_fails 5 = .ok (.iconst 0, 1) := by decide +kernel
theorem dX10_fails_6 : decode cX10_fails 6 = .ok (.ireturn, 1) := by decide +kernel
theorem dX10_in_0 : decode cX10_in 0 = .ok (.iload_n 0, 1) := by decide +kernel
theorem dX10_in_1 : decode cX10_in 1 = .ok (.iload_n 1, 1) := by decide +kernel
theorem dX10_in_2 : decode cX10_in 2 = .ok (.if_icmp .lt 12, 3) := by decide +kernel
theorem dX10_in_5 : decode cX10_in 5 = .ok (.iload_n 0, 1) := by decide +kernel
theorem dX10_in_6 : decode cX10_in 6 = .ok (.iload_n 2, 1) := by decide +kernel
theorem dX10_in_7 : decode cX10_in 7 = .ok (.if_icmp .gt 7, 3) := by decide +kernel
theorem dX10_in_10 : decode cX10_in 10 = .ok (.iconst 1, 1) := by decide +kernel
theorem dX10_in_11 : decode cX10_in 11 = .ok (.goto 4, 3) := by decide +kernel
theorem dX10_in_14 : decode cX10_in 14 = .ok (.iconst 0, 1) := by decide +kernel
theorem dX10_in_15 : decode cX10_in 15 = .ok (.ireturn, 1) := by decide +kernel
theorem dX10_save_0 : decode cX10_save 0 = .ok (.aload_n 0, 1) := by decide +kernel
theorem dX10_save_1 : decode cX10_save 1 = .ok (.getfield 38, 3) := by decide +kernel
theorem dX10_save_4 : decode cX10_save 4 = .ok (.bipush 6, 2) := by decide +kernel
theorem dX10_save_6 : decode cX10_save 6 = .ok (.if_icmp .ne 44, 3) := by decide +kernel
theorem dX10_save_9 : decode cX10_save 9 = .ok (.iconst 0, 1) := by decide +kernel
theorem dX10_save_10 : decode cX10_save 10 = .ok (.istore_n 1, 1) := by decide +kernel
theorem dX10_save_11 : decode cX10_save 11 = .ok (.iload_n 1, 1) := by decide +kernel
theorem dX10_save_12 : decode cX10_save 12 = .ok (.sipush 3445, 3) := by decide +kernel
theorem dX10_save_15 : decode cX10_save 15 = .ok (.if_icmp .ge 25, 3) := by decide +kernel
theorem dX10_save_18 : decode cX10_save 18 = .ok (.aload_n 0, 1) := by decide +kernel
theorem dX10_save_19 : decode cX10_save 19 = .ok (.getfield 13, 3) := by decide +kernel
theorem dX10_save_22 : decode cX10_save 22 = .ok (.iload_n 1, 1) := by decide +kernel
theorem dX10_save_23 : decode cX10_save 23 = .ok (.aload_n 0, 1) := by decide +kernel
theorem dX10_save_24 : decode cX10_save 24 = .ok (.getfield 13, 3) := by decide +kernel
theorem dX10_save_27 : decode cX10_save 27 = .ok (.iload_n 1, 1) := by decide +kernel
theorem dX10_save_28 : decode cX10_save 28 = .ok (.sipush 689, 3) := by decide +kernel
theorem dX10_save_31 : decode cX10_save 31 = .ok (.iadd, 1) := by decide +kernel
theorem dX10_save_32 : decode cX10_save 32 = .ok (.iaload, 1) := by decide +kernel
theorem dX10_save_33 : decode cX10_save 33 = .ok (.iastore, 1) := by decide +kernel
theorem dX10_save_34 : decode cX10_save 34 = .ok (.iinc 1 1, 3) := by decide +kernel
theorem dX10_save_37 : decode cX10_save 37 = .ok (.goto (-26), 3) := by decide +kernel
theorem dX10_save_40 : decode cX10_save 40 = .ok (.aload_n 0, 1) := by decide +kernel
theorem dX10_save_41 : decode cX10_save 41 = .ok (.dup, 1) := by decide +kernel
theorem dX10_save_42 : decode cX10_save 42 = .ok (.getfield 38, 3) := by decide +kernel
theorem dX10_save_45 : decode cX10_save 45 = .ok (.iconst 1, 1) := by decide +kernel
theorem dX10_save_46 : decode cX10_save 46 = .ok (.isub, 1) := by decide +kernel
theorem dX10_save_47 : decode cX10_save 47 = .ok (.putfield 38, 3) := by decide +kernel
theorem dX10_save_50 : decode cX10_save 50 = .ok (.iconst 0, 1) := by decide +kernel
theorem dX10_save_51 : decode cX10_save 51 = .ok (.istore_n 1, 1) := by decide +kernel
theorem dX10_save_52 : decode cX10_save 52 = .ok (.iload_n 1, 1) := by decide +kernel
theorem dX10_save_53 : decode cX10_save 53 = .ok (.sipush 689, 3) := by decide +kernel
theorem dX10_save_56 : decode cX10_save 56 = .ok (.if_icmp .ge 30, 3) := by decide +kernel
theorem dX10_save_59 : decode cX10_save 59 = .ok (.aload_n 0, 1) := by decide +kernel
theorem dX10_save_60 : decode cX10_save 60 = .ok (.getfield 13, 3) := by decide +kernel
theorem dX10_save_63 : decode cX10_save 63 = .ok (.sipush 689, 3) := by decide +kernel
theorem dX10_save_66 : decode cX10_save 66 = .ok (.aload_n 0, 1) := by decide +kernel
theorem dX10_save_67 : decode cX10_save 67 = .ok (.getfield 38, 3) := by decide +kernel
theorem dX10_save_70 : decode cX10_save 70 = .ok (.imul, 1) := by decide +kernel
theorem dX10_save_71 : decode cX10_save 71 = .ok (.iload_n 1, 1) := by decide +kernel
theorem dX10_save_72 : decode cX10_save 72 = .ok (.iadd, 1) := by decide +kernel
theorem dX10_save_73 : decode cX10_save 73 = .ok (.aload_n 0, 1) := by decide +kernel
theorem dX10_save_74 : decode cX10_save 74 = .ok (.getfield 7, 3) := by decide +kernel
theorem dX10_save_77 : decode cX10_save 77 = .ok (.iload_n 1, 1) := by decide +kernel
theorem dX10_save_78 : decode cX10_save 78 = .ok (.iaload, 1) := by decide +kernel
theorem dX10_save_79 : decode cX10_save 79 = .ok (.iastore, 1) := by decide +kernel
theorem dX10_save_80 : decode cX10_save 80 = .ok (.iinc 1 1, 3) := by decide +kernel
theorem dX10_save_83 : decode cX10_save 83 = .ok (.goto (-31), 3) := by decide +kernel
theorem dX10_save_86 : decode cX10_save 86 = .ok (.aload_n 0, 1) := by decide +kernel
theorem dX10_save_87 : decode cX10_save 87 = .ok (.dup, 1) := by decide +kernel
theorem dX10_save_88 : decode cX10_save 88 = .ok (.getfield 38, 3) := by decide +kernel
theorem dX10_save_91 : decode cX10_save 91 = .ok (.iconst 1, 1) := by decide +kernel
theorem dX10_save_92 : decode cX10_save 92 = .ok (.iadd, 1) := by decide +kernel
theorem dX10_save_93 : decode cX10_save 93 = .ok (.putfield 38, 3) := by decide +kernel
theorem dX10_save_96 : decode cX10_save 96 = .ok (.return_, 1) := by decide +kernel
theorem dX10_putAside_0 : decode cX10_putAside 0 = .ok (.iconst 0, 1) := by decide +kernel
theorem dX10_putAside_1 : decode cX10_putAside 1 = .ok (.istore_n 1, 1) := by decide +kernel
theorem dX10_putAside_2 : decode cX10_putAside 2 = .ok (.iload_n 1, 1) := by decide +kernel
theorem dX10_putAside_3 : decode cX10_putAside 3 = .ok (.sipush 689, 3) := by decide +kernel
theorem dX10_putAside_6 : decode cX10_putAside 6 = .ok (.if_icmp .ge 21, 3) := by decide +kernel
theorem dX10_putAside_9 : decode cX10_putAside 9 = .ok (.aload_n 0, 1) := by decide +kernel
theorem dX10_putAside_10 : decode cX10_putAside 10 = .ok (.getfield 16, 3) := by decide +kernel
theorem dX10_putAside_13 : decode cX10_putAside 13 = .ok (.iload_n 1, 1) := by decide +kernel
theorem dX10_putAside_14 : decode cX10_putAside 14 = .ok (.aload_n 0, 1) := by decide +kernel
theorem dX10_putAside_15 : decode cX10_putAside 15 = .ok (.getfield 7, 3) := by decide +kernel
theorem dX10_putAside_18 : decode cX10_putAside 18 = .ok (.iload_n 1, 1) := by decide +kernel
theorem dX10_putAside_19 : decode cX10_putAside 19 = .ok (.iaload, 1) := by decide +kernel
theorem dX10_putAside_20 : decode cX10_putAside 20 = .ok (.iastore, 1) := by decide +kernel
theorem dX10_putAside_21 : decode cX10_putAside 21 = .ok (.iinc 1 1, 3) := by decide +kernel
theorem dX10_putAside_24 : decode cX10_putAside 24 = .ok (.goto (-22), 3) := by decide +kernel
theorem dX10_putAside_27 : decode cX10_putAside 27 = .ok (.return_, 1) := by decide +kernel
theorem dX10_putBack_0 : decode cX10_putBack 0 = .ok (.iconst 0, 1) := by decide +kernel
theorem dX10_putBack_1 : decode cX10_putBack 1 = .ok (.istore_n 1, 1) := by decide +kernel
theorem dX10_putBack_2 : decode cX10_putBack 2 = .ok (.iload_n 1, 1) := by decide +kernel
theorem dX10_putBack_3 : decode cX10_putBack 3 = .ok (.sipush 689, 3) := by decide +kernel
theorem dX10_putBack_6 : decode cX10_putBack 6 = .ok (.if_icmp .ge 21, 3) := by decide +kernel
theorem dX10_putBack_9 : decode cX10_putBack 9 = .ok (.aload_n 0, 1) := by decide +kernel
theorem dX10_putBack_10 : decode cX10_putBack 10 = .ok (.getfield 7, 3) := by decide +kernel
theorem dX10_putBack_13 : decode cX10_putBack 13 = .ok (.iload_n 1, 1) := by decide +kernel
theorem dX10_putBack_14 : decode cX10_putBack 14 = .ok (.aload_n 0, 1) := by decide +kernel
theorem dX10_putBack_15 : decode cX10_putBack 15 = .ok (.getfield 16, 3) := by decide +kernel
theorem dX10_putBack_18 : decode cX10_putBack 18 = .ok (.iload_n 1, 1) := by decide +kernel
theorem dX10_putBack_19 : decode cX10_putBack 19 = .ok (.iaload, 1) := by decide +kernel
theorem dX10_putBack_20 : decode cX10_putBack 20 = .ok (.iastore, 1) := by decide +kernel
theorem dX10_putBack_21 : decode cX10_putBack 21 = .ok (.iinc 1 1, 3) := by decide +kernel
theorem dX10_putBack_24 : decode cX10_putBack 24 = .ok (.goto (-22), 3) := by decide +kernel
theorem dX10_putBack_27 : decode cX10_putBack 27 = .ok (.return_, 1) := by decide +kernel
theorem dX10_at_0 : decode cX10_at 0 = .ok (.bipush 79, 2) := by decide +kernel
theorem dX10_at_2 : decode cX10_at 2 = .ok (.bipush 22, 2) := by decide +kernel
theorem dX10_at_4 : decode cX10_at 4 = .ok (.iload_n 0, 1) := by decide +kernel
theorem dX10_at_5 : decode cX10_at 5 = .ok (.imul, 1) := by decide +kernel
theorem dX10_at_6 : decode cX10_at 6 = .ok (.iadd, 1) := by decide +kernel
theorem dX10_at_7 : decode cX10_at 7 = .ok (.ireturn, 1) := by decide +kernel
theorem dX10_rowAt_0 : decode cX10_rowAt 0 = .ok (.sipush 299, 3) := by decide +kernel
theorem dX10_rowAt_3 : decode cX10_rowAt 3 = .ok (.bipush 13, 2) := by decide +kernel
theorem dX10_rowAt_5 : decode cX10_rowAt 5 = .ok (.iload_n 0, 1) := by decide +kernel
theorem dX10_rowAt_6 : decode cX10_rowAt 6 = .ok (.imul, 1) := by decide +kernel
theorem dX10_rowAt_7 : decode cX10_rowAt 7 = .ok (.iadd, 1) := by decide +kernel
theorem dX10_rowAt_8 : decode cX10_rowAt 8 = .ok (.ireturn, 1) := by decide +kernel
theorem dX10_person_0 : decode cX10_person 0 = .ok (.iconst 4, 1) := by decide +kernel
theorem dX10_person_1 : decode cX10_person 1 = .ok (.iconst 5, 1) := by decide +kernel
theorem dX10_person_2 : decode cX10_person 2 = .ok (.iload_n 0, 1) := by decide +kernel
theorem dX10_person_3 : decode cX10_person 3 = .ok (.imul, 1) := by decide +kernel
theorem dX10_person_4 : decode cX10_person 4 = .ok (.iadd, 1) := by decide +kernel
theorem dX10_person_5 : decode cX10_person 5 = .ok (.ireturn, 1) := by decide +kernel
theorem dX10_proposal_0 : decode cX10_proposal 0 = .ok (.bipush 24, 2) := by decide +kernel
theorem dX10_proposal_2 : decode cX10_proposal 2 = .ok (.iconst 4, 1) := by decide +kernel
theorem dX10_proposal_3 : decode cX10_proposal 3 = .ok (.iload_n 0, 1) := by decide +kernel
theorem dX10_proposal_4 : decode cX10_proposal 4 = .ok (.imul, 1) := by decide +kernel
theorem dX10_proposal_5 : decode cX10_proposal 5 = .ok (.iadd, 1) := by decide +kernel
theorem dX10_proposal_6 : decode cX10_proposal 6 = .ok (.iload_n 1, 1) := by decide +kernel
theorem dX10_proposal_7 : decode cX10_proposal 7 = .ok (.iadd, 1) := by decide +kernel
theorem dX10_proposal_8 : decode cX10_proposal 8 = .ok (.ireturn, 1) := by decide +kernel
theorem dX10_isSegment_0 : decode cX10_isSegment 0 = .ok (.iload_n 1, 1) := by decide +kernel
theorem dX10_isSegment_1 : decode cX10_isSegment 1 = .ok (.iconst 0, 1) := by decide +kernel
theorem dX10_isSegment_2 : decode cX10_isSegment 2 = .ok (.aload_n 0, 1) := by decide +kernel
theorem dX10_isSegment_3 : decode cX10_isSegment 3 = .ok (.getfield 7, 3) := by decide +kernel
theorem dX10_isSegment_6 : decode cX10_isSegment 6 = .ok (.iconst 0, 1) := by decide +kernel
theorem dX10_isSegment_7 : decode cX10_isSegment 7 = .ok (.iaload, 1) := by decide +kernel
theorem dX10_isSegment_8 : decode cX10_isSegment 8 = .ok (.iconst 1, 1) := by decide +kernel
theorem dX10_isSegment_9 : decode cX10_isSegment 9 = .ok (.isub, 1) := by decide +kernel
theorem dX10_isSegment_10 : decode cX10_isSegment 10 = .ok (.invokestatic 41, 3) := by decide +kernel
theorem dX10_isSegment_13 : decode cX10_isSegment 13 = .ok (.ireturn, 1) := by decide +kernel
theorem dX10_isPerson_0 : decode cX10_isPerson 0 = .ok (.iload_n 0, 1) := by decide +kernel
theorem dX10_isPerson_1 : decode cX10_isPerson 1 = .ok (.iconst 0, 1) := by decide +kernel
theorem dX10_isPerson_2 : decode cX10_isPerson 2 = .ok (.iconst 3, 1) := by decide +kernel
theorem dX10_isPerson_3 : decode cX10_isPerson 3 = .ok (.invokestatic 41, 3) := by decide +kernel
theorem dX10_isPerson_6 : decode cX10_isPerson 6 = .ok (.ireturn, 1) := by decide +kernel
theorem dX10_isWord_0 : decode cX10_isWord 0 = .ok (.iload_n 0, 1) := by decide +kernel
theorem dX10_isWord_1 : decode cX10_isWord 1 = .ok (.iconst 0, 1) := by decide +kernel
theorem dX10_isWord_2 : decode cX10_isWord 2 = .ok (.bipush 7, 2) := by decide +kernel
theorem dX10_isWord_4 : decode cX10_isWord 4 = .ok (.invokestatic 41, 3) := by decide +kernel
theorem dX10_isWord_7 : decode cX10_isWord 7 = .ok (.ireturn, 1) := by decide +kernel
theorem dX10_isBand_0 : decode cX10_isBand 0 = .ok (.iload_n 0, 1) := by decide +kernel
theorem dX10_isBand_1 : decode cX10_isBand 1 = .ok (.iconst 0, 1) := by decide +kernel
theorem dX10_isBand_2 : decode cX10_isBand 2 = .ok (.iconst 4, 1) := by decide +kernel
theorem dX10_isBand_3 : decode cX10_isBand 3 = .ok (.invokestatic 41, 3) := by decide +kernel
theorem dX10_isBand_6 : decode cX10_isBand 6 = .ok (.ireturn, 1) := by decide +kernel
theorem dX10_layOne_0 : decode cX10_layOne 0 = .ok (.aload_n 0, 1) := by decide +kernel
theorem dX10_layOne_1 : decode cX10_layOne 1 = .ok (.aload_n 0, 1) := by decide +kernel
theorem dX10_layOne_2 : decode cX10_layOne 2 = .ok (.getfield 7, 3) := by decide +kernel
theorem dX10_layOne_5 : decode cX10_layOne 5 = .ok (.iload_n 1, 1) := by decide +kernel
theorem dX10_layOne_6 : decode cX10_layOne 6 = .ok (.invokestatic 45, 3) := by decide +kernel
theorem dX10_layOne_9 : decode cX10_layOne 9 = .ok (.iaload, 1) := by decide +kernel
theorem dX10_layOne_10 : decode cX10_layOne 10 = .ok (.putfield 49, 3) := by decide +kernel
theorem dX10_layOne_13 : decode cX10_layOne 13 = .ok (.iconst 0, 1) := by decide +kernel
theorem dX10_layOne_14 : decode cX10_layOne 14 = .ok (.istore_n 2, 1) := by decide +kernel
theorem dX10_layOne_15 : decode cX10_layOne 15 = .ok (.iload_n 2, 1) := by decide +kernel
theorem dX10_layOne_16 : decode cX10_layOne 16 = .ok (.aload_n 0, 1) := by decide +kernel
theorem dX10_layOne_17 : decode cX10_layOne 17 = .ok (.getfield 49, 3) := by decide +kernel
theorem dX10_layOne_20 : decode cX10_layOne 20 = .ok (.if_icmp .ge 29, 3) := by decide +kernel
theorem dX10_layOne_23 : decode cX10_layOne 23 = .ok (.aload_n 0, 1) := by decide +kernel
theorem dX10_layOne_24 : decode cX10_layOne 24 = .ok (.getfield 22, 3) := by decide +kernel
theorem dX10_layOne_27 : decode cX10_layOne 27 = .ok (.iload_n 2, 1) := by decide +kernel
theorem dX10_layOne_28 : decode cX10_layOne 28 = .ok (.aload_n 0, 1) := by decide +kernel
theorem dX10_layOne_29 : decode cX10_layOne 29 = .ok (.getfield 7, 3) := by decide +kernel
theorem dX10_layOne_32 : decode cX10_layOne 32 = .ok (.iload_n 1, 1) := by decide +kernel
theorem dX10_layOne_33 : decode cX10_layOne 33 = .ok (.invokestatic 45, 3) := by decide +kernel
theorem dX10_layOne_36 : decode cX10_layOne 36 = .ok (.bipush 10, 2) := by decide +kernel
theorem dX10_layOne_38 : decode cX10_layOne 38 = .ok (.iadd, 1) := by decide +kernel
theorem dX10_layOne_39 : decode cX10_layOne 39 = .ok (.iload_n 2, 1) := by decide +kernel
theorem dX10_layOne_40 : decode cX10_layOne 40 = .ok (.iadd, 1) := by decide +kernel
theorem dX10_layOne_41 : decode cX10_layOne 41 = .ok (.iaload, 1) := by decide +kernel
theorem dX10_layOne_42 : decode cX10_layOne 42 = .ok (.iastore, 1) := by decide +kernel
theorem dX10_layOne_43 : decode cX10_layOne 43 = .ok (.iinc 2 1, 3) := by decide +kernel
theorem dX10_layOne_46 : decode cX10_layOne 46 = .ok (.goto (-31), 3) := by decide +kernel
theorem dX10_layOne_49 : decode cX10_layOne 49 = .ok (.return_, 1) := by decide +kernel
theorem dX10_layOther_0 : decode cX10_layOther 0 = .ok (.aload_n 0, 1) := by decide +kernel
theorem dX10_layOther_1 : decode cX10_layOther 1 = .ok (.aload_n 0, 1) := by decide +kernel
theorem dX10_layOther_2 : decode cX10_layOther 2 = .ok (.getfield 7, 3) := by decide +kernel
theorem dX10_layOther_5 : decode cX10_layOther 5 = .ok (.iload_n 1, 1) := by decide +kernel
theorem dX10_layOther_6 : decode cX10_layOther 6 = .ok (.invokestatic 45, 3) := by decide +kernel
theorem dX10_layOther_9 : decode cX10_layOther 9 = .ok (.iaload, 1) := by decide +kernel
theorem dX10_layOther_10 : decode cX10_layOther 10 = .ok (.putfield 52, 3) := by decide +kernel
theorem dX10_layOther_13 : decode cX10_layOther 13 = .ok (.iconst 0, 1) := by decide +kernel
theorem dX10_layOther_14 : decode cX10_layOther 14 = .ok (.istore_n 2, 1) := by decide +kernel
theorem dX10_layOther_15 : decode cX10_layOther 15 = .ok (.iload_n 2, 1) := by decide +kernel
theorem dX10_layOther_16 : decode cX10_layOther 16 = .ok (.aload_n 0, 1) := by decide +kernel
theorem dX10_layOther_17 : decode cX10_layOther 17 = .ok (.getfield 52, 3) := by decide +kernel
theorem dX10_layOther_20 : decode cX10_layOther 20 = .ok (.if_icmp .ge 29, 3) := by decide +kernel
theorem dX10_layOther_23 : decode cX10_layOther 23 = .ok (.aload_n 0, 1) := by decide +kernel
theorem dX10_layOther_24 : decode cX10_layOther 24 = .ok (.getfield 25, 3) := by decide +kernel
theorem dX10_layOther_27 : decode cX10_layOther 27 = .ok (.iload_n 2, 1) := by decide +kernel
theorem dX10_layOther_28 : decode cX10_layOther 28 = .ok (.aload_n 0, 1) := by decide +kernel
theorem dX10_layOther_29 : decode cX10_layOther 29 = .ok (.getfield 7, 3) := by decide +kernel
theorem dX10_layOther_32 : decode cX10_layOther 32 = .ok (.iload_n 1, 1) := by decide +kernel
theorem dX10_layOther_33 : decode cX10_layOther 33 = .ok (.invokestatic 45, 3) := by decide +kernel
theorem dX10_layOther_36 : decode cX10_layOther 36 = .ok (.bipush 10, 2) := by decide +kernel
theorem dX10_layOther_38 : decode cX10_layOther 38 = .ok (.iadd, 1) := by decide +kernel
theorem dX10_layOther_39 : decode cX10_layOther 39 = .ok (.iload_n 2, 1) := by decide +kernel
theorem dX10_layOther_40 : decode cX10_layOther 40 = .ok (.iadd, 1) := by decide +kernel
theorem dX10_layOther_41 : decode cX10_layOther 41 = .ok (.iaload, 1) := by decide +kernel
theorem dX10_layOther_42 : decode cX10_layOther 42 = .ok (.iastore, 1) := by decide +kernel
theorem dX10_layOther_43 : decode cX10_layOther 43 = .ok (.iinc 2 1, 3) := by decide +kernel
theorem dX10_layOther_46 : decode cX10_layOther 46 = .ok (.goto (-31), 3) := by decide +kernel
theorem dX10_layOther_49 : decode cX10_layOther 49 = .ok (.return_, 1) := by decide +kernel
theorem dX10_layRow_0 : decode cX10_layRow 0 = .ok (.aload_n 0, 1) := by decide +kernel
theorem dX10_layRow_1 : decode cX10_layRow 1 = .ok (.aload_n 0, 1) := by decide +kernel
theorem dX10_layRow_2 : decode cX10_layRow 2 = .ok (.getfield 7, 3) := by decide +kernel
theorem dX10_layRow_5 : decode cX10_layRow 5 = .ok (.iload_n 1, 1) := by decide +kernel
theorem dX10_layRow_6 : decode cX10_layRow 6 = .ok (.invokestatic 55, 3) := by decide +kernel
theorem dX10_layRow_9 : decode cX10_layRow 9 = .ok (.iaload, 1) := by decide +kernel
theorem dX10_layRow_10 : decode cX10_layRow 10 = .ok (.putfield 52, 3) := by decide +kernel
theorem dX10_layRow_13 : decode cX10_layRow 13 = .ok (.iconst 0, 1) := by decide +kernel
theorem dX10_layRow_14 : decode cX10_layRow 14 = .ok (.istore_n 2, 1) := by decide +kernel
theorem dX10_layRow_15 : decode cX10_layRow 15 = .ok (.iload_n 2, 1) := by decide +kernel
theorem dX10_layRow_16 : decode cX10_layRow 16 = .ok (.aload_n 0, 1) := by decide +kernel
theorem dX10_layRow_17 : decode cX10_layRow 17 = .ok (.getfield 52, 3) := by decide +kernel
theorem dX10_layRow_20 : decode cX10_layRow 20 = .ok (.if_icmp .ge 28, 3) := by decide +kernel
theorem dX10_layRow_23 : decode cX10_layRow 23 = .ok (.aload_n 0, 1) := by decide +kernel
theorem dX10_layRow_24 : decode cX10_layRow 24 = .ok (.getfield 25, 3) := by decide +kernel
theorem dX10_layRow_27 : decode cX10_layRow 27 = .ok (.iload_n 2, 1) := by decide +kernel
theorem dX10_layRow_28 : decode cX10_layRow 28 = .ok (.aload_n 0, 1) := by decide +kernel
theorem dX10_layRow_29 : decode cX10_layRow 29 = .ok (.getfield 7, 3) := by decide +kernel
theorem dX10_layRow_32 : decode cX10_layRow 32 = .ok (.iload_n 1, 1) := by decide +kernel
theorem dX10_layRow_33 : decode cX10_layRow 33 = .ok (.invokestatic 55, 3) := by decide +kernel
theorem dX10_layRow_36 : decode cX10_layRow 36 = .ok (.iconst 1, 1) := by decide +kernel
theorem dX10_layRow_37 : decode cX10_layRow 37 = .ok (.iadd, 1) := by decide +kernel
theorem dX10_layRow_38 : decode cX10_layRow 38 = .ok (.iload_n 2, 1) := by decide +kernel
theorem dX10_layRow_39 : decode cX10_layRow 39 = .ok (.iadd, 1) := by decide +kernel
theorem dX10_layRow_40 : decode cX10_layRow 40 = .ok (.iaload, 1) := by decide +kernel
theorem dX10_layRow_41 : decode cX10_layRow 41 = .ok (.iastore, 1) := by decide +kernel
theorem dX10_layRow_42 : decode cX10_layRow 42 = .ok (.iinc 2 1, 3) := by decide +kernel
theorem dX10_layRow_45 : decode cX10_layRow 45 = .ok (.goto (-30), 3) := by decide +kernel
theorem dX10_layRow_48 : decode cX10_layRow 48 = .ok (.return_, 1) := by decide +kernel
theorem dX10_longest_0 : decode cX10_longest 0 = .ok (.iconst 0, 1) := by decide +kernel
theorem dX10_longest_1 : decode cX10_longest 1 = .ok (.istore_n 1, 1) := by decide +kernel
theorem dX10_longest_2 : decode cX10_longest 2 = .ok (.iload_n 1, 1) := by decide +kernel
theorem dX10_longest_3 : decode cX10_longest 3 = .ok (.sipush 169, 3) := by decide +kernel
theorem dX10_longest_6 : decode cX10_longest 6 = .ok (.if_icmp .ge 16, 3) := by decide +kernel
theorem dX10_longest_9 : decode cX10_longest 9 = .ok (.aload_n 0, 1) := by decide +kernel
theorem dX10_longest_10 : decode cX10_longest 10 = .ok (.getfield 28, 3) := by decide +kernel
theorem dX10_longest_13 : decode cX10_longest 13 = .ok (.iload_n 1, 1) := by decide +kernel
theorem dX10_longest_14 : decode cX10_longest 14 = .ok (.iconst 0, 1) := by decide +kernel
theorem dX10_longest_15 : decode cX10_longest 15 = .ok (.iastore, 1) := by decide +kernel
theorem dX10_longest_16 : decode cX10_longest 16 = .ok (.iinc 1 1, 3) := by decide +kernel
theorem dX10_longest_19 : decode cX10_longest 19 = .ok (.goto (-17), 3) := by decide +kernel
theorem dX10_longest_22 : decode cX10_longest 22 = .ok (.aload_n 0, 1) := by decide +kernel
theorem dX10_longest_23 : decode cX10_longest 23 = .ok (.getfield 49, 3) := by decide +kernel
theorem dX10_longest_26 : decode cX10_longest 26 = .ok (.iconst 1, 1) := by decide +kernel
theorem dX10_longest_27 : decode cX10_longest 27 = .ok (.isub, 1) := by decide +kernel
theorem dX10_longest_28 : decode cX10_longest 28 = .ok (.istore_n 1, 1) := by decide +kernel
theorem dX10_longest_29 : decode cX10_longest 29 = .ok (.iload_n 1, 1) := by decide +kernel
theorem dX10_longest_30 : decode cX10_longest 30 = .ok (.ifCond .lt 113, 3) := by decide +kernel
theorem dX10_longest_33 : decode cX10_longest 33 = .ok (.aload_n 0, 1) := by decide +kernel
theorem dX10_longest_34 : decode cX10_longest 34 = .ok (.getfield 52, 3) := by decide +kernel
theorem dX10_longest_37 : decode cX10_longest 37 = .ok (.iconst 1, 1) := by decide +kernel
theorem dX10_longest_38 : decode cX10_longest 38 = .ok (.isub, 1) := by decide +kernel
theorem dX10_longest_39 : decode cX10_longest 39 = .ok (.istore_n 2, 1) := by decide +kernel
theorem dX10_longest_40 : decode cX10_longest 40 = .ok (.iload_n 2, 1) := by decide +kernel
theorem dX10_longest_41 : decode cX10_longest 41 = .ok (.ifCond .lt 96, 3) := by decide +kernel
theorem dX10_longest_44 : decode cX10_longest 44 = .ok (.aload_n 0, 1) := by decide +kernel
theorem dX10_longest_45 : decode cX10_longest 45 = .ok (.getfield 28, 3) := by decide +kernel
theorem dX10_longest_48 : decode cX10_longest 48 = .ok (.bipush 13, 2) := by decide +kernel
theorem dX10_longest_50 : decode cX10_longest 50 = .ok (.iload_n 1, 1) := by decide +kernel
theorem dX10_longest_51 : decode cX10_longest 51 = .ok (.iconst 1, 1) := by decide +kernel
theorem dX10_longest_52 : decode cX10_longest 52 = .ok (.iadd, 1) := by decide +kernel
theorem dX10_longest_53 : decode cX10_longest 53 = .ok (.imul, 1) := by decide +kernel
theorem dX10_longest_54 : decode cX10_longest 54 = .ok (.iload_n 2, 1) := by decide +kernel
theorem dX10_longest_55 : decode cX10_longest 55 = .ok (.iadd, 1) := by decide +kernel
theorem dX10_longest_56 : decode cX10_longest 56 = .ok (.iaload, 1) := by decide +kernel
theorem dX10_longest_57 : decode cX10_longest 57 = .ok (.istore_n 3, 1) := by decide +kernel
theorem dX10_longest_58 : decode cX10_longest 58 = .ok (.aload_n 0, 1) := by decide +kernel
theorem dX10_longest_59 : decode cX10_longest 59 = .ok (.getfield 28, 3) := by decide +kernel
theorem dX10_longest_62 : decode cX10_longest 62 = .ok (.bipush 13, 2) := by decide +kernel
theorem dX10_longest_64 : decode cX10_longest 64 = .ok (.iload_n 1, 1) := by decide +kernel
theorem dX10_longest_65 : decode cX10_longest 65 = .ok (.imul, 1) := by decide +kernel
theorem dX10_longest_66 : decode cX10_longest 66 = .ok (.iload_n 2, 1) := by decide +kernel
theorem dX10_longest_67 : decode cX10_longest 67 = .ok (.iadd, 1) := by decide +kernel
theorem dX10_longest_68 : decode cX10_longest 68 = .ok (.iconst 1, 1) := by decide +kernel
theorem dX10_longest_69 : decode cX10_longest 69 = .ok (.iadd, 1) := by decide +kernel
theorem dX10_longest_70 : decode cX10_longest 70 = .ok (.iaload, 1) := by decide +kernel
theorem dX10_longest_71 : decode cX10_longest 71 = .ok (.istore 4, 2) := by decide +kernel
theorem dX10_longest_73 : decode cX10_longest 73 = .ok (.aload_n 0, 1) := by decide +kernel
theorem dX10_longest_74 : decode cX10_longest 74 = .ok (.getfield 28, 3) := by decide +kernel
theorem dX10_longest_77 : decode cX10_longest 77 = .ok (.bipush 13, 2) := by decide +kernel
theorem dX10_longest_79 : decode cX10_longest 79 = .ok (.iload_n 1, 1) := by decide +kernel
theorem dX10_longest_80 : decode cX10_longest 80 = .ok (.imul, 1) := by decide +kernel
theorem dX10_longest_81 : decode cX10_longest 81 = .ok (.iload_n 2, 1) := by decide +kernel
theorem dX10_longest_82 : decode cX10_longest 82 = .ok (.iadd, 1) := by decide +kernel
theorem dX10_longest_83 : decode cX10_longest 83 = .ok (.aload_n 0, 1) := by decide +kernel
theorem dX10_longest_84 : decode cX10_longest 84 = .ok (.getfield 22, 3) := by decide +kernel
theorem dX10_longest_87 : decode cX10_longest 87 = .ok (.iload_n 1, 1) := by decide +kernel
theorem dX10_longest_88 : decode cX10_longest 88 = .ok (.iaload, 1) := by decide +kernel
theorem dX10_longest_89 : decode cX10_longest 89 = .ok (.aload_n 0, 1) := by decide +kernel
theorem dX10_longest_90 : decode cX10_longest 90 = .ok (.getfield 25, 3) := by decide +kernel
theorem dX10_longest_93 : decode cX10_longest 93 = .ok (.iload_n 2, 1) := by decide +kernel
theorem dX10_longest_94 : decode cX10_longest 94 = .ok (.iaload, 1) := by decide +kernel
theorem dX10_longest_95 : decode cX10_longest 95 = .ok (.if_icmp .ne 23, 3) := by decide +kernel
theorem dX10_longest_98 : decode cX10_longest 98 = .ok (.aload_n 0, 1) := by decide +kernel
theorem dX10_longest_99 : decode cX10_longest 99 = .ok (.getfield 28, 3) := by decide +kernel
theorem dX10_longest_102 : decode cX10_longest 102 = .ok (.bipush 13, 2) := by decide +kernel
theorem dX10_longest_104 : decode cX10_longest 104 = .ok (.iload_n 1, 1) := by decide +kernel
theorem dX10_longest_105 : decode cX10_longest 105 = .ok (.iconst 1, 1) := by decide +kernel
theorem dX10_longest_106 : decode cX10_longest 106 = .ok (.iadd, 1) := by decide +kernel
theorem dX10_longest_107 : decode cX10_longest 107 = .ok (.imul, 1) := by decide +kernel
theorem dX10_longest_108 : decode cX10_longest 108 = .ok (.iload_n 2, 1) := by decide +kernel
theorem dX10_longest_109 : decode cX10_longest 109 = .ok (.iadd, 1) := by decide +kernel
theorem dX10_longest_110 : decode cX10_longest 110 = .ok (.iconst 1, 1) := by decide +kernel
theorem dX10_longest_111 : decode cX10_longest 111 = .ok (.iadd, 1) := by decide +kernel
theorem dX10_longest_112 : decode cX10_longest 112 = .ok (.iaload, 1) := by decide +kernel
theorem dX10_longest_113 : decode cX10_longest 113 = .ok (.iconst 1, 1) := by decide +kernel
theorem dX10_longest_114 : decode cX10_longest 114 = .ok (.iadd, 1) := by decide +kernel
theorem dX10_longest_115 : decode cX10_longest 115 = .ok (.goto 15, 3) := by decide +kernel
theorem dX10_longest_118 : decode cX10_longest 118 = .ok (.iload_n 3, 1) := by decide +kernel
theorem dX10_longest_119 : decode cX10_longest 119 = .ok (.iload 4, 2) := by decide +kernel
theorem dX10_longest_121 : decode cX10_longest 121 = .ok (.if_icmp .le 7, 3) := by decide +kernel
theorem dX10_longest_124 : decode cX10_longest 124 = .ok (.iload_n 3, 1) := by decide +kernel
theorem dX10_longest_125 : decode cX10_longest 125 = .ok (.goto 5, 3) := by decide +kernel
theorem dX10_longest_128 : decode cX10_longest 128 = .ok (.iload 4, 2) := by decide +kernel
theorem dX10_longest_130 : decode cX10_longest 130 = .ok (.iastore, 1) := by decide +kernel
theorem dX10_longest_131 : decode cX10_longest 131 = .ok (.iinc 2 (-1), 3) := by decide +kernel
theorem dX10_longest_134 : decode cX10_longest 134 = .ok (.goto (-94), 3) := by decide +kernel
theorem dX10_longest_137 : decode cX10_longest 137 = .ok (.iinc 1 (-1), 3) := by decide +kernel
theorem dX10_longest_140 : decode cX10_longest 140 = .ok (.goto (-111), 3) := by decide +kernel
theorem dX10_longest_143 : decode cX10_longest 143 = .ok (.aload_n 0, 1) := by decide +kernel
theorem dX10_longest_144 : decode cX10_longest 144 = .ok (.getfield 28, 3) := by decide +kernel
theorem dX10_longest_147 : decode cX10_longest 147 = .ok (.iconst 0, 1) := by decide +kernel
theorem dX10_longest_148 : decode cX10_longest 148 = .ok (.iaload, 1) := by decide +kernel
theorem dX10_longest_149 : decode cX10_longest 149 = .ok (.ireturn, 1) := by decide +kernel
theorem dX10_matchNow_0 : decode cX10_matchNow 0 = .ok (.sipush 200, 3) := by decide +kernel
theorem dX10_matchNow_3 : decode cX10_matchNow 3 = .ok (.aload_n 0, 1) := by decide +kernel
theorem dX10_matchNow_4 : decode cX10_matchNow 4 = .ok (.invokevirtual 58, 3) := by decide +kernel
theorem dX10_matchNow_7 : decode cX10_matchNow 7 = .ok (.imul, 1) := by decide +kernel
theorem dX10_matchNow_8 : decode cX10_matchNow 8 = .ok (.aload_n 0, 1) := by decide +kernel
theorem dX10_matchNow_9 : decode cX10_matchNow 9 = .ok (.getfield 49, 3) := by decide +kernel
theorem dX10_matchNow_12 : decode cX10_matchNow 12 = .ok (.aload_n 0, 1) := by decide +kernel
theorem dX10_matchNow_13 : decode cX10_matchNow 13 = .ok (.getfield 52, 3) := by decide +kernel
theorem dX10_matchNow_16 : decode cX10_matchNow 16 = .ok (.iadd, 1) := by decide +kernel
theorem dX10_matchNow_17 : decode cX10_matchNow 17 = .ok (.idiv, 1) := by decide +kernel
theorem dX10_matchNow_18 : decode cX10_matchNow 18 = .ok (.ireturn, 1) := by decide +kernel
theorem dX10_bestRow_0 : decode cX10_bestRow 0 = .ok (.iconst (-1), 1) := by decide +kernel
theorem dX10_bestRow_1 : decode cX10_bestRow 1 = .ok (.istore_n 2, 1) := by decide +kernel
theorem dX10_bestRow_2 : decode cX10_bestRow 2 = .ok (.iconst (-1), 1) := by decide +kernel
theorem dX10_bestRow_3 : decode cX10_bestRow 3 = .ok (.istore_n 3, 1) := by decide +kernel
theorem dX10_bestRow_4 : decode cX10_bestRow 4 = .ok (.aload_n 0, 1) := by decide +kernel
theorem dX10_bestRow_5 : decode cX10_bestRow 5 = .ok (.iload_n 1, 1) := by decide +kernel
theorem dX10_bestRow_6 : decode cX10_bestRow 6 = .ok (.invokevirtual 62, 3) := by decide +kernel
theorem dX10_bestRow_9 : decode cX10_bestRow 9 = .ok (.iconst 0, 1) := by decide +kernel
theorem dX10_bestRow_10 : decode cX10_bestRow 10 = .ok (.istore 4, 2) := by decide +kernel
theorem dX10_bestRow_12 : decode cX10_bestRow 12 = .ok (.iload 4, 2) := by decide +kernel
theorem dX10_bestRow_14 : decode cX10_bestRow 14 = .ok (.aload_n 0, 1) := by decide +kernel
theorem dX10_bestRow_15 : decode cX10_bestRow 15 = .ok (.getfield 7, 3) := by decide +kernel
theorem dX10_bestRow_18 : decode cX10_bestRow 18 = .ok (.iconst 1, 1) := by decide +kernel
theorem dX10_bestRow_19 : decode cX10_bestRow 19 = .ok (.iaload, 1) := by decide +kernel
theorem dX10_bestRow_20 : decode cX10_bestRow 20 = .ok (.if_icmp .ge 47, 3) := by decide +kernel
theorem dX10_bestRow_23 : decode cX10_bestRow 23 = .ok (.aload_n 0, 1) := by decide +kernel
theorem dX10_bestRow_24 : decode cX10_bestRow 24 = .ok (.iload 4, 2) := by decide +kernel
theorem dX10_bestRow_26 : decode cX10_bestRow 26 = .ok (.invokevirtual 66, 3) := by decide +kernel
theorem dX10_bestRow_29 : decode cX10_bestRow 29 = .ok (.aload_n 0, 1) := by decide +kernel
theorem dX10_bestRow_30 : decode cX10_bestRow 30 = .ok (.invokevirtual 69, 3) := by decide +kernel
theorem dX10_bestRow_33 : decode cX10_bestRow 33 = .ok (.istore 5, 2) := by decide +kernel
theorem dX10_bestRow_35 : decode cX10_bestRow 35 = .ok (.iload 5, 2) := by decide +kernel
theorem dX10_bestRow_37 : decode cX10_bestRow 37 = .ok (.iload_n 3, 1) := by decide +kernel
theorem dX10_bestRow_38 : decode cX10_bestRow 38 = .ok (.if_icmp .lt 8, 3) := by decide +kernel
theorem dX10_bestRow_41 : decode cX10_bestRow 41 = .ok (.iload 4, 2) := by decide +kernel
theorem dX10_bestRow_43 : decode cX10_bestRow 43 = .ok (.goto 4, 3) := by decide +kernel
theorem dX10_bestRow_46 : decode cX10_bestRow 46 = .ok (.iload_n 2, 1) := by decide +kernel
theorem dX10_bestRow_47 : decode cX10_bestRow 47 = .ok (.istore_n 2, 1) := by decide +kernel
theorem dX10_bestRow_48 : decode cX10_bestRow 48 = .ok (.iload 5, 2) := by decide +kernel
theorem dX10_bestRow_50 : decode cX10_bestRow 50 = .ok (.iload_n 3, 1) := by decide +kernel
theorem dX10_bestRow_51 : decode cX10_bestRow 51 = .ok (.if_icmp .lt 8, 3) := by decide +kernel
theorem dX10_bestRow_54 : decode cX10_bestRow 54 = .ok (.iload 5, 2) := by decide +kernel
theorem dX10_bestRow_56 : decode cX10_bestRow 56 = .ok (.goto 4, 3) := by decide +kernel
theorem dX10_bestRow_59 : decode cX10_bestRow 59 = .ok (.iload_n 3, 1) := by decide +kernel
theorem dX10_bestRow_60 : decode cX10_bestRow 60 = .ok (.istore_n 3, 1) := by decide +kernel
theorem dX10_bestRow_61 : decode cX10_bestRow 61 = .ok (.iinc 4 1, 3) := by decide +kernel
theorem dX10_bestRow_64 : decode cX10_bestRow 64 = .ok (.goto (-52), 3) := by decide +kernel
theorem dX10_bestRow_67 : decode cX10_bestRow 67 = .ok (.iload_n 2, 1) := by decide +kernel
theorem dX10_bestRow_68 : decode cX10_bestRow 68 = .ok (.ireturn, 1) := by decide +kernel
theorem dX10_matchOf_0 : decode cX10_matchOf 0 = .ok (.aload_n 0, 1) := by decide +kernel
theorem dX10_matchOf_1 : decode cX10_matchOf 1 = .ok (.iload_n 1, 1) := by decide +kernel
theorem dX10_matchOf_2 : decode cX10_matchOf 2 = .ok (.invokevirtual 72, 3) := by decide +kernel
theorem dX10_matchOf_5 : decode cX10_matchOf 5 = .ok (.istore_n 2, 1) := by decide +kernel
theorem dX10_matchOf_6 : decode cX10_matchOf 6 = .ok (.iload_n 2, 1) := by decide +kernel
theorem dX10_matchOf_7 : decode cX10_matchOf 7 = .ok (.iconst (-1), 1) := by decide +kernel
theorem dX10_matchOf_8 : decode cX10_matchOf 8 = .ok (.if_icmp .ne 5, 3) := by decide +kernel
theorem dX10_matchOf_11 : decode cX10_matchOf 11 = .ok (.iconst 0, 1) := by decide +kernel
theorem dX10_matchOf_12 : decode cX10_matchOf 12 = .ok (.ireturn, 1) := by decide +kernel
theorem dX10_matchOf_13 : decode cX10_matchOf 13 = .ok (.aload_n 0, 1) := by decide +kernel
theorem dX10_matchOf_14 : decode cX10_matchOf 14 = .ok (.iload_n 2, 1) := by decide +kernel
theorem dX10_matchOf_15 : decode cX10_matchOf 15 = .ok (.invokevirtual 66, 3) := by decide +kernel
theorem dX10_matchOf_18 : decode cX10_matchOf 18 = .ok (.aload_n 0, 1) := by decide +kernel
theorem dX10_matchOf_19 : decode cX10_matchOf 19 = .ok (.invokevirtual 69, 3) := by decide +kernel
theorem dX10_matchOf_22 : decode cX10_matchOf 22 = .ok (.ireturn, 1) := by decide +kernel
theorem dX10_bandNow_0 : decode cX10_bandNow 0 = .ok (.aload_n 0, 1) := by decide +kernel
theorem dX10_bandNow_1 : decode cX10_bandNow 1 = .ok (.iload_n 1, 1) := by decide +kernel
theorem dX10_bandNow_2 : decode cX10_bandNow 2 = .ok (.invokevirtual 75, 3) := by decide +kernel
theorem dX10_bandNow_5 : decode cX10_bandNow 5 = .ok (.istore_n 2, 1) := by decide +kernel
theorem dX10_bandNow_6 : decode cX10_bandNow 6 = .ok (.iload_n 2, 1) := by decide +kernel
theorem dX10_bandNow_7 : decode cX10_bandNow 7 = .ok (.bipush 100, 2) := by decide +kernel
theorem dX10_bandNow_9 : decode cX10_bandNow 9 = .ok (.if_icmp .ne 7, 3) := by decide +kernel
theorem dX10_bandNow_12 : decode cX10_bandNow 12 = .ok (.iconst 0, 1) := by decide +kernel
theorem dX10_bandNow_13 : decode cX10_bandNow 13 = .ok (.goto 34, 3) := by decide +kernel
theorem dX10_bandNow_16 : decode cX10_bandNow 16 = .ok (.iload_n 2, 1) := by decide +kernel
theorem dX10_bandNow_17 : decode cX10_bandNow 17 = .ok (.bipush 85, 2) := by decide +kernel
theorem dX10_bandNow_19 : decode cX10_bandNow 19 = .ok (.if_icmp .lt 7, 3) := by decide +kernel
theorem dX10_bandNow_22 : decode cX10_bandNow 22 = .ok (.iconst 1, 1) := by decide +kernel
theorem dX10_bandNow_23 : decode cX10_bandNow 23 = .ok (.goto 24, 3) := by decide +kernel
theorem dX10_bandNow_26 : decode cX10_bandNow 26 = .ok (.iload_n 2, 1) := by decide +kernel
theorem dX10_bandNow_27 : decode cX10_bandNow 27 = .ok (.bipush 70, 2) := by decide +kernel
theorem dX10_bandNow_29 : decode cX10_bandNow 29 = .ok (.if_icmp .lt 7, 3) := by decide +kernel
theorem dX10_bandNow_32 : decode cX10_bandNow 32 = .ok (.iconst 2, 1) := by decide +kernel
theorem dX10_bandNow_33 : decode cX10_bandNow 33 = .ok (.goto 14, 3) := by decide +kernel
theorem dX10_bandNow_36 : decode cX10_bandNow 36 = .ok (.iload_n 2, 1) := by decide +kernel
theorem dX10_bandNow_37 : decode cX10_bandNow 37 = .ok (.bipush 50, 2) := by decide +kernel
theorem dX10_bandNow_39 : decode cX10_bandNow 39 = .ok (.if_icmp .lt 7, 3) := by decide +kernel
theorem dX10_bandNow_42 : decode cX10_bandNow 42 = .ok (.iconst 3, 1) := by decide +kernel
theorem dX10_bandNow_43 : decode cX10_bandNow 43 = .ok (.goto 4, 3) := by decide +kernel
theorem dX10_bandNow_46 : decode cX10_bandNow 46 = .ok (.iconst 4, 1) := by decide +kernel
theorem dX10_bandNow_47 : decode cX10_bandNow 47 = .ok (.ireturn, 1) := by decide +kernel
theorem dX10_partNow_0 : decode cX10_partNow 0 = .ok (.aload_n 0, 1) := by decide +kernel
theorem dX10_partNow_1 : decode cX10_partNow 1 = .ok (.getfield 7, 3) := by decide +kernel
theorem dX10_partNow_4 : decode cX10_partNow 4 = .ok (.bipush 64, 2) := by decide +kernel
theorem dX10_partNow_6 : decode cX10_partNow 6 = .ok (.iconst 3, 1) := by decide +kernel
theorem dX10_partNow_7 : decode cX10_partNow 7 = .ok (.aload_n 0, 1) := by decide +kernel
theorem dX10_partNow_8 : decode cX10_partNow 8 = .ok (.iload_n 1, 1) := by decide +kernel
theorem dX10_partNow_9 : decode cX10_partNow 9 = .ok (.invokevirtual 78, 3) := by decide +kernel
theorem dX10_partNow_12 : decode cX10_partNow 12 = .ok (.imul, 1) := by decide +kernel
theorem dX10_partNow_13 : decode cX10_partNow 13 = .ok (.iadd, 1) := by decide +kernel
theorem dX10_partNow_14 : decode cX10_partNow 14 = .ok (.iaload, 1) := by decide +kernel
theorem dX10_partNow_15 : decode cX10_partNow 15 = .ok (.ireturn, 1) := by decide +kernel
theorem dX10_isDisputed_0 : decode cX10_isDisputed 0 = .ok (.aload_n 0, 1) := by decide +kernel
theorem dX10_isDisputed_1 : decode cX10_isDisputed 1 = .ok (.getfield 7, 3) := by decide +kernel
theorem dX10_isDisputed_4 : decode cX10_isDisputed 4 = .ok (.bipush 56, 2) := by decide +kernel
theorem dX10_isDisputed_6 : decode cX10_isDisputed 6 = .ok (.iload_n 1, 1) := by decide +kernel
theorem dX10_isDisputed_7 : decode cX10_isDisputed 7 = .ok (.iadd, 1) := by decide +kernel
theorem dX10_isDisputed_8 : decode cX10_isDisputed 8 = .ok (.iaload, 1) := by decide +kernel
theorem dX10_isDisputed_9 : decode cX10_isDisputed 9 = .ok (.iconst (-1), 1) := by decide +kernel
theorem dX10_isDisputed_10 : decode cX10_isDisputed 10 = .ok (.if_icmp .eq 5, 3) := by decide +kernel
theorem dX10_isDisputed_13 : decode cX10_isDisputed 13 = .ok (.iconst 0, 1) := by decide +kernel
theorem dX10_isDisputed_14 : decode cX10_isDisputed 14 = .ok (.ireturn, 1) := by decide +kernel
theorem dX10_isDisputed_15 : decode cX10_isDisputed 15 = .ok (.aload_n 0, 1) := by decide +kernel
theorem dX10_isDisputed_16 : decode cX10_isDisputed 16 = .ok (.iload_n 1, 1) := by decide +kernel
theorem dX10_isDisputed_17 : decode cX10_isDisputed 17 = .ok (.invokevirtual 81, 3) := by decide +kernel
theorem dX10_isDisputed_20 : decode cX10_isDisputed 20 = .ok (.iconst 1, 1) := by decide +kernel
theorem dX10_isDisputed_21 : decode cX10_isDisputed 21 = .ok (.if_icmp .le 7, 3) := by decide +kernel
theorem dX10_isDisputed_24 : decode cX10_isDisputed 24 = .ok (.iconst 1, 1) := by decide +kernel
theorem dX10_isDisputed_25 : decode cX10_isDisputed 25 = .ok (.goto 4, 3) := by decide +kernel
theorem dX10_isDisputed_28 : decode cX10_isDisputed 28 = .ok (.iconst 0, 1) := by decide +kernel
theorem dX10_isDisputed_29 : decode cX10_isDisputed 29 = .ok (.ireturn, 1) := by decide +kernel
theorem dX10_unlike_0 : decode cX10_unlike 0 = .ok (.iconst 0, 1) := by decide +kernel
theorem dX10_unlike_1 : decode cX10_unlike 1 = .ok (.istore_n 2, 1) := by decide +kernel
theorem dX10_unlike_2 : decode cX10_unlike 2 = .ok (.iconst 0, 1) := by decide +kernel
theorem dX10_unlike_3 : decode cX10_unlike 3 = .ok (.istore_n 3, 1) := by decide +kernel
theorem dX10_unlike_4 : decode cX10_unlike 4 = .ok (.iconst 0, 1) := by decide +kernel
theorem dX10_unlike_5 : decode cX10_unlike 5 = .ok (.istore 4, 2) := by decide +kernel
theorem dX10_unlike_7 : decode cX10_unlike 7 = .ok (.iload 4, 2) := by decide +kernel
theorem dX10_unlike_9 : decode cX10_unlike 9 = .ok (.iconst 4, 1) := by decide +kernel
theorem dX10_unlike_10 : decode cX10_unlike 10 = .ok (.if_icmp .ge 62, 3) := by decide +kernel
theorem dX10_unlike_13 : decode cX10_unlike 13 = .ok (.aload_n 0, 1) := by decide +kernel
theorem dX10_unlike_14 : decode cX10_unlike 14 = .ok (.getfield 7, 3) := by decide +kernel
theorem dX10_unlike_17 : decode cX10_unlike 17 = .ok (.iload_n 1, 1) := by decide +kernel
theorem dX10_unlike_18 : decode cX10_unlike 18 = .ok (.iload 4, 2) := by decide +kernel
theorem dX10_unlike_20 : decode cX10_unlike 20 = .ok (.invokestatic 84, 3) := by decide +kernel
theorem dX10_unlike_23 : decode cX10_unlike 23 = .ok (.iaload, 1) := by decide +kernel
theorem dX10_unlike_24 : decode cX10_unlike 24 = .ok (.istore 5, 2) := by decide +kernel
theorem dX10_unlike_26 : decode cX10_unlike 26 = .ok (.iload_n 3, 1) := by decide +kernel
theorem dX10_unlike_27 : decode cX10_unlike 27 = .ok (.iload 5, 2) := by decide +kernel
theorem dX10_unlike_29 : decode cX10_unlike 29 = .ok (.iconst (-1), 1) := by decide +kernel
theorem dX10_unlike_30 : decode cX10_unlike 30 = .ok (.if_icmp .eq 16, 3) := by decide +kernel
theorem dX10_unlike_33 : decode cX10_unlike 33 = .ok (.iload_n 2, 1) := by decide +kernel
theorem dX10_unlike_34 : decode cX10_unlike 34 = .ok (.iload 5, 2) := by decide +kernel
theorem dX10_unlike_36 : decode cX10_unlike 36 = .ok (.ishr, 1) := by decide +kernel
theorem dX10_unlike_37 : decode cX10_unlike 37 = .ok (.iconst 1, 1) := by decide +kernel
theorem dX10_unlike_38 : decode cX10_unlike 38 = .ok (.iand, 1) := by decide +kernel
theorem dX10_unlike_39 : decode cX10_unlike 39 = .ok (.ifCond .ne 7, 3) := by decide +kernel
theorem dX10_unlike_42 : decode cX10_unlike 42 = .ok (.iconst 1, 1) := by decide +kernel
theorem dX10_unlike_43 : decode cX10_unlike 43 = .ok (.goto 4, 3) := by decide +kernel
theorem dX10_unlike_46 : decode cX10_unlike 46 = .ok (.iconst 0, 1) := by decide +kernel
theorem dX10_unlike_47 : decode cX10_unlike 47 = .ok (.iadd, 1) := by decide +kernel
theorem dX10_unlike_48 : decode cX10_unlike 48 = .ok (.istore_n 3, 1) := by decide +kernel
theorem dX10_unlike_49 : decode cX10_unlike 49 = .ok (.iload_n 2, 1) := by decide +kernel
theorem dX10_unlike_50 : decode cX10_unlike 50 = .ok (.iload 5, 2) := by decide +kernel
theorem dX10_unlike_52 : decode cX10_unlike 52 = .ok (.iconst (-1), 1) := by decide +kernel
theorem dX10_unlike_53 : decode cX10_unlike 53 = .ok (.if_icmp .ne 7, 3) := by decide +kernel
theorem dX10_unlike_56 : decode cX10_unlike 56 = .ok (.iconst 0, 1) := by decide +kernel
theorem dX10_unlike_57 : decode cX10_unlike 57 = .ok (.goto 7, 3) := by decide +kernel
theorem dX10_unlike_60 : decode cX10_unlike 60 = .ok (.iconst 1, 1) := by decide +kernel
theorem dX10_unlike_61 : decode cX10_unlike 61 = .ok (.iload 5, 2) := by decide +kernel
theorem dX10_unlike_63 : decode cX10_unlike 63 = .ok (.ishl, 1) := by decide +kernel
theorem dX10_unlike_64 : decode cX10_unlike 64 = .ok (.ior, 1) := by decide +kernel
theorem dX10_unlike_65 : decode cX10_unlike 65 = .ok (.istore_n 2, 1) := by decide +kernel
theorem dX10_unlike_66 : decode cX10_unlike 66 = .ok (.iinc 4 1, 3) := by decide +kernel
theorem dX10_unlike_69 : decode cX10_unlike 69 = .ok (.goto (-62), 3) := by decide +kernel
theorem dX10_unlike_72 : decode cX10_unlike 72 = .ok (.iload_n 3, 1) := by decide +kernel
theorem dX10_unlike_73 : decode cX10_unlike 73 = .ok (.ireturn, 1) := by decide +kernel
theorem dX10_hasDisputed_0 : decode cX10_hasDisputed 0 = .ok (.iconst 0, 1) := by decide +kernel
theorem dX10_hasDisputed_1 : decode cX10_hasDisputed 1 = .ok (.istore_n 2, 1) := by decide +kernel
theorem dX10_hasDisputed_2 : decode cX10_hasDisputed 2 = .ok (.iconst 0, 1) := by decide +kernel
theorem dX10_hasDisputed_3 : decode cX10_hasDisputed 3 = .ok (.istore_n 3, 1) := by decide +kernel
theorem dX10_hasDisputed_4 : decode cX10_hasDisputed 4 = .ok (.iload_n 3, 1) := by decide +kernel
theorem dX10_hasDisputed_5 : decode cX10_hasDisputed 5 = .ok (.aload_n 0, 1) := by decide +kernel
theorem dX10_hasDisputed_6 : decode cX10_hasDisputed 6 = .ok (.getfield 7, 3) := by decide +kernel
theorem dX10_hasDisputed_9 : decode cX10_hasDisputed 9 = .ok (.iload_n 1, 1) := by decide +kernel
theorem dX10_hasDisputed_10 : decode cX10_hasDisputed 10 = .ok (.invokestatic 45, 3) := by decide +kernel
theorem dX10_hasDisputed_13 : decode cX10_hasDisputed 13 = .ok (.iaload, 1) := by decide +kernel
theorem dX10_hasDisputed_14 : decode cX10_hasDisputed 14 = .ok (.if_icmp .ge 40, 3) := by decide +kernel
theorem dX10_hasDisputed_17 : decode cX10_hasDisputed 17 = .ok (.iload_n 2, 1) := by decide +kernel
theorem dX10_hasDisputed_18 : decode cX10_hasDisputed 18 = .ok (.ifCond .ne 24, 3) := by decide +kernel
theorem dX10_hasDisputed_21 : decode cX10_hasDisputed 21 = .ok (.aload_n 0, 1) := by decide +kernel
theorem dX10_hasDisputed_22 : decode cX10_hasDisputed 22 = .ok (.aload_n 0, 1) := by decide +kernel
theorem dX10_hasDisputed_23 : decode cX10_hasDisputed 23 = .ok (.getfield 7, 3) := by decide +kernel
theorem dX10_hasDisputed_26 : decode cX10_hasDisputed 26 = .ok (.iload_n 1, 1) := by decide +kernel
theorem dX10_hasDisputed_27 : decode cX10_hasDisputed 27 = .ok (.invokestatic 45, 3) := by decide +kernel
theorem dX10_hasDisputed_30 : decode cX10_hasDisputed 30 = .ok (.bipush 10, 2) := by decide +kernel
theorem dX10_hasDisputed_32 : decode cX10_hasDisputed 32 = .ok (.iadd, 1) := by decide +kernel
theorem dX10_hasDisputed_33 : decode cX10_hasDisputed 33 = .ok (.iload_n 3, 1) := by decide +kernel
theorem dX10_hasDisputed_34 : decode cX10_hasDisputed 34 = .ok (.iadd, 1) := by decide +kernel
theorem dX10_hasDisputed_35 : decode cX10_hasDisputed 35 = .ok (.iaload, 1) := by decide +kernel
theorem dX10_hasDisputed_36 : decode cX10_hasDisputed 36 = .ok (.invokevirtual 88, 3) := by decide +kernel
theorem dX10_hasDisputed_39 : decode cX10_hasDisputed 39 = .ok (.ifCond .eq 7, 3) := by decide +kernel
theorem dX10_hasDisputed_42 : decode cX10_hasDisputed 42 = .ok (.iconst 1, 1) := by decide +kernel
theorem dX10_hasDisputed_43 : decode cX10_hasDisputed 43 = .ok (.goto 4, 3) := by decide +kernel
theorem dX10_hasDisputed_46 : decode cX10_hasDisputed 46 = .ok (.iconst 0, 1) := by decide +kernel
theorem dX10_hasDisputed_47 : decode cX10_hasDisputed 47 = .ok (.istore_n 2, 1) := by decide +kernel
theorem dX10_hasDisputed_48 : decode cX10_hasDisputed 48 = .ok (.iinc 3 1, 3) := by decide +kernel
theorem dX10_hasDisputed_51 : decode cX10_hasDisputed 51 = .ok (.goto (-47), 3) := by decide +kernel
theorem dX10_hasDisputed_54 : decode cX10_hasDisputed 54 = .ok (.iload_n 2, 1) := by decide +kernel
theorem dX10_hasDisputed_55 : decode cX10_hasDisputed 55 = .ok (.ireturn, 1) := by decide +kernel
theorem dX10_rate_0 : decode cX10_rate 0 = .ok (.aload_n 0, 1) := by decide +kernel
theorem dX10_rate_1 : decode cX10_rate 1 = .ok (.iconst 0, 1) := by decide +kernel
theorem dX10_rate_2 : decode cX10_rate 2 = .ok (.putfield 34, 3) := by decide +kernel
theorem dX10_rate_5 : decode cX10_rate 5 = .ok (.iload_n 1, 1) := by decide +kernel
theorem dX10_rate_6 : decode cX10_rate 6 = .ok (.invokestatic 92, 3) := by decide +kernel
theorem dX10_rate_9 : decode cX10_rate 9 = .ok (.ifCond .ne 9, 3) := by decide +kernel
theorem dX10_rate_12 : decode cX10_rate 12 = .ok (.aload_n 0, 1) := by decide +kernel
theorem dX10_rate_13 : decode cX10_rate 13 = .ok (.iconst 1, 1) := by decide +kernel
theorem dX10_rate_14 : decode cX10_rate 14 = .ok (.invokevirtual 95, 3) := by decide +kernel
theorem dX10_rate_17 : decode cX10_rate 17 = .ok (.ireturn, 1) := by decide +kernel
theorem dX10_rate_18 : decode cX10_rate 18 = .ok (.iload_n 2, 1) := by decide +kernel
theorem dX10_rate_19 : decode cX10_rate 19 = .ok (.iconst 1, 1) := by decide +kernel
theorem dX10_rate_20 : decode cX10_rate 20 = .ok (.bipush 99, 2) := by decide +kernel
theorem dX10_rate_22 : decode cX10_rate 22 = .ok (.invokestatic 41, 3) := by decide +kernel
theorem dX10_rate_25 : decode cX10_rate 25 = .ok (.ifCond .ne 9, 3) := by decide +kernel
theorem dX10_rate_28 : decode cX10_rate 28 = .ok (.aload_n 0, 1) := by decide +kernel
theorem dX10_rate_29 : decode cX10_rate 29 = .ok (.iconst 2, 1) := by decide +kernel
theorem dX10_rate_30 : decode cX10_rate 30 = .ok (.invokevirtual 95, 3) := by decide +kernel
theorem dX10_rate_33 : decode cX10_rate 33 = .ok (.ireturn, 1) := by decide +kernel
theorem dX10_rate_34 : decode cX10_rate 34 = .ok (.aload_n 0, 1) := by decide +kernel
theorem dX10_rate_35 : decode cX10_rate 35 = .ok (.invokevirtual 98, 3) := by decide +kernel
theorem dX10_rate_38 : decode cX10_rate 38 = .ok (.aload_n 0, 1) := by decide +kernel
theorem dX10_rate_39 : decode cX10_rate 39 = .ok (.getfield 7, 3) := by decide +kernel
theorem dX10_rate_42 : decode cX10_rate 42 = .ok (.iload_n 1, 1) := by decide +kernel
theorem dX10_rate_43 : decode cX10_rate 43 = .ok (.invokestatic 101, 3) := by decide +kernel
theorem dX10_rate_46 : decode cX10_rate 46 = .ok (.iaload, 1) := by decide +kernel
theorem dX10_rate_47 : decode cX10_rate 47 = .ok (.istore_n 3, 1) := by decide +kernel
theorem dX10_rate_48 : decode cX10_rate 48 = .ok (.aload_n 0, 1) := by decide +kernel
theorem dX10_rate_49 : decode cX10_rate 49 = .ok (.getfield 7, 3) := by decide +kernel
theorem dX10_rate_52 : decode cX10_rate 52 = .ok (.iload_n 1, 1) := by decide +kernel
theorem dX10_rate_53 : decode cX10_rate 53 = .ok (.invokestatic 101, 3) := by decide +kernel
theorem dX10_rate_56 : decode cX10_rate 56 = .ok (.iload_n 2, 1) := by decide +kernel
theorem dX10_rate_57 : decode cX10_rate 57 = .ok (.iastore, 1) := by decide +kernel
theorem dX10_rate_58 : decode cX10_rate 58 = .ok (.iload_n 3, 1) := by decide +kernel
theorem dX10_rate_59 : decode cX10_rate 59 = .ok (.ireturn, 1) := by decide +kernel
theorem dX10_pays_0 : decode cX10_pays 0 = .ok (.aload_n 0, 1) := by decide +kernel
theorem dX10_pays_1 : decode cX10_pays 1 = .ok (.iconst 0, 1) := by decide +kernel
theorem dX10_pays_2 : decode cX10_pays 2 = .ok (.putfield 34, 3) := by decide +kernel
theorem dX10_pays_5 : decode cX10_pays 5 = .ok (.iload_n 1, 1) := by decide +kernel
theorem dX10_pays_6 : decode cX10_pays 6 = .ok (.invokestatic 104, 3) := by decide +kernel
theorem dX10_pays_9 : decode cX10_pays 9 = .ok (.ifCond .ne 9, 3) := by decide +kernel
theorem dX10_pays_12 : decode cX10_pays 12 = .ok (.aload_n 0, 1) := by decide +kernel
theorem dX10_pays_13 : decode cX10_pays 13 = .ok (.iconst 1, 1) := by decide +kernel
theorem dX10_pays_14 : decode cX10_pays 14 = .ok (.invokevirtual 95, 3) := by decide +kernel
theorem dX10_pays_17 : decode cX10_pays 17 = .ok (.ireturn, 1) := by decide +kernel
theorem dX10_pays_18 : decode cX10_pays 18 = .ok (.iload_n 2, 1) := by decide +kernel
theorem dX10_pays_19 : decode cX10_pays 19 = .ok (.iconst 0, 1) := by decide +kernel
theorem dX10_pays_20 : decode cX10_pays 20 = .ok (.bipush 100, 2) := by decide +kernel
theorem dX10_pays_22 : decode cX10_pays 22 = .ok (.invokestatic 41, 3) := by decide +kernel
theorem dX10_pays_25 : decode cX10_pays 25 = .ok (.ifCond .ne 9, 3) := by decide +kernel
theorem dX10_pays_28 : decode cX10_pays 28 = .ok (.aload_n 0, 1) := by decide +kernel
theorem dX10_pays_29 : decode cX10_pays 29 = .ok (.iconst 2, 1) := by decide +kernel
theorem dX10_pays_30 : decode cX10_pays 30 = .ok (.invokevirtual 95, 3) := by decide +kernel
theorem dX10_pays_33 : decode cX10_pays 33 = .ok (.ireturn, 1) := by decide +kernel
theorem dX10_pays_34 : decode cX10_pays 34 = .ok (.aload_n 0, 1) := by decide +kernel
theorem dX10_pays_35 : decode cX10_pays 35 = .ok (.invokevirtual 98, 3) := by decide +kernel
theorem dX10_pays_38 : decode cX10_pays 38 = .ok (.aload_n 0, 1) := by decide +kernel
theorem dX10_pays_39 : decode cX10_pays 39 = .ok (.getfield 7, 3) := by decide +kernel
theorem dX10_pays_42 : decode cX10_pays 42 = .ok (.bipush 64, 2) := by decide +kernel
theorem dX10_pays_44 : decode cX10_pays 44 = .ok (.iconst 3, 1) := by decide +kernel
theorem dX10_pays_45 : decode cX10_pays 45 = .ok (.iload_n 1, 1) := by decide +kernel
theorem dX10_pays_46 : decode cX10_pays 46 = .ok (.imul, 1) := by decide +kernel
theorem dX10_pays_47 : decode cX10_pays 47 = .ok (.iadd, 1) := by decide +kernel
theorem dX10_pays_48 : decode cX10_pays 48 = .ok (.iaload, 1) := by decide +kernel
theorem dX10_pays_49 : decode cX10_pays 49 = .ok (.istore_n 3, 1) := by decide +kernel
theorem dX10_pays_50 : decode cX10_pays 50 = .ok (.aload_n 0, 1) := by decide +kernel
theorem dX10_pays_51 : decode cX10_pays 51 = .ok (.getfield 7, 3) := by decide +kernel
theorem dX10_pays_54 : decode cX10_pays 54 = .ok (.bipush 64, 2) := by decide +kernel
theorem dX10_pays_56 : decode cX10_pays 56 = .ok (.iconst 3, 1) := by decide +kernel
theorem dX10_pays_57 : decode cX10_pays 57 = .ok (.iload_n 1, 1) := by decide +kernel
theorem dX10_pays_58 : decode cX10_pays 58 = .ok (.imul, 1) := by decide +kernel
theorem dX10_pays_59 : decode cX10_pays 59 = .ok (.iadd, 1) := by decide +kernel
theorem dX10_pays_60 : decode cX10_pays 60 = .ok (.iload_n 2, 1) := by decide +kernel
theorem dX10_pays_61 : decode cX10_pays 61 = .ok (.iastore, 1) := by decide +kernel
theorem dX10_pays_62 : decode cX10_pays 62 = .ok (.iload_n 3, 1) := by decide +kernel
theorem dX10_pays_63 : decode cX10_pays 63 = .ok (.ireturn, 1) := by decide +kernel
theorem dX10_set_0 : decode cX10_set 0 = .ok (.aload_n 0, 1) := by decide +kernel
theorem dX10_set_1 : decode cX10_set 1 = .ok (.iconst 0, 1) := by decide +kernel
theorem dX10_set_2 : decode cX10_set 2 = .ok (.putfield 34, 3) := by decide +kernel
theorem dX10_set_5 : decode cX10_set 5 = .ok (.iload_n 1, 1) := by decide +kernel
theorem dX10_set_6 : decode cX10_set 6 = .ok (.iconst 0, 1) := by decide +kernel
theorem dX10_set_7 : decode cX10_set 7 = .ok (.iconst 1, 1) := by decide +kernel
theorem dX10_set_8 : decode cX10_set 8 = .ok (.invokestatic 41, 3) := by decide +kernel
theorem dX10_set_11 : decode cX10_set 11 = .ok (.ifCond .ne 9, 3) := by decide +kernel
theorem dX10_set_14 : decode cX10_set 14 = .ok (.aload_n 0, 1) := by decide +kernel
theorem dX10_set_15 : decode cX10_set 15 = .ok (.iconst 1, 1) := by decide +kernel
theorem dX10_set_16 : decode cX10_set 16 = .ok (.invokevirtual 95, 3) := by decide +kernel
theorem dX10_set_19 : decode cX10_set 19 = .ok (.ireturn, 1) := by decide +kernel
theorem dX10_set_20 : decode cX10_set 20 = .ok (.iload_n 2, 1) := by decide +kernel
theorem dX10_set_21 : decode cX10_set 21 = .ok (.iconst 0, 1) := by decide +kernel
theorem dX10_set_22 : decode cX10_set 22 = .ok (.iload_n 1, 1) := by decide +kernel
theorem dX10_set_23 : decode cX10_set 23 = .ok (.ifCond .ne 8, 3) := by decide +kernel
theorem dX10_set_26 : decode cX10_set 26 = .ok (.bipush 100, 2) := by decide +kernel
theorem dX10_set_28 : decode cX10_set 28 = .ok (.goto 6, 3) := by decide +kernel
theorem dX10_set_31 : decode cX10_set 31 = .ok (.sipush 200, 3) := by decide +kernel
theorem dX10_set_34 : decode cX10_set 34 = .ok (.invokestatic 41, 3) := by decide +kernel
theorem dX10_set_37 : decode cX10_set 37 = .ok (.ifCond .ne 9, 3) := by decide +kernel
theorem dX10_set_40 : decode cX10_set 40 = .ok (.aload_n 0, 1) := by decide +kernel
theorem dX10_set_41 : decode cX10_set 41 = .ok (.iconst 2, 1) := by decide +kernel
theorem dX10_set_42 : decode cX10_set 42 = .ok (.invokevirtual 95, 3) := by decide +kernel
theorem dX10_set_45 : decode cX10_set 45 = .ok (.ireturn, 1) := by decide +kernel
theorem dX10_set_46 : decode cX10_set 46 = .ok (.aload_n 0, 1) := by decide +kernel
theorem dX10_set_47 : decode cX10_set 47 = .ok (.invokevirtual 98, 3) := by decide +kernel
theorem dX10_set_50 : decode cX10_set 50 = .ok (.aload_n 0, 1) := by decide +kernel
theorem dX10_set_51 : decode cX10_set 51 = .ok (.getfield 7, 3) := by decide +kernel
theorem dX10_set_54 : decode cX10_set 54 = .ok (.iconst 2, 1) := by decide +kernel
theorem dX10_set_55 : decode cX10_set 55 = .ok (.iload_n 1, 1) := by decide +kernel
theorem dX10_set_56 : decode cX10_set 56 = .ok (.iadd, 1) := by decide +kernel
theorem dX10_set_57 : decode cX10_set 57 = .ok (.iaload, 1) := by decide +kernel
theorem dX10_set_58 : decode cX10_set 58 = .ok (.istore_n 3, 1) := by decide +kernel
theorem dX10_set_59 : decode cX10_set 59 = .ok (.aload_n 0, 1) := by decide +kernel
theorem dX10_set_60 : decode cX10_set 60 = .ok (.getfield 7, 3) := by decide +kernel
theorem dX10_set_63 : decode cX10_set 63 = .ok (.iconst 2, 1) := by decide +kernel
theorem dX10_set_64 : decode cX10_set 64 = .ok (.iload_n 1, 1) := by decide +kernel
theorem dX10_set_65 : decode cX10_set 65 = .ok (.iadd, 1) := by decide +kernel
theorem dX10_set_66 : decode cX10_set 66 = .ok (.iload_n 2, 1) := by decide +kernel
theorem dX10_set_67 : decode cX10_set 67 = .ok (.iastore, 1) := by decide +kernel
theorem dX10_set_68 : decode cX10_set 68 = .ok (.iload_n 3, 1) := by decide +kernel
theorem dX10_set_69 : decode cX10_set 69 = .ok (.ireturn, 1) := by decide +kernel
theorem dX10_fix_0 : decode cX10_fix 0 = .ok (.aload_n 0, 1) := by decide +kernel
theorem dX10_fix_1 : decode cX10_fix 1 = .ok (.iload_n 1, 1) := by decide +kernel
theorem dX10_fix_2 : decode cX10_fix 2 = .ok (.invokevirtual 78, 3) := by decide +kernel
theorem dX10_fix_5 : decode cX10_fix 5 = .ok (.istore_n 2, 1) := by decide +kernel
theorem dX10_fix_6 : decode cX10_fix 6 = .ok (.aload_n 0, 1) := by decide +kernel
theorem dX10_fix_7 : decode cX10_fix 7 = .ok (.getfield 7, 3) := by decide +kernel
theorem dX10_fix_10 : decode cX10_fix 10 = .ok (.iload_n 1, 1) := by decide +kernel
theorem dX10_fix_11 : decode cX10_fix 11 = .ok (.invokestatic 45, 3) := by decide +kernel
theorem dX10_fix_14 : decode cX10_fix 14 = .ok (.iconst 3, 1) := by decide +kernel
theorem dX10_fix_15 : decode cX10_fix 15 = .ok (.iadd, 1) := by decide +kernel
theorem dX10_fix_16 : decode cX10_fix 16 = .ok (.iload_n 2, 1) := by decide +kernel
theorem dX10_fix_17 : decode cX10_fix 17 = .ok (.iastore, 1) := by decide +kernel
theorem dX10_fix_18 : decode cX10_fix 18 = .ok (.aload_n 0, 1) := by decide +kernel
theorem dX10_fix_19 : decode cX10_fix 19 = .ok (.getfield 7, 3) := by decide +kernel
theorem dX10_fix_22 : decode cX10_fix 22 = .ok (.iload_n 1, 1) := by decide +kernel
theorem dX10_fix_23 : decode cX10_fix 23 = .ok (.invokestatic 45, 3) := by decide +kernel
theorem dX10_fix_26 : decode cX10_fix 26 = .ok (.iconst 4, 1) := by decide +kernel
theorem dX10_fix_27 : decode cX10_fix 27 = .ok (.iadd, 1) := by decide +kernel
theorem dX10_fix_28 : decode cX10_fix 28 = .ok (.aload_n 0, 1) := by decide +kernel
theorem dX10_fix_29 : decode cX10_fix 29 = .ok (.getfield 7, 3) := by decide +kernel
theorem dX10_fix_32 : decode cX10_fix 32 = .ok (.bipush 64, 2) := by decide +kernel
theorem dX10_fix_34 : decode cX10_fix 34 = .ok (.iconst 3, 1) := by decide +kernel
theorem dX10_fix_35 : decode cX10_fix 35 = .ok (.iload_n 2, 1) := by decide +kernel
theorem dX10_fix_36 : decode cX10_fix 36 = .ok (.imul, 1) := by decide +kernel
theorem dX10_fix_37 : decode cX10_fix 37 = .ok (.iadd, 1) := by decide +kernel
theorem dX10_fix_38 : decode cX10_fix 38 = .ok (.iaload, 1) := by decide +kernel
theorem dX10_fix_39 : decode cX10_fix 39 = .ok (.iastore, 1) := by decide +kernel
theorem dX10_fix_40 : decode cX10_fix 40 = .ok (.return_, 1) := by decide +kernel
theorem dX10_assign_0 : decode cX10_assign 0 = .ok (.aload_n 0, 1) := by decide +kernel
theorem dX10_assign_1 : decode cX10_assign 1 = .ok (.iconst 0, 1) := by decide +kernel
theorem dX10_assign_2 : decode cX10_assign 2 = .ok (.putfield 34, 3) := by decide +kernel
theorem dX10_assign_5 : decode cX10_assign 5 = .ok (.aload_n 0, 1) := by decide +kernel
theorem dX10_assign_6 : decode cX10_assign 6 = .ok (.iload_n 1, 1) := by decide +kernel
theorem dX10_assign_7 : decode cX10_assign 7 = .ok (.invokevirtual 107, 3) := by decide +kernel
theorem dX10_assign_10 : decode cX10_assign 10 = .ok (.ifCond .eq 10, 3) := by decide +kernel
theorem dX10_assign_13 : decode cX10_assign 13 = .ok (.iload_n 2, 1) := by decide +kernel
theorem dX10_assign_14 : decode cX10_assign 14 = .ok (.invokestatic 92, 3) := by decide +kernel
theorem dX10_assign_17 : decode cX10_assign 17 = .ok (.ifCond .ne 9, 3) := by decide +kernel
theorem dX10_assign_20 : decode cX10_assign 20 = .ok (.aload_n 0, 1) := by decide +kernel
theorem dX10_assign_21 : decode cX10_assign 21 = .ok (.iconst 1, 1) := by decide +kernel
theorem dX10_assign_22 : decode cX10_assign 22 = .ok (.invokevirtual 95, 3) := by decide +kernel
theorem dX10_assign_25 : decode cX10_assign 25 = .ok (.ireturn, 1) := by decide +kernel
theorem dX10_assign_26 : decode cX10_assign 26 = .ok (.aload_n 0, 1) := by decide +kernel
theorem dX10_assign_27 : decode cX10_assign 27 = .ok (.getfield 7, 3) := by decide +kernel
theorem dX10_assign_30 : decode cX10_assign 30 = .ok (.iload_n 1, 1) := by decide +kernel
theorem dX10_assign_31 : decode cX10_assign 31 = .ok (.invokestatic 45, 3) := by decide +kernel
theorem dX10_assign_34 : decode cX10_assign 34 = .ok (.iconst 1, 1) := by decide +kernel
theorem dX10_assign_35 : decode cX10_assign 35 = .ok (.iadd, 1) := by decide +kernel
theorem dX10_assign_36 : decode cX10_assign 36 = .ok (.iaload, 1) := by decide +kernel
theorem dX10_assign_37 : decode cX10_assign 37 = .ok (.ifCond .eq 9, 3) := by decide +kernel
theorem dX10_assign_40 : decode cX10_assign 40 = .ok (.aload_n 0, 1) := by decide +kernel
theorem dX10_assign_41 : decode cX10_assign 41 = .ok (.iconst 2, 1) := by decide +kernel
theorem dX10_assign_42 : decode cX10_assign 42 = .ok (.invokevirtual 95, 3) := by decide +kernel
theorem dX10_assign_45 : decode cX10_assign 45 = .ok (.ireturn, 1) := by decide +kernel
theorem dX10_assign_46 : decode cX10_assign 46 = .ok (.aload_n 0, 1) := by decide +kernel
theorem dX10_assign_47 : decode cX10_assign 47 = .ok (.invokevirtual 98, 3) := by decide +kernel
theorem dX10_assign_50 : decode cX10_assign 50 = .ok (.aload_n 0, 1) := by decide +kernel
theorem dX10_assign_51 : decode cX10_assign 51 = .ok (.getfield 7, 3) := by decide +kernel
theorem dX10_assign_54 : decode cX10_assign 54 = .ok (.iload_n 1, 1) := by decide +kernel
theorem dX10_assign_55 : decode cX10_assign 55 = .ok (.invokestatic 45, 3) := by decide +kernel
theorem dX10_assign_58 : decode cX10_assign 58 = .ok (.iconst 1, 1) := by decide +kernel
theorem dX10_assign_59 : decode cX10_assign 59 = .ok (.iadd, 1) := by decide +kernel
theorem dX10_assign_60 : decode cX10_assign 60 = .ok (.iconst 1, 1) := by decide +kernel
theorem dX10_assign_61 : decode cX10_assign 61 = .ok (.iastore, 1) := by decide +kernel
theorem dX10_assign_62 : decode cX10_assign 62 = .ok (.aload_n 0, 1) := by decide +kernel
theorem dX10_assign_63 : decode cX10_assign 63 = .ok (.getfield 7, 3) := by decide +kernel
theorem dX10_assign_66 : decode cX10_assign 66 = .ok (.iload_n 1, 1) := by decide +kernel
theorem dX10_assign_67 : decode cX10_assign 67 = .ok (.invokestatic 45, 3) := by decide +kernel
theorem dX10_assign_70 : decode cX10_assign 70 = .ok (.iconst 2, 1) := by decide +kernel
theorem dX10_assign_71 : decode cX10_assign 71 = .ok (.iadd, 1) := by decide +kernel
theorem dX10_assign_72 : decode cX10_assign 72 = .ok (.iload_n 2, 1) := by decide +kernel
theorem dX10_assign_73 : decode cX10_assign 73 = .ok (.iastore, 1) := by decide +kernel
theorem dX10_assign_74 : decode cX10_assign 74 = .ok (.aload_n 0, 1) := by decide +kernel
theorem dX10_assign_75 : decode cX10_assign 75 = .ok (.iload_n 1, 1) := by decide +kernel
theorem dX10_assign_76 : decode cX10_assign 76 = .ok (.invokevirtual 110, 3) := by decide +kernel
theorem dX10_assign_79 : decode cX10_assign 79 = .ok (.aload_n 0, 1) := by decide +kernel
theorem dX10_assign_80 : decode cX10_assign 80 = .ok (.getfield 7, 3) := by decide +kernel
theorem dX10_assign_83 : decode cX10_assign 83 = .ok (.iload_n 1, 1) := by decide +kernel
theorem dX10_assign_84 : decode cX10_assign 84 = .ok (.invokestatic 45, 3) := by decide +kernel
theorem dX10_assign_87 : decode cX10_assign 87 = .ok (.iconst 3, 1) := by decide +kernel
theorem dX10_assign_88 : decode cX10_assign 88 = .ok (.iadd, 1) := by decide +kernel
theorem dX10_assign_89 : decode cX10_assign 89 = .ok (.iaload, 1) := by decide +kernel
theorem dX10_assign_90 : decode cX10_assign 90 = .ok (.ireturn, 1) := by decide +kernel
theorem dX10_remember_0 : decode cX10_remember 0 = .ok (.aload_n 0, 1) := by decide +kernel
theorem dX10_remember_1 : decode cX10_remember 1 = .ok (.getfield 7, 3) := by decide +kernel
theorem dX10_remember_4 : decode cX10_remember 4 = .ok (.iconst 1, 1) := by decide +kernel
theorem dX10_remember_5 : decode cX10_remember 5 = .ok (.iaload, 1) := by decide +kernel
theorem dX10_remember_6 : decode cX10_remember 6 = .ok (.bipush 30, 2) := by decide +kernel
theorem dX10_remember_8 : decode cX10_remember 8 = .ok (.if_icmp .ne 47, 3) := by decide +kernel
theorem dX10_remember_11 : decode cX10_remember 11 = .ok (.sipush 299, 3) := by decide +kernel
theorem dX10_remember_14 : decode cX10_remember 14 = .ok (.istore_n 2, 1) := by decide +kernel
theorem dX10_remember_15 : decode cX10_remember 15 = .ok (.iload_n 2, 1) := by decide +kernel
theorem dX10_remember_16 : decode cX10_remember 16 = .ok (.bipush 29, 2) := by decide +kernel
theorem dX10_remember_18 : decode cX10_remember 18 = .ok (.invokestatic 55, 3) := by decide +kernel
theorem dX10_remember_21 : decode cX10_remember 21 = .ok (.if_icmp .ge 24, 3) := by decide +kernel
theorem dX10_remember_24 : decode cX10_remember 24 = .ok (.aload_n 0, 1) := by decide +kernel
theorem dX10_remember_25 : decode cX10_remember 25 = .ok (.getfield 7, 3) := by decide +kernel
theorem dX10_remember_28 : decode cX10_remember 28 = .ok (.iload_n 2, 1) := by decide +kernel
theorem dX10_remember_29 : decode cX10_remember 29 = .ok (.aload_n 0, 1) := by decide +kernel
theorem dX10_remember_30 : decode cX10_remember 30 = .ok (.getfield 7, 3) := by decide +kernel
theorem dX10_remember_33 : decode cX10_remember 33 = .ok (.iload_n 2, 1) := by decide +kernel
theorem dX10_remember_34 : decode cX10_remember 34 = .ok (.bipush 13, 2) := by decide +kernel
theorem dX10_remember_36 : decode cX10_remember 36 = .ok (.iadd, 1) := by decide +kernel
theorem dX10_remember_37 : decode cX10_remember 37 = .ok (.iaload, 1) := by decide +kernel
theorem dX10_remember_38 : decode cX10_remember 38 = .ok (.iastore, 1) := by decide +kernel
theorem dX10_remember_39 : decode cX10_remember 39 = .ok (.iinc 2 1, 3) := by decide +kernel
theorem dX10_remember_42 : decode cX10_remember 42 = .ok (.goto (-27), 3) := by decide +kernel
theorem dX10_remember_45 : decode cX10_remember 45 = .ok (.aload_n 0, 1) := by decide +kernel
theorem dX10_remember_46 : decode cX10_remember 46 = .ok (.getfield 7, 3) := by decide +kernel
theorem dX10_remember_49 : decode cX10_remember 49 = .ok (.iconst 1, 1) := by decide +kernel
theorem dX10_remember_50 : decode cX10_remember 50 = .ok (.dup2, 1) := by decide +kernel
theorem dX10_remember_51 : decode cX10_remember 51 = .ok (.iaload, 1) := by decide +kernel
theorem dX10_remember_52 : decode cX10_remember 52 = .ok (.iconst 1, 1) := by decide +kernel
theorem dX10_remember_53 : decode cX10_remember 53 = .ok (.isub, 1) := by decide +kernel
theorem dX10_remember_54 : decode cX10_remember 54 = .ok (.iastore, 1) := by decide +kernel
theorem dX10_remember_55 : decode cX10_remember 55 = .ok (.aload_n 0, 1) := by decide +kernel
theorem dX10_remember_56 : decode cX10_remember 56 = .ok (.getfield 7, 3) := by decide +kernel
theorem dX10_remember_59 : decode cX10_remember 59 = .ok (.iconst 1, 1) := by decide +kernel
theorem dX10_remember_60 : decode cX10_remember 60 = .ok (.iaload, 1) := by decide +kernel
theorem dX10_remember_61 : decode cX10_remember 61 = .ok (.invokestatic 55, 3) := by decide +kernel
theorem dX10_remember_64 : decode cX10_remember 64 = .ok (.istore_n 2, 1) := by decide +kernel
theorem dX10_remember_65 : decode cX10_remember 65 = .ok (.aload_n 0, 1) := by decide +kernel
theorem dX10_remember_66 : decode cX10_remember 66 = .ok (.getfield 7, 3) := by decide +kernel
theorem dX10_remember_69 : decode cX10_remember 69 = .ok (.iload_n 2, 1) := by decide +kernel
theorem dX10_remember_70 : decode cX10_remember 70 = .ok (.aload_n 0, 1) := by decide +kernel
theorem dX10_remember_71 : decode cX10_remember 71 = .ok (.getfield 7, 3) := by decide +kernel
theorem dX10_remember_74 : decode cX10_remember 74 = .ok (.iload_n 1, 1) := by decide +kernel
theorem dX10_remember_75 : decode cX10_remember 75 = .ok (.invokestatic 45, 3) := by decide +kernel
theorem dX10_remember_78 : decode cX10_remember 78 = .ok (.iaload, 1) := by decide +kernel
theorem dX10_remember_79 : decode cX10_remember 79 = .ok (.iastore, 1) := by decide +kernel
theorem dX10_remember_80 : decode cX10_remember 80 = .ok (.iconst 0, 1) := by decide +kernel
theorem dX10_remember_81 : decode cX10_remember 81 = .ok (.istore_n 3, 1) := by decide +kernel
theorem dX10_remember_82 : decode cX10_remember 82 = .ok (.iload_n 3, 1) := by decide +kernel
theorem dX10_remember_83 : decode cX10_remember 83 = .ok (.bipush 12, 2) := by decide +kernel
theorem dX10_remember_85 : decode cX10_remember 85 = .ok (.if_icmp .ge 33, 3) := by decide +kernel
theorem dX10_remember_88 : decode cX10_remember 88 = .ok (.aload_n 0, 1) := by decide +kernel
theorem dX10_remember_89 : decode cX10_remember 89 = .ok (.getfield 7, 3) := by decide +kernel
theorem dX10_remember_92 : decode cX10_remember 92 = .ok (.iload_n 2, 1) := by decide +kernel
theorem dX10_remember_93 : decode cX10_remember 93 = .ok (.iconst 1, 1) := by decide +kernel
theorem dX10_remember_94 : decode cX10_remember 94 = .ok (.iadd, 1) := by decide +kernel
theorem dX10_remember_95 : decode cX10_remember 95 = .ok (.iload_n 3, 1) := by decide +kernel
theorem dX10_remember_96 : decode cX10_remember 96 = .ok (.iadd, 1) := by decide +kernel
theorem dX10_remember_97 : decode cX10_remember 97 = .ok (.aload_n 0, 1) := by decide +kernel
theorem dX10_remember_98 : decode cX10_remember 98 = .ok (.getfield 7, 3) := by decide +kernel
theorem dX10_remember_101 : decode cX10_remember 101 = .ok (.iload_n 1, 1) := by decide +kernel
theorem dX10_remember_102 : decode cX10_remember 102 = .ok (.invokestatic 45, 3) := by decide +kernel
theorem dX10_remember_105 : decode cX10_remember 105 = .ok (.bipush 10, 2) := by decide +kernel
theorem dX10_remember_107 : decode cX10_remember 107 = .ok (.iadd, 1) := by decide +kernel
theorem dX10_remember_108 : decode cX10_remember 108 = .ok (.iload_n 3, 1) := by decide +kernel
theorem dX10_remember_109 : decode cX10_remember 109 = .ok (.iadd, 1) := by decide +kernel
theorem dX10_remember_110 : decode cX10_remember 110 = .ok (.iaload, 1) := by decide +kernel
theorem dX10_remember_111 : decode cX10_remember 111 = .ok (.iastore, 1) := by decide +kernel
theorem dX10_remember_112 : decode cX10_remember 112 = .ok (.iinc 3 1, 3) := by decide +kernel
theorem dX10_remember_115 : decode cX10_remember 115 = .ok (.goto (-33), 3) := by decide +kernel
theorem dX10_remember_118 : decode cX10_remember 118 = .ok (.aload_n 0, 1) := by decide +kernel
theorem dX10_remember_119 : decode cX10_remember 119 = .ok (.getfield 7, 3) := by decide +kernel
theorem dX10_remember_122 : decode cX10_remember 122 = .ok (.iconst 1, 1) := by decide +kernel
theorem dX10_remember_123 : decode cX10_remember 123 = .ok (.dup2, 1) := by decide +kernel
theorem dX10_remember_124 : decode cX10_remember 124 = .ok (.iaload, 1) := by decide +kernel
theorem dX10_remember_125 : decode cX10_remember 125 = .ok (.iconst 1, 1) := by decide +kernel
theorem dX10_remember_126 : decode cX10_remember 126 = .ok (.iadd, 1) := by decide +kernel
theorem dX10_remember_127 : decode cX10_remember 127 = .ok (.iastore, 1) := by decide +kernel
theorem dX10_remember_128 : decode cX10_remember 128 = .ok (.return_, 1) := by decide +kernel
theorem dX10_deliver_0 : decode cX10_deliver 0 = .ok (.aload_n 0, 1) := by decide +kernel
theorem dX10_deliver_1 : decode cX10_deliver 1 = .ok (.iconst 0, 1) := by decide +kernel
theorem dX10_deliver_2 : decode cX10_deliver 2 = .ok (.putfield 34, 3) := by decide +kernel
theorem dX10_deliver_5 : decode cX10_deliver 5 = .ok (.aload_n 0, 1) := by decide +kernel
theorem dX10_deliver_6 : decode cX10_deliver 6 = .ok (.iload_n 1, 1) := by decide +kernel
theorem dX10_deliver_7 : decode cX10_deliver 7 = .ok (.invokevirtual 107, 3) := by decide +kernel
theorem dX10_deliver_10 : decode cX10_deliver 10 = .ok (.ifCond .ne 9, 3) := by decide +kernel
theorem dX10_deliver_13 : decode cX10_deliver 13 = .ok (.aload_n 0, 1) := by decide +kernel
theorem dX10_deliver_14 : decode cX10_deliver 14 = .ok (.iconst 1, 1) := by decide +kernel
theorem dX10_deliver_15 : decode cX10_deliver 15 = .ok (.invokevirtual 95, 3) := by decide +kernel
theorem dX10_deliver_18 : decode cX10_deliver 18 = .ok (.ireturn, 1) := by decide +kernel
theorem dX10_deliver_19 : decode cX10_deliver 19 = .ok (.iload_n 1, 1) := by decide +kernel
theorem dX10_deliver_20 : decode cX10_deliver 20 = .ok (.invokestatic 45, 3) := by decide +kernel
theorem dX10_deliver_23 : decode cX10_deliver 23 = .ok (.istore_n 2, 1) := by decide +kernel
theorem dX10_deliver_24 : decode cX10_deliver 24 = .ok (.aload_n 0, 1) := by decide +kernel
theorem dX10_deliver_25 : decode cX10_deliver 25 = .ok (.getfield 7, 3) := by decide +kernel
theorem dX10_deliver_28 : decode cX10_deliver 28 = .ok (.iload_n 2, 1) := by decide +kernel
theorem dX10_deliver_29 : decode cX10_deliver 29 = .ok (.iconst 1, 1) := by decide +kernel
theorem dX10_deliver_30 : decode cX10_deliver 30 = .ok (.iadd, 1) := by decide +kernel
theorem dX10_deliver_31 : decode cX10_deliver 31 = .ok (.iaload, 1) := by decide +kernel
theorem dX10_deliver_32 : decode cX10_deliver 32 = .ok (.iconst 1, 1) := by decide +kernel
theorem dX10_deliver_33 : decode cX10_deliver 33 = .ok (.if_icmp .ne 11, 3) := by decide +kernel
theorem dX10_deliver_36 : decode cX10_deliver 36 = .ok (.aload_n 0, 1) := by decide +kernel
theorem dX10_deliver_37 : decode cX10_deliver 37 = .ok (.iload_n 1, 1) := by decide +kernel
theorem dX10_deliver_38 : decode cX10_deliver 38 = .ok (.invokevirtual 113, 3) := by decide +kernel
theorem dX10_deliver_41 : decode cX10_deliver 41 = .ok (.ifCond .eq 9, 3) := by decide +kernel
theorem dX10_deliver_44 : decode cX10_deliver 44 = .ok (.aload_n 0, 1) := by decide +kernel
theorem dX10_deliver_45 : decode cX10_deliver 45 = .ok (.iconst 2, 1) := by decide +kernel
theorem dX10_deliver_46 : decode cX10_deliver 46 = .ok (.invokevirtual 95, 3) := by decide +kernel
theorem dX10_deliver_49 : decode cX10_deliver 49 = .ok (.ireturn, 1) := by decide +kernel
theorem dX10_deliver_50 : decode cX10_deliver 50 = .ok (.aload_n 0, 1) := by decide +kernel
theorem dX10_deliver_51 : decode cX10_deliver 51 = .ok (.invokevirtual 98, 3) := by decide +kernel
theorem dX10_deliver_54 : decode cX10_deliver 54 = .ok (.aload_n 0, 1) := by decide +kernel
theorem dX10_deliver_55 : decode cX10_deliver 55 = .ok (.getfield 7, 3) := by decide +kernel
theorem dX10_deliver_58 : decode cX10_deliver 58 = .ok (.iload_n 2, 1) := by decide +kernel
theorem dX10_deliver_59 : decode cX10_deliver 59 = .ok (.iconst 2, 1) := by decide +kernel
theorem dX10_deliver_60 : decode cX10_deliver 60 = .ok (.iadd, 1) := by decide +kernel
theorem dX10_deliver_61 : decode cX10_deliver 61 = .ok (.iaload, 1) := by decide +kernel
theorem dX10_deliver_62 : decode cX10_deliver 62 = .ok (.invokestatic 101, 3) := by decide +kernel
theorem dX10_deliver_65 : decode cX10_deliver 65 = .ok (.istore_n 3, 1) := by decide +kernel
theorem dX10_deliver_66 : decode cX10_deliver 66 = .ok (.aload_n 0, 1) := by decide +kernel
theorem dX10_deliver_67 : decode cX10_deliver 67 = .ok (.getfield 7, 3) := by decide +kernel
theorem dX10_deliver_70 : decode cX10_deliver 70 = .ok (.iload_n 2, 1) := by decide +kernel
theorem dX10_deliver_71 : decode cX10_deliver 71 = .ok (.iaload, 1) := by decide +kernel
theorem dX10_deliver_72 : decode cX10_deliver 72 = .ok (.aload_n 0, 1) := by decide +kernel
theorem dX10_deliver_73 : decode cX10_deliver 73 = .ok (.getfield 7, 3) := by decide +kernel
theorem dX10_deliver_76 : decode cX10_deliver 76 = .ok (.iload_n 3, 1) := by decide +kernel
theorem dX10_deliver_77 : decode cX10_deliver 77 = .ok (.iaload, 1) := by decide +kernel
theorem dX10_deliver_78 : decode cX10_deliver 78 = .ok (.imul, 1) := by decide +kernel
theorem dX10_deliver_79 : decode cX10_deliver 79 = .ok (.aload_n 0, 1) := by decide +kernel
theorem dX10_deliver_80 : decode cX10_deliver 80 = .ok (.getfield 7, 3) := by decide +kernel
theorem dX10_deliver_83 : decode cX10_deliver 83 = .ok (.iload_n 2, 1) := by decide +kernel
theorem dX10_deliver_84 : decode cX10_deliver 84 = .ok (.iconst 4, 1) := by decide +kernel
theorem dX10_deliver_85 : decode cX10_deliver 85 = .ok (.iadd, 1) := by decide +kernel
theorem dX10_deliver_86 : decode cX10_deliver 86 = .ok (.iaload, 1) := by decide +kernel
theorem dX10_deliver_87 : decode cX10_deliver 87 = .ok (.imul, 1) := by decide +kernel
theorem dX10_deliver_88 : decode cX10_deliver 88 = .ok (.bipush 100, 2) := by decide +kernel
theorem dX10_deliver_90 : decode cX10_deliver 90 = .ok (.idiv, 1) := by decide +kernel
theorem dX10_deliver_91 : decode cX10_deliver 91 = .ok (.istore 4, 2) := by decide +kernel
theorem dX10_deliver_93 : decode cX10_deliver 93 = .ok (.aload_n 0, 1) := by decide +kernel
theorem dX10_deliver_94 : decode cX10_deliver 94 = .ok (.getfield 7, 3) := by decide +kernel
theorem dX10_deliver_97 : decode cX10_deliver 97 = .ok (.iload_n 2, 1) := by decide +kernel
theorem dX10_deliver_98 : decode cX10_deliver 98 = .ok (.iconst 1, 1) := by decide +kernel
theorem dX10_deliver_99 : decode cX10_deliver 99 = .ok (.iadd, 1) := by decide +kernel
theorem dX10_deliver_100 : decode cX10_deliver 100 = .ok (.iconst 2, 1) := by decide +kernel
theorem dX10_deliver_101 : decode cX10_deliver 101 = .ok (.iastore, 1) := by decide +kernel
theorem dX10_deliver_102 : decode cX10_deliver 102 = .ok (.aload_n 0, 1) := by decide +kernel
theorem dX10_deliver_103 : decode cX10_deliver 103 = .ok (.getfield 7, 3) := by decide +kernel
theorem dX10_deliver_106 : decode cX10_deliver 106 = .ok (.iload_n 2, 1) := by decide +kernel
theorem dX10_deliver_107 : decode cX10_deliver 107 = .ok (.iconst 5, 1) := by decide +kernel
theorem dX10_deliver_108 : decode cX10_deliver 108 = .ok (.iadd, 1) := by decide +kernel
theorem dX10_deliver_109 : decode cX10_deliver 109 = .ok (.iload 4, 2) := by decide +kernel
theorem dX10_deliver_111 : decode cX10_deliver 111 = .ok (.iastore, 1) := by decide +kernel
theorem dX10_deliver_112 : decode cX10_deliver 112 = .ok (.aload_n 0, 1) := by decide +kernel
theorem dX10_deliver_113 : decode cX10_deliver 113 = .ok (.getfield 7, 3) := by decide +kernel
theorem dX10_deliver_116 : decode cX10_deliver 116 = .ok (.iload_n 2, 1) := by decide +kernel
theorem dX10_deliver_117 : decode cX10_deliver 117 = .ok (.bipush 9, 2) := by decide +kernel
theorem dX10_deliver_119 : decode cX10_deliver 119 = .ok (.iadd, 1) := by decide +kernel
theorem dX10_deliver_120 : decode cX10_deliver 120 = .ok (.aload_n 0, 1) := by decide +kernel
theorem dX10_deliver_121 : decode cX10_deliver 121 = .ok (.getfield 7, 3) := by decide +kernel
theorem dX10_deliver_124 : decode cX10_deliver 124 = .ok (.iload_n 3, 1) := by decide +kernel
theorem dX10_deliver_125 : decode cX10_deliver 125 = .ok (.iaload, 1) := by decide +kernel
theorem dX10_deliver_126 : decode cX10_deliver 126 = .ok (.iastore, 1) := by decide +kernel
theorem dX10_deliver_127 : decode cX10_deliver 127 = .ok (.aload_n 0, 1) := by decide +kernel
theorem dX10_deliver_128 : decode cX10_deliver 128 = .ok (.getfield 7, 3) := by decide +kernel
theorem dX10_deliver_131 : decode cX10_deliver 131 = .ok (.iload_n 3, 1) := by decide +kernel
theorem dX10_deliver_132 : decode cX10_deliver 132 = .ok (.iconst 1, 1) := by decide +kernel
theorem dX10_deliver_133 : decode cX10_deliver 133 = .ok (.iadd, 1) := by decide +kernel
theorem dX10_deliver_134 : decode cX10_deliver 134 = .ok (.dup2, 1) := by decide +kernel
theorem dX10_deliver_135 : decode cX10_deliver 135 = .ok (.iaload, 1) := by decide +kernel
theorem dX10_deliver_136 : decode cX10_deliver 136 = .ok (.iload 4, 2) := by decide +kernel
theorem dX10_deliver_138 : decode cX10_deliver 138 = .ok (.iadd, 1) := by decide +kernel
theorem dX10_deliver_139 : decode cX10_deliver 139 = .ok (.iastore, 1) := by decide +kernel
theorem dX10_deliver_140 : decode cX10_deliver 140 = .ok (.aload_n 0, 1) := by decide +kernel
theorem dX10_deliver_141 : decode cX10_deliver 141 = .ok (.getfield 7, 3) := by decide +kernel
theorem dX10_deliver_144 : decode cX10_deliver 144 = .ok (.iload_n 3, 1) := by decide +kernel
theorem dX10_deliver_145 : decode cX10_deliver 145 = .ok (.iconst 2, 1) := by decide +kernel
theorem dX10_deliver_146 : decode cX10_deliver 146 = .ok (.iadd, 1) := by decide +kernel
theorem dX10_deliver_147 : decode cX10_deliver 147 = .ok (.dup2, 1) := by decide +kernel
theorem dX10_deliver_148 : decode cX10_deliver 148 = .ok (.iaload, 1) := by decide +kernel
theorem dX10_deliver_149 : decode cX10_deliver 149 = .ok (.aload_n 0, 1) := by decide +kernel
theorem dX10_deliver_150 : decode cX10_deliver 150 = .ok (.getfield 7, 3) := by decide +kernel
theorem dX10_deliver_153 : decode cX10_deliver 153 = .ok (.iload_n 2, 1) := by decide +kernel
theorem dX10_deliver_154 : decode cX10_deliver 154 = .ok (.iaload, 1) := by decide +kernel
theorem dX10_deliver_155 : decode cX10_deliver 155 = .ok (.iadd, 1) := by decide +kernel
theorem dX10_deliver_156 : decode cX10_deliver 156 = .ok (.iastore, 1) := by decide +kernel
theorem dX10_deliver_157 : decode cX10_deliver 157 = .ok (.aload_n 0, 1) := by decide +kernel
theorem dX10_deliver_158 : decode cX10_deliver 158 = .ok (.getfield 7, 3) := by decide +kernel
theorem dX10_deliver_161 : decode cX10_deliver 161 = .ok (.bipush 64, 2) := by decide +kernel
theorem dX10_deliver_163 : decode cX10_deliver 163 = .ok (.iconst 3, 1) := by decide +kernel
theorem dX10_deliver_164 : decode cX10_deliver 164 = .ok (.aload_n 0, 1) := by decide +kernel
theorem dX10_deliver_165 : decode cX10_deliver 165 = .ok (.getfield 7, 3) := by decide +kernel
theorem dX10_deliver_168 : decode cX10_deliver 168 = .ok (.iload_n 2, 1) := by decide +kernel
theorem dX10_deliver_169 : decode cX10_deliver 169 = .ok (.iconst 3, 1) := by decide +kernel
theorem dX10_deliver_170 : decode cX10_deliver 170 = .ok (.iadd, 1) := by decide +kernel
theorem dX10_deliver_171 : decode cX10_deliver 171 = .ok (.iaload, 1) := by decide +kernel
theorem dX10_deliver_172 : decode cX10_deliver 172 = .ok (.imul, 1) := by decide +kernel
theorem dX10_deliver_173 : decode cX10_deliver 173 = .ok (.iadd, 1) := by decide +kernel
theorem dX10_deliver_174 : decode cX10_deliver 174 = .ok (.iconst 1, 1) := by decide +kernel
theorem dX10_deliver_175 : decode cX10_deliver 175 = .ok (.iadd, 1) := by decide +kernel
theorem dX10_deliver_176 : decode cX10_deliver 176 = .ok (.dup2, 1) := by decide +kernel
theorem dX10_deliver_177 : decode cX10_deliver 177 = .ok (.iaload, 1) := by decide +kernel
theorem dX10_deliver_178 : decode cX10_deliver 178 = .ok (.aload_n 0, 1) := by decide +kernel
theorem dX10_deliver_179 : decode cX10_deliver 179 = .ok (.getfield 7, 3) := by decide +kernel
theorem dX10_deliver_182 : decode cX10_deliver 182 = .ok (.iload_n 2, 1) := by decide +kernel
theorem dX10_deliver_183 : decode cX10_deliver 183 = .ok (.iaload, 1) := by decide +kernel
theorem dX10_deliver_184 : decode cX10_deliver 184 = .ok (.iadd, 1) := by decide +kernel
theorem dX10_deliver_185 : decode cX10_deliver 185 = .ok (.iastore, 1) := by decide +kernel
theorem dX10_deliver_186 : decode cX10_deliver 186 = .ok (.aload_n 0, 1) := by decide +kernel
theorem dX10_deliver_187 : decode cX10_deliver 187 = .ok (.getfield 7, 3) := by decide +kernel
theorem dX10_deliver_190 : decode cX10_deliver 190 = .ok (.bipush 64, 2) := by decide +kernel
theorem dX10_deliver_192 : decode cX10_deliver 192 = .ok (.iconst 3, 1) := by decide +kernel
theorem dX10_deliver_193 : decode cX10_deliver 193 = .ok (.aload_n 0, 1) := by decide +kernel
theorem dX10_deliver_194 : decode cX10_deliver 194 = .ok (.getfield 7, 3) := by decide +kernel
theorem dX10_deliver_197 : decode cX10_deliver 197 = .ok (.iload_n 2, 1) := by decide +kernel
theorem dX10_deliver_198 : decode cX10_deliver 198 = .ok (.iconst 3, 1) := by decide +kernel
theorem dX10_deliver_199 : decode cX10_deliver 199 = .ok (.iadd, 1) := by decide +kernel
theorem dX10_deliver_200 : decode cX10_deliver 200 = .ok (.iaload, 1) := by decide +kernel
theorem dX10_deliver_201 : decode cX10_deliver 201 = .ok (.imul, 1) := by decide +kernel
theorem dX10_deliver_202 : decode cX10_deliver 202 = .ok (.iadd, 1) := by decide +kernel
theorem dX10_deliver_203 : decode cX10_deliver 203 = .ok (.iconst 2, 1) := by decide +kernel
theorem dX10_deliver_204 : decode cX10_deliver 204 = .ok (.iadd, 1) := by decide +kernel
theorem dX10_deliver_205 : decode cX10_deliver 205 = .ok (.dup2, 1) := by decide +kernel
theorem dX10_deliver_206 : decode cX10_deliver 206 = .ok (.iaload, 1) := by decide +kernel
theorem dX10_deliver_207 : decode cX10_deliver 207 = .ok (.iload 4, 2) := by decide +kernel
theorem dX10_deliver_209 : decode cX10_deliver 209 = .ok (.iadd, 1) := by decide +kernel
theorem dX10_deliver_210 : decode cX10_deliver 210 = .ok (.iastore, 1) := by decide +kernel
theorem dX10_deliver_211 : decode cX10_deliver 211 = .ok (.aload_n 0, 1) := by decide +kernel
theorem dX10_deliver_212 : decode cX10_deliver 212 = .ok (.iload_n 1, 1) := by decide +kernel
theorem dX10_deliver_213 : decode cX10_deliver 213 = .ok (.invokevirtual 116, 3) := by decide +kernel
theorem dX10_deliver_216 : decode cX10_deliver 216 = .ok (.iload 4, 2) := by decide +kernel
theorem dX10_deliver_218 : decode cX10_deliver 218 = .ok (.ireturn, 1) := by decide +kernel
theorem dX10_revise_0 : decode cX10_revise 0 = .ok (.aload_n 0, 1) := by decide +kernel
theorem dX10_revise_1 : decode cX10_revise 1 = .ok (.iconst 0, 1) := by decide +kernel
theorem dX10_revise_2 : decode cX10_revise 2 = .ok (.putfield 34, 3) := by decide +kernel
theorem dX10_revise_5 : decode cX10_revise 5 = .ok (.aload_n 0, 1) := by decide +kernel
theorem dX10_revise_6 : decode cX10_revise 6 = .ok (.iload_n 1, 1) := by decide +kernel
theorem dX10_revise_7 : decode cX10_revise 7 = .ok (.invokevirtual 107, 3) := by decide +kernel
theorem dX10_revise_10 : decode cX10_revise 10 = .ok (.ifCond .eq 10, 3) := by decide +kernel
theorem dX10_revise_13 : decode cX10_revise 13 = .ok (.iload_n 2, 1) := by decide +kernel
theorem dX10_revise_14 : decode cX10_revise 14 = .ok (.invokestatic 92, 3) := by decide +kernel
theorem dX10_revise_17 : decode cX10_revise 17 = .ok (.ifCond .ne 9, 3) := by decide +kernel
theorem dX10_revise_20 : decode cX10_revise 20 = .ok (.aload_n 0, 1) := by decide +kernel
theorem dX10_revise_21 : decode cX10_revise 21 = .ok (.iconst 1, 1) := by decide +kernel
theorem dX10_revise_22 : decode cX10_revise 22 = .ok (.invokevirtual 95, 3) := by decide +kernel
theorem dX10_revise_25 : decode cX10_revise 25 = .ok (.ireturn, 1) := by decide +kernel
theorem dX10_revise_26 : decode cX10_revise 26 = .ok (.iload_n 1, 1) := by decide +kernel
theorem dX10_revise_27 : decode cX10_revise 27 = .ok (.invokestatic 45, 3) := by decide +kernel
theorem dX10_revise_30 : decode cX10_revise 30 = .ok (.istore 4, 2) := by decide +kernel
theorem dX10_revise_32 : decode cX10_revise 32 = .ok (.iload_n 3, 1) := by decide +kernel
theorem dX10_revise_33 : decode cX10_revise 33 = .ok (.iconst 0, 1) := by decide +kernel
theorem dX10_revise_34 : decode cX10_revise 34 = .ok (.aload_n 0, 1) := by decide +kernel
theorem dX10_revise_35 : decode cX10_revise 35 = .ok (.getfield 7, 3) := by decide +kernel
theorem dX10_revise_38 : decode cX10_revise 38 = .ok (.iload 4, 2) := by decide +kernel
theorem dX10_revise_40 : decode cX10_revise 40 = .ok (.iaload, 1) := by decide +kernel
theorem dX10_revise_41 : decode cX10_revise 41 = .ok (.invokestatic 41, 3) := by decide +kernel
theorem dX10_revise_44 : decode cX10_revise 44 = .ok (.ifCond .ne 9, 3) := by decide +kernel
theorem dX10_revise_47 : decode cX10_revise 47 = .ok (.aload_n 0, 1) := by decide +kernel
theorem dX10_revise_48 : decode cX10_revise 48 = .ok (.iconst 2, 1) := by decide +kernel
theorem dX10_revise_49 : decode cX10_revise 49 = .ok (.invokevirtual 95, 3) := by decide +kernel
theorem dX10_revise_52 : decode cX10_revise 52 = .ok (.ireturn, 1) := by decide +kernel
theorem dX10_revise_53 : decode cX10_revise 53 = .ok (.aload_n 0, 1) := by decide +kernel
theorem dX10_revise_54 : decode cX10_revise 54 = .ok (.getfield 7, 3) := by decide +kernel
theorem dX10_revise_57 : decode cX10_revise 57 = .ok (.iload 4, 2) := by decide +kernel
theorem dX10_revise_59 : decode cX10_revise 59 = .ok (.iconst 1, 1) := by decide +kernel
theorem dX10_revise_60 : decode cX10_revise 60 = .ok (.iadd, 1) := by decide +kernel
theorem dX10_revise_61 : decode cX10_revise 61 = .ok (.iaload, 1) := by decide +kernel
theorem dX10_revise_62 : decode cX10_revise 62 = .ok (.iconst 2, 1) := by decide +kernel
theorem dX10_revise_63 : decode cX10_revise 63 = .ok (.if_icmp .ne 16, 3) := by decide +kernel
theorem dX10_revise_66 : decode cX10_revise 66 = .ok (.aload_n 0, 1) := by decide +kernel
theorem dX10_revise_67 : decode cX10_revise 67 = .ok (.getfield 7, 3) := by decide +kernel
theorem dX10_revise_70 : decode cX10_revise 70 = .ok (.iload 4, 2) := by decide +kernel
theorem dX10_revise_72 : decode cX10_revise 72 = .ok (.iconst 2, 1) := by decide +kernel
theorem dX10_revise_73 : decode cX10_revise 73 = .ok (.iadd, 1) := by decide +kernel
theorem dX10_revise_74 : decode cX10_revise 74 = .ok (.iaload, 1) := by decide +kernel
theorem dX10_revise_75 : decode cX10_revise 75 = .ok (.iload_n 2, 1) := by decide +kernel
theorem dX10_revise_76 : decode cX10_revise 76 = .ok (.if_icmp .ne 9, 3) := by decide +kernel
theorem dX10_revise_79 : decode cX10_revise 79 = .ok (.aload_n 0, 1) := by decide +kernel
theorem dX10_revise_80 : decode cX10_revise 80 = .ok (.iconst 3, 1) := by decide +kernel
theorem dX10_revise_81 : decode cX10_revise 81 = .ok (.invokevirtual 95, 3) := by decide +kernel
theorem dX10_revise_84 : decode cX10_revise 84 = .ok (.ireturn, 1) := by decide +kernel
theorem dX10_revise_85 : decode cX10_revise 85 = .ok (.aload_n 0, 1) := by decide +kernel
theorem dX10_revise_86 : decode cX10_revise 86 = .ok (.invokevirtual 98, 3) := by decide +kernel
theorem dX10_revise_89 : decode cX10_revise 89 = .ok (.iload_n 2, 1) := by decide +kernel
theorem dX10_revise_90 : decode cX10_revise 90 = .ok (.invokestatic 101, 3) := by decide +kernel
theorem dX10_revise_93 : decode cX10_revise 93 = .ok (.istore 5, 2) := by decide +kernel
theorem dX10_revise_95 : decode cX10_revise 95 = .ok (.aload_n 0, 1) := by decide +kernel
theorem dX10_revise_96 : decode cX10_revise 96 = .ok (.getfield 7, 3) := by decide +kernel
theorem dX10_revise_99 : decode cX10_revise 99 = .ok (.iload 4, 2) := by decide +kernel
theorem dX10_revise_101 : decode cX10_revise 101 = .ok (.iconst 2, 1) := by decide +kernel
theorem dX10_revise_102 : decode cX10_revise 102 = .ok (.iadd, 1) := by decide +kernel
theorem dX10_revise_103 : decode cX10_revise 103 = .ok (.iaload, 1) := by decide +kernel
theorem dX10_revise_104 : decode cX10_revise 104 = .ok (.invokestatic 101, 3) := by decide +kernel
theorem dX10_revise_107 : decode cX10_revise 107 = .ok (.istore 6, 2) := by decide +kernel
theorem dX10_revise_109 : decode cX10_revise 109 = .ok (.iload_n 3, 1) := by decide +kernel
theorem dX10_revise_110 : decode cX10_revise 110 = .ok (.aload_n 0, 1) := by decide +kernel
theorem dX10_revise_111 : decode cX10_revise 111 = .ok (.getfield 7, 3) := by decide +kernel
theorem dX10_revise_114 : decode cX10_revise 114 = .ok (.iload 4, 2) := by decide +kernel
theorem dX10_revise_116 : decode cX10_revise 116 = .ok (.bipush 9, 2) := by decide +kernel
theorem dX10_revise_118 : decode cX10_revise 118 = .ok (.iadd, 1) := by decide +kernel
theorem dX10_revise_119 : decode cX10_revise 119 = .ok (.iaload, 1) := by decide +kernel
theorem dX10_revise_120 : decode cX10_revise 120 = .ok (.imul, 1) := by decide +kernel
theorem dX10_revise_121 : decode cX10_revise 121 = .ok (.aload_n 0, 1) := by decide +kernel
theorem dX10_revise_122 : decode cX10_revise 122 = .ok (.getfield 7, 3) := by decide +kernel
theorem dX10_revise_125 : decode cX10_revise 125 = .ok (.iconst 3, 1) := by decide +kernel
theorem dX10_revise_126 : decode cX10_revise 126 = .ok (.iaload, 1) := by decide +kernel
theorem dX10_revise_127 : decode cX10_revise 127 = .ok (.imul, 1) := by decide +kernel
theorem dX10_revise_128 : decode cX10_revise 128 = .ok (.bipush 100, 2) := by decide +kernel
theorem dX10_revise_130 : decode cX10_revise 130 = .ok (.idiv, 1) := by decide +kernel
theorem dX10_revise_131 : decode cX10_revise 131 = .ok (.istore 7, 2) := by decide +kernel
theorem dX10_revise_133 : decode cX10_revise 133 = .ok (.iload 7, 2) := by decide +kernel
theorem dX10_revise_135 : decode cX10_revise 135 = .ok (.aload_n 0, 1) := by decide +kernel
theorem dX10_revise_136 : decode cX10_revise 136 = .ok (.getfield 7, 3) := by decide +kernel
theorem dX10_revise_139 : decode cX10_revise 139 = .ok (.iload 4, 2) := by decide +kernel
theorem dX10_revise_141 : decode cX10_revise 141 = .ok (.iconst 5, 1) := by decide +kernel
theorem dX10_revise_142 : decode cX10_revise 142 = .ok (.iadd, 1) := by decide +kernel
theorem dX10_revise_143 : decode cX10_revise 143 = .ok (.iaload, 1) := by decide +kernel
theorem dX10_revise_144 : decode cX10_revise 144 = .ok (.if_icmp .ge 8, 3) := by decide +kernel
theorem dX10_revise_147 : decode cX10_revise 147 = .ok (.iload 7, 2) := by decide +kernel
theorem dX10_revise_149 : decode cX10_revise 149 = .ok (.goto 12, 3) := by decide +kernel
theorem dX10_revise_152 : decode cX10_revise 152 = .ok (.aload_n 0, 1) := by decide +kernel
theorem dX10_revise_153 : decode cX10_revise 153 = .ok (.getfield 7, 3) := by decide +kernel
theorem dX10_revise_156 : decode cX10_revise 156 = .ok (.iload 4, 2) := by decide +kernel
theorem dX10_revise_158 : decode cX10_revise 158 = .ok (.iconst 5, 1) := by decide +kernel
theorem dX10_revise_159 : decode cX10_revise 159 = .ok (.iadd, 1) := by decide +kernel
theorem dX10_revise_160 : decode cX10_revise 160 = .ok (.iaload, 1) := by decide +kernel
theorem dX10_revise_161 : decode cX10_revise 161 = .ok (.istore 7, 2) := by decide +kernel
theorem dX10_revise_163 : decode cX10_revise 163 = .ok (.aload_n 0, 1) := by decide +kernel
theorem dX10_revise_164 : decode cX10_revise 164 = .ok (.getfield 7, 3) := by decide +kernel
theorem dX10_revise_167 : decode cX10_revise 167 = .ok (.iload 5, 2) := by decide +kernel
theorem dX10_revise_169 : decode cX10_revise 169 = .ok (.iconst 1, 1) := by decide +kernel
theorem dX10_revise_170 : decode cX10_revise 170 = .ok (.iadd, 1) := by decide +kernel
theorem dX10_revise_171 : decode cX10_revise 171 = .ok (.dup2, 1) := by decide +kernel
theorem dX10_revise_172 : decode cX10_revise 172 = .ok (.iaload, 1) := by decide +kernel
theorem dX10_revise_173 : decode cX10_revise 173 = .ok (.aload_n 0, 1) := by decide +kernel
theorem dX10_revise_174 : decode cX10_revise 174 = .ok (.getfield 7, 3) := by decide +kernel
theorem dX10_revise_177 : decode cX10_revise 177 = .ok (.iload 4, 2) := by decide +kernel
theorem dX10_revise_179 : decode cX10_revise 179 = .ok (.iaload, 1) := by decide +kernel
theorem dX10_revise_180 : decode cX10_revise 180 = .ok (.aload_n 0, 1) := by decide +kernel
theorem dX10_revise_181 : decode cX10_revise 181 = .ok (.getfield 7, 3) := by decide +kernel
theorem dX10_revise_184 : decode cX10_revise 184 = .ok (.iload 5, 2) := by decide +kernel
theorem dX10_revise_186 : decode cX10_revise 186 = .ok (.iaload, 1) := by decide +kernel
theorem dX10_revise_187 : decode cX10_revise 187 = .ok (.imul, 1) := by decide +kernel
theorem dX10_revise_188 : decode cX10_revise 188 = .ok (.aload_n 0, 1) := by decide +kernel
theorem dX10_revise_189 : decode cX10_revise 189 = .ok (.getfield 7, 3) := by decide +kernel
theorem dX10_revise_192 : decode cX10_revise 192 = .ok (.iconst 2, 1) := by decide +kernel
theorem dX10_revise_193 : decode cX10_revise 193 = .ok (.iaload, 1) := by decide +kernel
theorem dX10_revise_194 : decode cX10_revise 194 = .ok (.imul, 1) := by decide +kernel
theorem dX10_revise_195 : decode cX10_revise 195 = .ok (.bipush 100, 2) := by decide +kernel
theorem dX10_revise_197 : decode cX10_revise 197 = .ok (.idiv, 1) := by decide +kernel
theorem dX10_revise_198 : decode cX10_revise 198 = .ok (.iadd, 1) := by decide +kernel
theorem dX10_revise_199 : decode cX10_revise 199 = .ok (.iastore, 1) := by decide +kernel
theorem dX10_revise_200 : decode cX10_revise 200 = .ok (.aload_n 0, 1) := by decide +kernel
theorem dX10_revise_201 : decode cX10_revise 201 = .ok (.getfield 7, 3) := by decide +kernel
theorem dX10_revise_204 : decode cX10_revise 204 = .ok (.iload 5, 2) := by decide +kernel
theorem dX10_revise_206 : decode cX10_revise 206 = .ok (.iconst 3, 1) := by decide +kernel
theorem dX10_revise_207 : decode cX10_revise 207 = .ok (.iadd, 1) := by decide +kernel
theorem dX10_revise_208 : decode cX10_revise 208 = .ok (.dup2, 1) := by decide +kernel
theorem dX10_revise_209 : decode cX10_revise 209 = .ok (.iaload, 1) := by decide +kernel
theorem dX10_revise_210 : decode cX10_revise 210 = .ok (.iload_n 3, 1) := by decide +kernel
theorem dX10_revise_211 : decode cX10_revise 211 = .ok (.iadd, 1) := by decide +kernel
theorem dX10_revise_212 : decode cX10_revise 212 = .ok (.iastore, 1) := by decide +kernel
theorem dX10_revise_213 : decode cX10_revise 213 = .ok (.aload_n 0, 1) := by decide +kernel
theorem dX10_revise_214 : decode cX10_revise 214 = .ok (.getfield 7, 3) := by decide +kernel
theorem dX10_revise_217 : decode cX10_revise 217 = .ok (.iload 6, 2) := by decide +kernel
theorem dX10_revise_219 : decode cX10_revise 219 = .ok (.iconst 1, 1) := by decide +kernel
theorem dX10_revise_220 : decode cX10_revise 220 = .ok (.iadd, 1) := by decide +kernel
theorem dX10_revise_221 : decode cX10_revise 221 = .ok (.dup2, 1) := by decide +kernel
theorem dX10_revise_222 : decode cX10_revise 222 = .ok (.iaload, 1) := by decide +kernel
theorem dX10_revise_223 : decode cX10_revise 223 = .ok (.iload 7, 2) := by decide +kernel
theorem dX10_revise_225 : decode cX10_revise 225 = .ok (.isub, 1) := by decide +kernel
theorem dX10_revise_226 : decode cX10_revise 226 = .ok (.iastore, 1) := by decide +kernel
theorem dX10_revise_227 : decode cX10_revise 227 = .ok (.aload_n 0, 1) := by decide +kernel
theorem dX10_revise_228 : decode cX10_revise 228 = .ok (.getfield 7, 3) := by decide +kernel
theorem dX10_revise_231 : decode cX10_revise 231 = .ok (.iload 6, 2) := by decide +kernel
theorem dX10_revise_233 : decode cX10_revise 233 = .ok (.iconst 4, 1) := by decide +kernel
theorem dX10_revise_234 : decode cX10_revise 234 = .ok (.iadd, 1) := by decide +kernel
theorem dX10_revise_235 : decode cX10_revise 235 = .ok (.dup2, 1) := by decide +kernel
theorem dX10_revise_236 : decode cX10_revise 236 = .ok (.iaload, 1) := by decide +kernel
theorem dX10_revise_237 : decode cX10_revise 237 = .ok (.iload_n 3, 1) := by decide +kernel
theorem dX10_revise_238 : decode cX10_revise 238 = .ok (.iadd, 1) := by decide +kernel
theorem dX10_revise_239 : decode cX10_revise 239 = .ok (.iastore, 1) := by decide +kernel
theorem dX10_revise_240 : decode cX10_revise 240 = .ok (.aload_n 0, 1) := by decide +kernel
theorem dX10_revise_241 : decode cX10_revise 241 = .ok (.getfield 7, 3) := by decide +kernel
theorem dX10_revise_244 : decode cX10_revise 244 = .ok (.iload 4, 2) := by decide +kernel
theorem dX10_revise_246 : decode cX10_revise 246 = .ok (.iconst 5, 1) := by decide +kernel
theorem dX10_revise_247 : decode cX10_revise 247 = .ok (.iadd, 1) := by decide +kernel
theorem dX10_revise_248 : decode cX10_revise 248 = .ok (.dup2, 1) := by decide +kernel
theorem dX10_revise_249 : decode cX10_revise 249 = .ok (.iaload, 1) := by decide +kernel
theorem dX10_revise_250 : decode cX10_revise 250 = .ok (.iload 7, 2) := by decide +kernel
theorem dX10_revise_252 : decode cX10_revise 252 = .ok (.isub, 1) := by decide +kernel
theorem dX10_revise_253 : decode cX10_revise 253 = .ok (.iastore, 1) := by decide +kernel
theorem dX10_revise_254 : decode cX10_revise 254 = .ok (.aload_n 0, 1) := by decide +kernel
theorem dX10_revise_255 : decode cX10_revise 255 = .ok (.getfield 7, 3) := by decide +kernel
theorem dX10_revise_258 : decode cX10_revise 258 = .ok (.iload 4, 2) := by decide +kernel
theorem dX10_revise_260 : decode cX10_revise 260 = .ok (.iconst 1, 1) := by decide +kernel
theorem dX10_revise_261 : decode cX10_revise 261 = .ok (.iadd, 1) := by decide +kernel
theorem dX10_revise_262 : decode cX10_revise 262 = .ok (.iconst 3, 1) := by decide +kernel
theorem dX10_revise_263 : decode cX10_revise 263 = .ok (.iastore, 1) := by decide +kernel
theorem dX10_revise_264 : decode cX10_revise 264 = .ok (.aload_n 0, 1) := by decide +kernel
theorem dX10_revise_265 : decode cX10_revise 265 = .ok (.getfield 7, 3) := by decide +kernel
theorem dX10_revise_268 : decode cX10_revise 268 = .ok (.iload 4, 2) := by decide +kernel
theorem dX10_revise_270 : decode cX10_revise 270 = .ok (.bipush 7, 2) := by decide +kernel
theorem dX10_revise_272 : decode cX10_revise 272 = .ok (.iadd, 1) := by decide +kernel
theorem dX10_revise_273 : decode cX10_revise 273 = .ok (.iload_n 2, 1) := by decide +kernel
theorem dX10_revise_274 : decode cX10_revise 274 = .ok (.iastore, 1) := by decide +kernel
theorem dX10_revise_275 : decode cX10_revise 275 = .ok (.aload_n 0, 1) := by decide +kernel
theorem dX10_revise_276 : decode cX10_revise 276 = .ok (.getfield 7, 3) := by decide +kernel
theorem dX10_revise_279 : decode cX10_revise 279 = .ok (.iload 4, 2) := by decide +kernel
theorem dX10_revise_281 : decode cX10_revise 281 = .ok (.bipush 8, 2) := by decide +kernel
theorem dX10_revise_283 : decode cX10_revise 283 = .ok (.iadd, 1) := by decide +kernel
theorem dX10_revise_284 : decode cX10_revise 284 = .ok (.iload_n 3, 1) := by decide +kernel
theorem dX10_revise_285 : decode cX10_revise 285 = .ok (.iastore, 1) := by decide +kernel
theorem dX10_revise_286 : decode cX10_revise 286 = .ok (.aload_n 0, 1) := by decide +kernel
theorem dX10_revise_287 : decode cX10_revise 287 = .ok (.getfield 7, 3) := by decide +kernel
theorem dX10_revise_290 : decode cX10_revise 290 = .ok (.iload 4, 2) := by decide +kernel
theorem dX10_revise_292 : decode cX10_revise 292 = .ok (.iconst 5, 1) := by decide +kernel
theorem dX10_revise_293 : decode cX10_revise 293 = .ok (.iadd, 1) := by decide +kernel
theorem dX10_revise_294 : decode cX10_revise 294 = .ok (.iaload, 1) := by decide +kernel
theorem dX10_revise_295 : decode cX10_revise 295 = .ok (.ireturn, 1) := by decide +kernel
theorem dX10_propose_0 : decode cX10_propose 0 = .ok (.aload_n 0, 1) := by decide +kernel
theorem dX10_propose_1 : decode cX10_propose 1 = .ok (.iconst 0, 1) := by decide +kernel
theorem dX10_propose_2 : decode cX10_propose 2 = .ok (.putfield 34, 3) := by decide +kernel
theorem dX10_propose_5 : decode cX10_propose 5 = .ok (.iload_n 1, 1) := by decide +kernel
theorem dX10_propose_6 : decode cX10_propose 6 = .ok (.invokestatic 119, 3) := by decide +kernel
theorem dX10_propose_9 : decode cX10_propose 9 = .ok (.ifCond .eq 10, 3) := by decide +kernel
theorem dX10_propose_12 : decode cX10_propose 12 = .ok (.iload_n 2, 1) := by decide +kernel
theorem dX10_propose_13 : decode cX10_propose 13 = .ok (.invokestatic 92, 3) := by decide +kernel
theorem dX10_propose_16 : decode cX10_propose 16 = .ok (.ifCond .ne 9, 3) := by decide +kernel
theorem dX10_propose_19 : decode cX10_propose 19 = .ok (.aload_n 0, 1) := by decide +kernel
theorem dX10_propose_20 : decode cX10_propose 20 = .ok (.iconst 1, 1) := by decide +kernel
theorem dX10_propose_21 : decode cX10_propose 21 = .ok (.invokevirtual 95, 3) := by decide +kernel
theorem dX10_propose_24 : decode cX10_propose 24 = .ok (.ireturn, 1) := by decide +kernel
theorem dX10_propose_25 : decode cX10_propose 25 = .ok (.iload_n 3, 1) := by decide +kernel
theorem dX10_propose_26 : decode cX10_propose 26 = .ok (.iconst (-1), 1) := by decide +kernel
theorem dX10_propose_27 : decode cX10_propose 27 = .ok (.bipush 9, 2) := by decide +kernel
theorem dX10_propose_29 : decode cX10_propose 29 = .ok (.invokestatic 41, 3) := by decide +kernel
theorem dX10_propose_32 : decode cX10_propose 32 = .ok (.ifCond .ne 9, 3) := by decide +kernel
theorem dX10_propose_35 : decode cX10_propose 35 = .ok (.aload_n 0, 1) := by decide +kernel
theorem dX10_propose_36 : decode cX10_propose 36 = .ok (.iconst 2, 1) := by decide +kernel
theorem dX10_propose_37 : decode cX10_propose 37 = .ok (.invokevirtual 95, 3) := by decide +kernel
theorem dX10_propose_40 : decode cX10_propose 40 = .ok (.ireturn, 1) := by decide +kernel
theorem dX10_propose_41 : decode cX10_propose 41 = .ok (.aload_n 0, 1) := by decide +kernel
theorem dX10_propose_42 : decode cX10_propose 42 = .ok (.getfield 7, 3) := by decide +kernel
theorem dX10_propose_45 : decode cX10_propose 45 = .ok (.bipush 56, 2) := by decide +kernel
theorem dX10_propose_47 : decode cX10_propose 47 = .ok (.iload_n 1, 1) := by decide +kernel
theorem dX10_propose_48 : decode cX10_propose 48 = .ok (.iadd, 1) := by decide +kernel
theorem dX10_propose_49 : decode cX10_propose 49 = .ok (.iaload, 1) := by decide +kernel
theorem dX10_propose_50 : decode cX10_propose 50 = .ok (.iconst (-1), 1) := by decide +kernel
theorem dX10_propose_51 : decode cX10_propose 51 = .ok (.if_icmp .eq 9, 3) := by decide +kernel
theorem dX10_propose_54 : decode cX10_propose 54 = .ok (.aload_n 0, 1) := by decide +kernel
theorem dX10_propose_55 : decode cX10_propose 55 = .ok (.iconst 3, 1) := by decide +kernel
theorem dX10_propose_56 : decode cX10_propose 56 = .ok (.invokevirtual 95, 3) := by decide +kernel
theorem dX10_propose_59 : decode cX10_propose 59 = .ok (.ireturn, 1) := by decide +kernel
theorem dX10_propose_60 : decode cX10_propose 60 = .ok (.aload_n 0, 1) := by decide +kernel
theorem dX10_propose_61 : decode cX10_propose 61 = .ok (.invokevirtual 98, 3) := by decide +kernel
theorem dX10_propose_64 : decode cX10_propose 64 = .ok (.aload_n 0, 1) := by decide +kernel
theorem dX10_propose_65 : decode cX10_propose 65 = .ok (.getfield 7, 3) := by decide +kernel
theorem dX10_propose_68 : decode cX10_propose 68 = .ok (.iload_n 1, 1) := by decide +kernel
theorem dX10_propose_69 : decode cX10_propose 69 = .ok (.iload_n 2, 1) := by decide +kernel
theorem dX10_propose_70 : decode cX10_propose 70 = .ok (.invokestatic 84, 3) := by decide +kernel
theorem dX10_propose_73 : decode cX10_propose 73 = .ok (.iaload, 1) := by decide +kernel
theorem dX10_propose_74 : decode cX10_propose 74 = .ok (.istore 4, 2) := by decide +kernel
theorem dX10_propose_76 : decode cX10_propose 76 = .ok (.aload_n 0, 1) := by decide +kernel
theorem dX10_propose_77 : decode cX10_propose 77 = .ok (.getfield 7, 3) := by decide +kernel
theorem dX10_propose_80 : decode cX10_propose 80 = .ok (.iload_n 1, 1) := by decide +kernel
theorem dX10_propose_81 : decode cX10_propose 81 = .ok (.iload_n 2, 1) := by decide +kernel
theorem dX10_propose_82 : decode cX10_propose 82 = .ok (.invokestatic 84, 3) := by decide +kernel
theorem dX10_propose_85 : decode cX10_propose 85 = .ok (.iload_n 3, 1) := by decide +kernel
theorem dX10_propose_86 : decode cX10_propose 86 = .ok (.iastore, 1) := by decide +kernel
theorem dX10_propose_87 : decode cX10_propose 87 = .ok (.iload 4, 2) := by decide +kernel
theorem dX10_propose_89 : decode cX10_propose 89 = .ok (.ireturn, 1) := by decide +kernel
theorem dX10_having_0 : decode cX10_having 0 = .ok (.iconst 0, 1) := by decide +kernel
theorem dX10_having_1 : decode cX10_having 1 = .ok (.istore_n 3, 1) := by decide +kernel
theorem dX10_having_2 : decode cX10_having 2 = .ok (.iconst 0, 1) := by decide +kernel
theorem dX10_having_3 : decode cX10_having 3 = .ok (.istore 4, 2) := by decide +kernel
theorem dX10_having_5 : decode cX10_having 5 = .ok (.iload 4, 2) := by decide +kernel
theorem dX10_having_7 : decode cX10_having 7 = .ok (.iconst 4, 1) := by decide +kernel
theorem dX10_having_8 : decode cX10_having 8 = .ok (.if_icmp .ge 32, 3) := by decide +kernel
theorem dX10_having_11 : decode cX10_having 11 = .ok (.iload_n 3, 1) := by decide +kernel
theorem dX10_having_12 : decode cX10_having 12 = .ok (.aload_n 0, 1) := by decide +kernel
theorem dX10_having_13 : decode cX10_having 13 = .ok (.getfield 7, 3) := by decide +kernel
theorem dX10_having_16 : decode cX10_having 16 = .ok (.iload_n 1, 1) := by decide +kernel
theorem dX10_having_17 : decode cX10_having 17 = .ok (.iload 4, 2) := by decide +kernel
theorem dX10_having_19 : decode cX10_having 19 = .ok (.invokestatic 84, 3) := by decide +kernel
theorem dX10_having_22 : decode cX10_having 22 = .ok (.iaload, 1) := by decide +kernel
theorem dX10_having_23 : decode cX10_having 23 = .ok (.iload_n 2, 1) := by decide +kernel
theorem dX10_having_24 : decode cX10_having 24 = .ok (.if_icmp .ne 7, 3) := by decide +kernel
theorem dX10_having_27 : decode cX10_having 27 = .ok (.iconst 1, 1) := by decide +kernel
theorem dX10_having_28 : decode cX10_having 28 = .ok (.goto 4, 3) := by decide +kernel
theorem dX10_having_31 : decode cX10_having 31 = .ok (.iconst 0, 1) := by decide +kernel
theorem dX10_having_32 : decode cX10_having 32 = .ok (.iadd, 1) := by decide +kernel
theorem dX10_having_33 : decode cX10_having 33 = .ok (.istore_n 3, 1) := by decide +kernel
theorem dX10_having_34 : decode cX10_having 34 = .ok (.iinc 4 1, 3) := by decide +kernel
theorem dX10_having_37 : decode cX10_having 37 = .ok (.goto (-32), 3) := by decide +kernel
theorem dX10_having_40 : decode cX10_having 40 = .ok (.iload_n 3, 1) := by decide +kernel
theorem dX10_having_41 : decode cX10_having 41 = .ok (.ireturn, 1) := by decide +kernel
theorem dX10_rule_0 : decode cX10_rule 0 = .ok (.aload_n 0, 1) := by decide +kernel
theorem dX10_rule_1 : decode cX10_rule 1 = .ok (.iconst 0, 1) := by decide +kernel
theorem dX10_rule_2 : decode cX10_rule 2 = .ok (.putfield 34, 3) := by decide +kernel
theorem dX10_rule_5 : decode cX10_rule 5 = .ok (.iload_n 1, 1) := by decide +kernel
theorem dX10_rule_6 : decode cX10_rule 6 = .ok (.invokestatic 119, 3) := by decide +kernel
theorem dX10_rule_9 : decode cX10_rule 9 = .ok (.ifCond .ne 9, 3) := by decide +kernel
theorem dX10_rule_12 : decode cX10_rule 12 = .ok (.aload_n 0, 1) := by decide +kernel
theorem dX10_rule_13 : decode cX10_rule 13 = .ok (.iconst 1, 1) := by decide +kernel
theorem dX10_rule_14 : decode cX10_rule 14 = .ok (.invokevirtual 95, 3) := by decide +kernel
theorem dX10_rule_17 : decode cX10_rule 17 = .ok (.ireturn, 1) := by decide +kernel
theorem dX10_rule_18 : decode cX10_rule 18 = .ok (.iload_n 2, 1) := by decide +kernel
theorem dX10_rule_19 : decode cX10_rule 19 = .ok (.iconst 0, 1) := by decide +kernel
theorem dX10_rule_20 : decode cX10_rule 20 = .ok (.bipush 9, 2) := by decide +kernel
theorem dX10_rule_22 : decode cX10_rule 22 = .ok (.invokestatic 41, 3) := by decide +kernel
theorem dX10_rule_25 : decode cX10_rule 25 = .ok (.ifCond .ne 9, 3) := by decide +kernel
theorem dX10_rule_28 : decode cX10_rule 28 = .ok (.aload_n 0, 1) := by decide +kernel
theorem dX10_rule_29 : decode cX10_rule 29 = .ok (.iconst 2, 1) := by decide +kernel
theorem dX10_rule_30 : decode cX10_rule 30 = .ok (.invokevirtual 95, 3) := by decide +kernel
theorem dX10_rule_33 : decode cX10_rule 33 = .ok (.ireturn, 1) := by decide +kernel
theorem dX10_rule_34 : decode cX10_rule 34 = .ok (.aload_n 0, 1) := by decide +kernel
theorem dX10_rule_35 : decode cX10_rule 35 = .ok (.getfield 7, 3) := by decide +kernel
theorem dX10_rule_38 : decode cX10_rule 38 = .ok (.bipush 56, 2) := by decide +kernel
theorem dX10_rule_40 : decode cX10_rule 40 = .ok (.iload_n 1, 1) := by decide +kernel
theorem dX10_rule_41 : decode cX10_rule 41 = .ok (.iadd, 1) := by decide +kernel
theorem dX10_rule_42 : decode cX10_rule 42 = .ok (.iaload, 1) := by decide +kernel
theorem dX10_rule_43 : decode cX10_rule 43 = .ok (.iconst (-1), 1) := by decide +kernel
theorem dX10_rule_44 : decode cX10_rule 44 = .ok (.if_icmp .ne 12, 3) := by decide +kernel
theorem dX10_rule_47 : decode cX10_rule 47 = .ok (.aload_n 0, 1) := by decide +kernel
theorem dX10_rule_48 : decode cX10_rule 48 = .ok (.iload_n 1, 1) := by decide +kernel
theorem dX10_rule_49 : decode cX10_rule 49 = .ok (.iload_n 2, 1) := by decide +kernel
theorem dX10_rule_50 : decode cX10_rule 50 = .ok (.invokevirtual 122, 3) := by decide +kernel
theorem dX10_rule_53 : decode cX10_rule 53 = .ok (.ifCond .ne 9, 3) := by decide +kernel
theorem dX10_rule_56 : decode cX10_rule 56 = .ok (.aload_n 0, 1) := by decide +kernel
theorem dX10_rule_57 : decode cX10_rule 57 = .ok (.iconst 3, 1) := by decide +kernel
theorem dX10_rule_58 : decode cX10_rule 58 = .ok (.invokevirtual 95, 3) := by decide +kernel
theorem dX10_rule_61 : decode cX10_rule 61 = .ok (.ireturn, 1) := by decide +kernel
theorem dX10_rule_62 : decode cX10_rule 62 = .ok (.aload_n 0, 1) := by decide +kernel
theorem dX10_rule_63 : decode cX10_rule 63 = .ok (.invokevirtual 98, 3) := by decide +kernel
theorem dX10_rule_66 : decode cX10_rule 66 = .ok (.aload_n 0, 1) := by decide +kernel
theorem dX10_rule_67 : decode cX10_rule 67 = .ok (.getfield 7, 3) := by decide +kernel
theorem dX10_rule_70 : decode cX10_rule 70 = .ok (.bipush 56, 2) := by decide +kernel
theorem dX10_rule_72 : decode cX10_rule 72 = .ok (.iload_n 1, 1) := by decide +kernel
theorem dX10_rule_73 : decode cX10_rule 73 = .ok (.iadd, 1) := by decide +kernel
theorem dX10_rule_74 : decode cX10_rule 74 = .ok (.iload_n 2, 1) := by decide +kernel
theorem dX10_rule_75 : decode cX10_rule 75 = .ok (.iastore, 1) := by decide +kernel
theorem dX10_rule_76 : decode cX10_rule 76 = .ok (.iconst 4, 1) := by decide +kernel
theorem dX10_rule_77 : decode cX10_rule 77 = .ok (.aload_n 0, 1) := by decide +kernel
theorem dX10_rule_78 : decode cX10_rule 78 = .ok (.iload_n 1, 1) := by decide +kernel
theorem dX10_rule_79 : decode cX10_rule 79 = .ok (.iload_n 2, 1) := by decide +kernel
theorem dX10_rule_80 : decode cX10_rule 80 = .ok (.invokevirtual 122, 3) := by decide +kernel
theorem dX10_rule_83 : decode cX10_rule 83 = .ok (.isub, 1) := by decide +kernel
theorem dX10_rule_84 : decode cX10_rule 84 = .ok (.aload_n 0, 1) := by decide +kernel
theorem dX10_rule_85 : decode cX10_rule 85 = .ok (.iload_n 1, 1) := by decide +kernel
theorem dX10_rule_86 : decode cX10_rule 86 = .ok (.iconst (-1), 1) := by decide +kernel
theorem dX10_rule_87 : decode cX10_rule 87 = .ok (.invokevirtual 122, 3) := by decide +kernel
theorem dX10_rule_90 : decode cX10_rule 90 = .ok (.isub, 1) := by decide +kernel
theorem dX10_rule_91 : decode cX10_rule 91 = .ok (.ireturn, 1) := by decide +kernel
theorem dX10_append_0 : decode cX10_append 0 = .ok (.aload_n 0, 1) := by decide +kernel
theorem dX10_append_1 : decode cX10_append 1 = .ok (.iconst 0, 1) := by decide +kernel
theorem dX10_append_2 : decode cX10_append 2 = .ok (.putfield 34, 3) := by decide +kernel
theorem dX10_append_5 : decode cX10_append 5 = .ok (.iload_n 1, 1) := by decide +kernel
theorem dX10_append_6 : decode cX10_append 6 = .ok (.bipush 33, 2) := by decide +kernel
theorem dX10_append_8 : decode cX10_append 8 = .ok (.bipush 126, 2) := by decide +kernel
theorem dX10_append_10 : decode cX10_append 10 = .ok (.invokestatic 41, 3) := by decide +kernel
theorem dX10_append_13 : decode cX10_append 13 = .ok (.ifCond .ne 9, 3) := by decide +kernel
theorem dX10_append_16 : decode cX10_append 16 = .ok (.aload_n 0, 1) := by decide +kernel
theorem dX10_append_17 : decode cX10_append 17 = .ok (.iconst 1, 1) := by decide +kernel
theorem dX10_append_18 : decode cX10_append 18 = .ok (.invokevirtual 95, 3) := by decide +kernel
theorem dX10_append_21 : decode cX10_append 21 = .ok (.ireturn, 1) := by decide +kernel
theorem dX10_append_22 : decode cX10_append 22 = .ok (.aload_n 0, 1) := by decide +kernel
theorem dX10_append_23 : decode cX10_append 23 = .ok (.getfield 125, 3) := by decide +kernel
theorem dX10_append_26 : decode cX10_append 26 = .ok (.bipush 60, 2) := by decide +kernel
theorem dX10_append_28 : decode cX10_append 28 = .ok (.if_icmp .ne 9, 3) := by decide +kernel
theorem dX10_append_31 : decode cX10_append 31 = .ok (.aload_n 0, 1) := by decide +kernel
theorem dX10_append_32 : decode cX10_append 32 = .ok (.iconst 2, 1) := by decide +kernel
theorem dX10_append_33 : decode cX10_append 33 = .ok (.invokevirtual 95, 3) := by decide +kernel
theorem dX10_append_36 : decode cX10_append 36 = .ok (.ireturn, 1) := by decide +kernel
theorem dX10_append_37 : decode cX10_append 37 = .ok (.aload_n 0, 1) := by decide +kernel
theorem dX10_append_38 : decode cX10_append 38 = .ok (.getfield 19, 3) := by decide +kernel
theorem dX10_append_41 : decode cX10_append 41 = .ok (.aload_n 0, 1) := by decide +kernel
theorem dX10_append_42 : decode cX10_append 42 = .ok (.getfield 125, 3) := by decide +kernel
theorem dX10_append_45 : decode cX10_append 45 = .ok (.iload_n 1, 1) := by decide +kernel
theorem dX10_append_46 : decode cX10_append 46 = .ok (.iastore, 1) := by decide +kernel
theorem dX10_append_47 : decode cX10_append 47 = .ok (.aload_n 0, 1) := by decide +kernel
theorem dX10_append_48 : decode cX10_append 48 = .ok (.dup, 1) := by decide +kernel
theorem dX10_append_49 : decode cX10_append 49 = .ok (.getfield 125, 3) := by decide +kernel
theorem dX10_append_52 : decode cX10_append 52 = .ok (.iconst 1, 1) := by decide +kernel
theorem dX10_append_53 : decode cX10_append 53 = .ok (.iadd, 1) := by decide +kernel
theorem dX10_append_54 : decode cX10_append 54 = .ok (.putfield 125, 3) := by decide +kernel
theorem dX10_append_57 : decode cX10_append 57 = .ok (.aload_n 0, 1) := by decide +kernel
theorem dX10_append_58 : decode cX10_append 58 = .ok (.getfield 125, 3) := by decide +kernel
theorem dX10_append_61 : decode cX10_append 61 = .ok (.ireturn, 1) := by decide +kernel
theorem dX10_clearBuffer_0 : decode cX10_clearBuffer 0 = .ok (.aload_n 0, 1) := by decide +kernel
theorem dX10_clearBuffer_1 : decode cX10_clearBuffer 1 = .ok (.iconst 0, 1) := by decide +kernel
theorem dX10_clearBuffer_2 : decode cX10_clearBuffer 2 = .ok (.putfield 34, 3) := by decide +kernel
theorem dX10_clearBuffer_5 : decode cX10_clearBuffer 5 = .ok (.aload_n 0, 1) := by decide +kernel
theorem dX10_clearBuffer_6 : decode cX10_clearBuffer 6 = .ok (.getfield 125, 3) := by decide +kernel
theorem dX10_clearBuffer_9 : decode cX10_clearBuffer 9 = .ok (.istore_n 1, 1) := by decide +kernel
theorem dX10_clearBuffer_10 : decode cX10_clearBuffer 10 = .ok (.aload_n 0, 1) := by decide +kernel
theorem dX10_clearBuffer_11 : decode cX10_clearBuffer 11 = .ok (.iconst 0, 1) := by decide +kernel
theorem dX10_clearBuffer_12 : decode cX10_clearBuffer 12 = .ok (.putfield 125, 3) := by decide +kernel
theorem dX10_clearBuffer_15 : decode cX10_clearBuffer 15 = .ok (.iload_n 1, 1) := by decide +kernel
theorem dX10_clearBuffer_16 : decode cX10_clearBuffer 16 = .ok (.ireturn, 1) := by decide +kernel
theorem dX10_letter_0 : decode cX10_letter 0 = .ok (.aload_n 0, 1) := by decide +kernel
theorem dX10_letter_1 : decode cX10_letter 1 = .ok (.getfield 128, 3) := by decide +kernel
theorem dX10_letter_4 : decode cX10_letter 4 = .ok (.aload_n 0, 1) := by decide +kernel
theorem dX10_letter_5 : decode cX10_letter 5 = .ok (.getfield 125, 3) := by decide +kernel
theorem dX10_letter_8 : decode cX10_letter 8 = .ok (.if_icmp .ge 18, 3) := by decide +kernel
theorem dX10_letter_11 : decode cX10_letter 11 = .ok (.aload_n 0, 1) := by decide +kernel
theorem dX10_letter_12 : decode cX10_letter 12 = .ok (.getfield 19, 3) := by decide +kernel
theorem dX10_letter_15 : decode cX10_letter 15 = .ok (.aload_n 0, 1) := by decide +kernel
theorem dX10_letter_16 : decode cX10_letter 16 = .ok (.getfield 128, 3) := by decide +kernel
theorem dX10_letter_19 : decode cX10_letter 19 = .ok (.iaload, 1) := by decide +kernel
theorem dX10_letter_20 : decode cX10_letter 20 = .ok (.bipush 97, 2) := by decide +kernel
theorem dX10_letter_22 : decode cX10_letter 22 = .ok (.isub, 1) := by decide +kernel
theorem dX10_letter_23 : decode cX10_letter 23 = .ok (.goto 4, 3) := by decide +kernel
theorem dX10_letter_26 : decode cX10_letter 26 = .ok (.iconst (-1), 1) := by decide +kernel
theorem dX10_letter_27 : decode cX10_letter 27 = .ok (.istore_n 1, 1) := by decide +kernel
theorem dX10_letter_28 : decode cX10_letter 28 = .ok (.iload_n 1, 1) := by decide +kernel
theorem dX10_letter_29 : decode cX10_letter 29 = .ok (.invokestatic 119, 3) := by decide +kernel
theorem dX10_letter_32 : decode cX10_letter 32 = .ok (.ifCond .eq 7, 3) := by decide +kernel
theorem dX10_letter_35 : decode cX10_letter 35 = .ok (.iload_n 1, 1) := by decide +kernel
theorem dX10_letter_36 : decode cX10_letter 36 = .ok (.goto 4, 3) := by decide +kernel
theorem dX10_letter_39 : decode cX10_letter 39 = .ok (.iconst (-1), 1) := by decide +kernel
theorem dX10_letter_40 : decode cX10_letter 40 = .ok (.ireturn, 1) := by decide +kernel
theorem dX10_row_0 : decode cX10_row 0 = .ok (.aload_n 0, 1) := by decide +kernel
theorem dX10_row_1 : decode cX10_row 1 = .ok (.getfield 31, 3) := by decide +kernel
theorem dX10_row_4 : decode cX10_row 4 = .ok (.aload_n 0, 1) := by decide +kernel
theorem dX10_row_5 : decode cX10_row 5 = .ok (.getfield 131, 3) := by decide +kernel
theorem dX10_row_8 : decode cX10_row 8 = .ok (.aload_n 0, 1) := by decide +kernel
theorem dX10_row_9 : decode cX10_row 9 = .ok (.getfield 128, 3) := by decide +kernel
theorem dX10_row_12 : decode cX10_row 12 = .ok (.iastore, 1) := by decide +kernel
theorem dX10_row_13 : decode cX10_row 13 = .ok (.aload_n 0, 1) := by decide +kernel
theorem dX10_row_14 : decode cX10_row 14 = .ok (.invokevirtual 134, 3) := by decide +kernel
theorem dX10_row_17 : decode cX10_row 17 = .ok (.iconst (-1), 1) := by decide +kernel
theorem dX10_row_18 : decode cX10_row 18 = .ok (.if_icmp .eq 35, 3) := by decide +kernel
theorem dX10_row_21 : decode cX10_row 21 = .ok (.aload_n 0, 1) := by decide +kernel
theorem dX10_row_22 : decode cX10_row 22 = .ok (.getfield 128, 3) := by decide +kernel
theorem dX10_row_25 : decode cX10_row 25 = .ok (.aload_n 0, 1) := by decide +kernel
theorem dX10_row_26 : decode cX10_row 26 = .ok (.getfield 31, 3) := by decide +kernel
theorem dX10_row_29 : decode cX10_row 29 = .ok (.aload_n 0, 1) := by decide +kernel
theorem dX10_row_30 : decode cX10_row 30 = .ok (.getfield 131, 3) := by decide +kernel
theorem dX10_row_33 : decode cX10_row 33 = .ok (.iaload, 1) := by decide +kernel
theorem dX10_row_34 : decode cX10_row 34 = .ok (.isub, 1) := by decide +kernel
theorem dX10_row_35 : decode cX10_row 35 = .ok (.bipush 12, 2) := by decide +kernel
theorem dX10_row_37 : decode cX10_row 37 = .ok (.if_icmp .ge 16, 3) := by decide +kernel
theorem dX10_row_40 : decode cX10_row 40 = .ok (.aload_n 0, 1) := by decide +kernel
theorem dX10_row_41 : decode cX10_row 41 = .ok (.dup, 1) := by decide +kernel
theorem dX10_row_42 : decode cX10_row 42 = .ok (.getfield 128, 3) := by decide +kernel
theorem dX10_row_45 : decode cX10_row 45 = .ok (.iconst 1, 1) := by decide +kernel
theorem dX10_row_46 : decode cX10_row 46 = .ok (.iadd, 1) := by decide +kernel
theorem dX10_row_47 : decode cX10_row 47 = .ok (.putfield 128, 3) := by decide +kernel
theorem dX10_row_50 : decode cX10_row 50 = .ok (.goto (-37), 3) := by decide +kernel
theorem dX10_row_53 : decode cX10_row 53 = .ok (.aload_n 0, 1) := by decide +kernel
theorem dX10_row_54 : decode cX10_row 54 = .ok (.getfield 128, 3) := by decide +kernel
theorem dX10_row_57 : decode cX10_row 57 = .ok (.aload_n 0, 1) := by decide +kernel
theorem dX10_row_58 : decode cX10_row 58 = .ok (.getfield 31, 3) := by decide +kernel
theorem dX10_row_61 : decode cX10_row 61 = .ok (.aload_n 0, 1) := by decide +kernel
theorem dX10_row_62 : decode cX10_row 62 = .ok (.getfield 131, 3) := by decide +kernel
theorem dX10_row_65 : decode cX10_row 65 = .ok (.iaload, 1) := by decide +kernel
theorem dX10_row_66 : decode cX10_row 66 = .ok (.if_icmp .le 7, 3) := by decide +kernel
theorem dX10_row_69 : decode cX10_row 69 = .ok (.iconst 1, 1) := by decide +kernel
theorem dX10_row_70 : decode cX10_row 70 = .ok (.goto 4, 3) := by decide +kernel
theorem dX10_row_73 : decode cX10_row 73 = .ok (.iconst 0, 1) := by decide +kernel
theorem dX10_row_74 : decode cX10_row 74 = .ok (.istore_n 1, 1) := by decide +kernel
theorem dX10_row_75 : decode cX10_row 75 = .ok (.aload_n 0, 1) := by decide +kernel
theorem dX10_row_76 : decode cX10_row 76 = .ok (.dup, 1) := by decide +kernel
theorem dX10_row_77 : decode cX10_row 77 = .ok (.getfield 131, 3) := by decide +kernel
theorem dX10_row_80 : decode cX10_row 80 = .ok (.iload_n 1, 1) := by decide +kernel
theorem dX10_row_81 : decode cX10_row 81 = .ok (.ifCond .eq 7, 3) := by decide +kernel
theorem dX10_row_84 : decode cX10_row 84 = .ok (.iconst 1, 1) := by decide +kernel
theorem dX10_row_85 : decode cX10_row 85 = .ok (.goto 4, 3) := by decide +kernel
theorem dX10_row_88 : decode cX10_row 88 = .ok (.iconst 0, 1) := by decide +kernel
theorem dX10_row_89 : decode cX10_row 89 = .ok (.iadd, 1) := by decide +kernel
theorem dX10_row_90 : decode cX10_row 90 = .ok (.putfield 131, 3) := by decide +kernel
theorem dX10_row_93 : decode cX10_row 93 = .ok (.iload_n 1, 1) := by decide +kernel
theorem dX10_row_94 : decode cX10_row 94 = .ok (.ireturn, 1) := by decide +kernel
theorem dX10_areRows_0 : decode cX10_areRows 0 = .ok (.aload_n 0, 1) := by decide +kernel
theorem dX10_areRows_1 : decode cX10_areRows 1 = .ok (.iconst 0, 1) := by decide +kernel
theorem dX10_areRows_2 : decode cX10_areRows 2 = .ok (.putfield 128, 3) := by decide +kernel
theorem dX10_areRows_5 : decode cX10_areRows 5 = .ok (.aload_n 0, 1) := by decide +kernel
theorem dX10_areRows_6 : decode cX10_areRows 6 = .ok (.iconst 0, 1) := by decide +kernel
theorem dX10_areRows_7 : decode cX10_areRows 7 = .ok (.putfield 131, 3) := by decide +kernel
theorem dX10_areRows_10 : decode cX10_areRows 10 = .ok (.aload_n 0, 1) := by decide +kernel
theorem dX10_areRows_11 : decode cX10_areRows 11 = .ok (.invokevirtual 137, 3) := by decide +kernel
theorem dX10_areRows_14 : decode cX10_areRows 14 = .ok (.istore_n 1, 1) := by decide +kernel
theorem dX10_areRows_15 : decode cX10_areRows 15 = .ok (.iload_n 1, 1) := by decide +kernel
theorem dX10_areRows_16 : decode cX10_areRows 16 = .ok (.ifCond .eq 46, 3) := by decide +kernel
theorem dX10_areRows_19 : decode cX10_areRows 19 = .ok (.aload_n 0, 1) := by decide +kernel
theorem dX10_areRows_20 : decode cX10_areRows 20 = .ok (.getfield 128, 3) := by decide +kernel
theorem dX10_areRows_23 : decode cX10_areRows 23 = .ok (.aload_n 0, 1) := by decide +kernel
theorem dX10_areRows_24 : decode cX10_areRows 24 = .ok (.getfield 125, 3) := by decide +kernel
theorem dX10_areRows_27 : decode cX10_areRows 27 = .ok (.if_icmp .ge 35, 3) := by decide +kernel
theorem dX10_areRows_30 : decode cX10_areRows 30 = .ok (.aload_n 0, 1) := by decide +kernel
theorem dX10_areRows_31 : decode cX10_areRows 31 = .ok (.getfield 19, 3) := by decide +kernel
theorem dX10_areRows_34 : decode cX10_areRows 34 = .ok (.aload_n 0, 1) := by decide +kernel
theorem dX10_areRows_35 : decode cX10_areRows 35 = .ok (.getfield 128, 3) := by decide +kernel
theorem dX10_areRows_38 : decode cX10_areRows 38 = .ok (.iaload, 1) := by decide +kernel
theorem dX10_areRows_39 : decode cX10_areRows 39 = .ok (.bipush 59, 2) := by decide +kernel
theorem dX10_areRows_41 : decode cX10_areRows 41 = .ok (.if_icmp .ne 21, 3) := by decide +kernel
theorem dX10_areRows_44 : decode cX10_areRows 44 = .ok (.aload_n 0, 1) := by decide +kernel
theorem dX10_areRows_45 : decode cX10_areRows 45 = .ok (.dup, 1) := by decide +kernel
theorem dX10_areRows_46 : decode cX10_areRows 46 = .ok (.getfield 128, 3) := by decide +kernel
theorem dX10_areRows_49 : decode cX10_areRows 49 = .ok (.iconst 1, 1) := by decide +kernel
theorem dX10_areRows_50 : decode cX10_areRows 50 = .ok (.iadd, 1) := by decide +kernel
theorem dX10_areRows_51 : decode cX10_areRows 51 = .ok (.putfield 128, 3) := by decide +kernel
theorem dX10_areRows_54 : decode cX10_areRows 54 = .ok (.aload_n 0, 1) := by decide +kernel
theorem dX10_areRows_55 : decode cX10_areRows 55 = .ok (.invokevirtual 137, 3) := by decide +kernel
theorem dX10_areRows_58 : decode cX10_areRows 58 = .ok (.istore_n 1, 1) := by decide +kernel
theorem dX10_areRows_59 : decode cX10_areRows 59 = .ok (.goto (-44), 3) := by decide +kernel
theorem dX10_areRows_62 : decode cX10_areRows 62 = .ok (.iload_n 1, 1) := by decide +kernel
theorem dX10_areRows_63 : decode cX10_areRows 63 = .ok (.ifCond .eq 18, 3) := by decide +kernel
theorem dX10_areRows_66 : decode cX10_areRows 66 = .ok (.aload_n 0, 1) := by decide +kernel
theorem dX10_areRows_67 : decode cX10_areRows 67 = .ok (.getfield 128, 3) := by decide +kernel
theorem dX10_areRows_70 : decode cX10_areRows 70 = .ok (.aload_n 0, 1) := by decide +kernel
theorem dX10_areRows_71 : decode cX10_areRows 71 = .ok (.getfield 125, 3) := by decide +kernel
theorem dX10_areRows_74 : decode cX10_areRows 74 = .ok (.if_icmp .ne 7, 3) := by decide +kernel
theorem dX10_areRows_77 : decode cX10_areRows 77 = .ok (.iconst 1, 1) := by decide +kernel
theorem dX10_areRows_78 : decode cX10_areRows 78 = .ok (.goto 4, 3) := by decide +kernel
theorem dX10_areRows_81 : decode cX10_areRows 81 = .ok (.iconst 0, 1) := by decide +kernel
theorem dX10_areRows_82 : decode cX10_areRows 82 = .ok (.ireturn, 1) := by decide +kernel
theorem dX10_firstError_0 : decode cX10_firstError 0 = .ok (.aload_n 0, 1) := by decide +kernel
theorem dX10_firstError_1 : decode cX10_firstError 1 = .ok (.iconst 0, 1) := by decide +kernel
theorem dX10_firstError_2 : decode cX10_firstError 2 = .ok (.putfield 34, 3) := by decide +kernel
theorem dX10_firstError_5 : decode cX10_firstError 5 = .ok (.aload_n 0, 1) := by decide +kernel
theorem dX10_firstError_6 : decode cX10_firstError 6 = .ok (.invokevirtual 141, 3) := by decide +kernel
theorem dX10_firstError_9 : decode cX10_firstError 9 = .ok (.ifCond .eq 10, 3) := by decide +kernel
theorem dX10_firstError_12 : decode cX10_firstError 12 = .ok (.aload_n 0, 1) := by decide +kernel
theorem dX10_firstError_13 : decode cX10_firstError 13 = .ok (.getfield 125, 3) := by decide +kernel
theorem dX10_firstError_16 : decode cX10_firstError 16 = .ok (.goto 7, 3) := by decide +kernel
theorem dX10_firstError_19 : decode cX10_firstError 19 = .ok (.aload_n 0, 1) := by decide +kernel
theorem dX10_firstError_20 : decode cX10_firstError 20 = .ok (.getfield 128, 3) := by decide +kernel
theorem dX10_firstError_23 : decode cX10_firstError 23 = .ok (.ireturn, 1) := by decide +kernel
theorem dX10_layText_0 : decode cX10_layText 0 = .ok (.iload_n 1, 1) := by decide +kernel
theorem dX10_layText_1 : decode cX10_layText 1 = .ok (.invokestatic 45, 3) := by decide +kernel
theorem dX10_layText_4 : decode cX10_layText 4 = .ok (.istore_n 3, 1) := by decide +kernel
theorem dX10_layText_5 : decode cX10_layText 5 = .ok (.iload_n 2, 1) := by decide +kernel
theorem dX10_layText_6 : decode cX10_layText 6 = .ok (.iconst 1, 1) := by decide +kernel
theorem dX10_layText_7 : decode cX10_layText 7 = .ok (.iadd, 1) := by decide +kernel
theorem dX10_layText_8 : decode cX10_layText 8 = .ok (.aload_n 0, 1) := by decide +kernel
theorem dX10_layText_9 : decode cX10_layText 9 = .ok (.getfield 131, 3) := by decide +kernel
theorem dX10_layText_12 : decode cX10_layText 12 = .ok (.if_icmp .ge 16, 3) := by decide +kernel
theorem dX10_layText_15 : decode cX10_layText 15 = .ok (.aload_n 0, 1) := by decide +kernel
theorem dX10_layText_16 : decode cX10_layText 16 = .ok (.getfield 31, 3) := by decide +kernel
theorem dX10_layText_19 : decode cX10_layText 19 = .ok (.iload_n 2, 1) := by decide +kernel
theorem dX10_layText_20 : decode cX10_layText 20 = .ok (.iconst 1, 1) := by decide +kernel
theorem dX10_layText_21 : decode cX10_layText 21 = .ok (.iadd, 1) := by decide +kernel
theorem dX10_layText_22 : decode cX10_layText 22 = .ok (.iaload, 1) := by decide +kernel
theorem dX10_layText_23 : decode cX10_layText 23 = .ok (.iconst 1, 1) := by decide +kernel
theorem dX10_layText_24 : decode cX10_layText 24 = .ok (.isub, 1) := by decide +kernel
theorem dX10_layText_25 : decode cX10_layText 25 = .ok (.goto 7, 3) := by decide +kernel
theorem dX10_layText_28 : decode cX10_layText 28 = .ok (.aload_n 0, 1) := by decide +kernel
theorem dX10_layText_29 : decode cX10_layText 29 = .ok (.getfield 125, 3) := by decide +kernel
theorem dX10_layText_32 : decode cX10_layText 32 = .ok (.istore 4, 2) := by decide +kernel
theorem dX10_layText_34 : decode cX10_layText 34 = .ok (.aload_n 0, 1) := by decide +kernel
theorem dX10_layText_35 : decode cX10_layText 35 = .ok (.getfield 7, 3) := by decide +kernel
theorem dX10_layText_38 : decode cX10_layText 38 = .ok (.iload_n 3, 1) := by decide +kernel
theorem dX10_layText_39 : decode cX10_layText 39 = .ok (.iload 4, 2) := by decide +kernel
theorem dX10_layText_41 : decode cX10_layText 41 = .ok (.aload_n 0, 1) := by decide +kernel
theorem dX10_layText_42 : decode cX10_layText 42 = .ok (.getfield 31, 3) := by decide +kernel
theorem dX10_layText_45 : decode cX10_layText 45 = .ok (.iload_n 2, 1) := by decide +kernel
theorem dX10_layText_46 : decode cX10_layText 46 = .ok (.iaload, 1) := by decide +kernel
theorem dX10_layText_47 : decode cX10_layText 47 = .ok (.isub, 1) := by decide +kernel
theorem dX10_layText_48 : decode cX10_layText 48 = .ok (.iastore, 1) := by decide +kernel
theorem dX10_layText_49 : decode cX10_layText 49 = .ok (.iconst 0, 1) := by decide +kernel
theorem dX10_layText_50 : decode cX10_layText 50 = .ok (.istore 5, 2) := by decide +kernel
theorem dX10_layText_52 : decode cX10_layText 52 = .ok (.iload 5, 2) := by decide +kernel
theorem dX10_layText_54 : decode cX10_layText 54 = .ok (.bipush 12, 2) := by decide +kernel
theorem dX10_layText_56 : decode cX10_layText 56 = .ok (.if_icmp .ge 53, 3) := by decide +kernel
theorem dX10_layText_59 : decode cX10_layText 59 = .ok (.aload_n 0, 1) := by decide +kernel
theorem dX10_layText_60 : decode cX10_layText 60 = .ok (.getfield 7, 3) := by decide +kernel
theorem dX10_layText_63 : decode cX10_layText 63 = .ok (.iload_n 3, 1) := by decide +kernel
theorem dX10_layText_64 : decode cX10_layText 64 = .ok (.bipush 10, 2) := by decide +kernel
theorem dX10_layText_66 : decode cX10_layText 66 = .ok (.iadd, 1) := by decide +kernel
theorem dX10_layText_67 : decode cX10_layText 67 = .ok (.iload 5, 2) := by decide +kernel
theorem dX10_layText_69 : decode cX10_layText 69 = .ok (.iadd, 1) := by decide +kernel
theorem dX10_layText_70 : decode cX10_layText 70 = .ok (.iload 5, 2) := by decide +kernel
theorem dX10_layText_72 : decode cX10_layText 72 = .ok (.aload_n 0, 1) := by decide +kernel
theorem dX10_layText_73 : decode cX10_layText 73 = .ok (.getfield 7, 3) := by decide +kernel
theorem dX10_layText_76 : decode cX10_layText 76 = .ok (.iload_n 3, 1) := by decide +kernel
theorem dX10_layText_77 : decode cX10_layText 77 = .ok (.iaload, 1) := by decide +kernel
theorem dX10_layText_78 : decode cX10_layText 78 = .ok (.if_icmp .ge 23, 3) := by decide +kernel
theorem dX10_layText_81 : decode cX10_layText 81 = .ok (.aload_n 0, 1) := by decide +kernel
theorem dX10_layText_82 : decode cX10_layText 82 = .ok (.getfield 19, 3) := by decide +kernel
theorem dX10_layText_85 : decode cX10_layText 85 = .ok (.aload_n 0, 1) := by decide +kernel
theorem dX10_layText_86 : decode cX10_layText 86 = .ok (.getfield 31, 3) := by decide +kernel
theorem dX10_layText_89 : decode cX10_layText 89 = .ok (.iload_n 2, 1) := by decide +kernel
theorem dX10_layText_90 : decode cX10_layText 90 = .ok (.iaload, 1) := by decide +kernel
theorem dX10_layText_91 : decode cX10_layText 91 = .ok (.iload 5, 2) := by decide +kernel
theorem dX10_layText_93 : decode cX10_layText 93 = .ok (.iadd, 1) := by decide +kernel
theorem dX10_layText_94 : decode cX10_layText 94 = .ok (.iaload, 1) := by decide +kernel
theorem dX10_layText_95 : decode cX10_layText 95 = .ok (.bipush 97, 2) := by decide +kernel
theorem dX10_layText_97 : decode cX10_layText 97 = .ok (.isub, 1) := by decide +kernel
theorem dX10_layText_98 : decode cX10_layText 98 = .ok (.goto 4, 3) := by decide +kernel
theorem dX10_layText_101 : decode cX10_layText 101 = .ok (.iconst 0, 1) := by decide +kernel
theorem dX10_layText_102 : decode cX10_layText 102 = .ok (.iastore, 1) := by decide +kernel
theorem dX10_layText_103 : decode cX10_layText 103 = .ok (.iinc 5 1, 3) := by decide +kernel
theorem dX10_layText_106 : decode cX10_layText 106 = .ok (.goto (-54), 3) := by decide +kernel
theorem dX10_layText_109 : decode cX10_layText 109 = .ok (.return_, 1) := by decide +kernel
theorem dX10_add_0 : decode cX10_add 0 = .ok (.aload_n 0, 1) := by decide +kernel
theorem dX10_add_1 : decode cX10_add 1 = .ok (.iconst 0, 1) := by decide +kernel
theorem dX10_add_2 : decode cX10_add 2 = .ok (.putfield 34, 3) := by decide +kernel
theorem dX10_add_5 : decode cX10_add 5 = .ok (.aload_n 0, 1) := by decide +kernel
theorem dX10_add_6 : decode cX10_add 6 = .ok (.invokevirtual 141, 3) := by decide +kernel
theorem dX10_add_9 : decode cX10_add 9 = .ok (.ifCond .ne 9, 3) := by decide +kernel
theorem dX10_add_12 : decode cX10_add 12 = .ok (.aload_n 0, 1) := by decide +kernel
theorem dX10_add_13 : decode cX10_add 13 = .ok (.iconst 1, 1) := by decide +kernel
theorem dX10_add_14 : decode cX10_add 14 = .ok (.invokevirtual 95, 3) := by decide +kernel
theorem dX10_add_17 : decode cX10_add 17 = .ok (.ireturn, 1) := by decide +kernel
theorem dX10_add_18 : decode cX10_add 18 = .ok (.aload_n 0, 1) := by decide +kernel
theorem dX10_add_19 : decode cX10_add 19 = .ok (.getfield 7, 3) := by decide +kernel
theorem dX10_add_22 : decode cX10_add 22 = .ok (.iconst 0, 1) := by decide +kernel
theorem dX10_add_23 : decode cX10_add 23 = .ok (.iaload, 1) := by decide +kernel
theorem dX10_add_24 : decode cX10_add 24 = .ok (.aload_n 0, 1) := by decide +kernel
theorem dX10_add_25 : decode cX10_add 25 = .ok (.getfield 131, 3) := by decide +kernel
theorem dX10_add_28 : decode cX10_add 28 = .ok (.iadd, 1) := by decide +kernel
theorem dX10_add_29 : decode cX10_add 29 = .ok (.bipush 10, 2) := by decide +kernel
theorem dX10_add_31 : decode cX10_add 31 = .ok (.if_icmp .le 9, 3) := by decide +kernel
theorem dX10_add_34 : decode cX10_add 34 = .ok (.aload_n 0, 1) := by decide +kernel
theorem dX10_add_35 : decode cX10_add 35 = .ok (.iconst 2, 1) := by decide +kernel
theorem dX10_add_36 : decode cX10_add 36 = .ok (.invokevirtual 95, 3) := by decide +kernel
theorem dX10_add_39 : decode cX10_add 39 = .ok (.ireturn, 1) := by decide +kernel
theorem dX10_add_40 : decode cX10_add 40 = .ok (.aload_n 0, 1) := by decide +kernel
theorem dX10_add_41 : decode cX10_add 41 = .ok (.invokevirtual 98, 3) := by decide +kernel
theorem dX10_add_44 : decode cX10_add 44 = .ok (.iconst 0, 1) := by decide +kernel
theorem dX10_add_45 : decode cX10_add 45 = .ok (.istore_n 1, 1) := by decide +kernel
theorem dX10_add_46 : decode cX10_add 46 = .ok (.iload_n 1, 1) := by decide +kernel
theorem dX10_add_47 : decode cX10_add 47 = .ok (.aload_n 0, 1) := by decide +kernel
theorem dX10_add_48 : decode cX10_add 48 = .ok (.getfield 131, 3) := by decide +kernel
theorem dX10_add_51 : decode cX10_add 51 = .ok (.if_icmp .ge 73, 3) := by decide +kernel
theorem dX10_add_54 : decode cX10_add 54 = .ok (.aload_n 0, 1) := by decide +kernel
theorem dX10_add_55 : decode cX10_add 55 = .ok (.getfield 7, 3) := by decide +kernel
theorem dX10_add_58 : decode cX10_add 58 = .ok (.iconst 0, 1) := by decide +kernel
theorem dX10_add_59 : decode cX10_add 59 = .ok (.iaload, 1) := by decide +kernel
theorem dX10_add_60 : decode cX10_add 60 = .ok (.invokestatic 45, 3) := by decide +kernel
theorem dX10_add_63 : decode cX10_add 63 = .ok (.istore_n 2, 1) := by decide +kernel
theorem dX10_add_64 : decode cX10_add 64 = .ok (.iconst 0, 1) := by decide +kernel
theorem dX10_add_65 : decode cX10_add 65 = .ok (.istore_n 3, 1) := by decide +kernel
theorem dX10_add_66 : decode cX10_add 66 = .ok (.iload_n 3, 1) := by decide +kernel
theorem dX10_add_67 : decode cX10_add 67 = .ok (.bipush 22, 2) := by decide +kernel
theorem dX10_add_69 : decode cX10_add 69 = .ok (.if_icmp .ge 18, 3) := by decide +kernel
theorem dX10_add_72 : decode cX10_add 72 = .ok (.aload_n 0, 1) := by decide +kernel
theorem dX10_add_73 : decode cX10_add 73 = .ok (.getfield 7, 3) := by decide +kernel
theorem dX10_add_76 : decode cX10_add 76 = .ok (.iload_n 2, 1) := by decide +kernel
theorem dX10_add_77 : decode cX10_add 77 = .ok (.iload_n 3, 1) := by decide +kernel
theorem dX10_add_78 : decode cX10_add 78 = .ok (.iadd, 1) := by decide +kernel
theorem dX10_add_79 : decode cX10_add 79 = .ok (.iconst 0, 1) := by decide +kernel
theorem dX10_add_80 : decode cX10_add 80 = .ok (.iastore, 1) := by decide +kernel
theorem dX10_add_81 : decode cX10_add 81 = .ok (.iinc 3 1, 3) := by decide +kernel
theorem dX10_add_84 : decode cX10_add 84 = .ok (.goto (-18), 3) := by decide +kernel
theorem dX10_add_87 : decode cX10_add 87 = .ok (.aload_n 0, 1) := by decide +kernel
theorem dX10_add_88 : decode cX10_add 88 = .ok (.getfield 7, 3) := by decide +kernel
theorem dX10_add_91 : decode cX10_add 91 = .ok (.iload_n 2, 1) := by decide +kernel
theorem dX10_add_92 : decode cX10_add 92 = .ok (.bipush 7, 2) := by decide +kernel
theorem dX10_add_94 : decode cX10_add 94 = .ok (.iadd, 1) := by decide +kernel
theorem dX10_add_95 : decode cX10_add 95 = .ok (.iconst (-1), 1) := by decide +kernel
theorem dX10_add_96 : decode cX10_add 96 = .ok (.iastore, 1) := by decide +kernel
theorem dX10_add_97 : decode cX10_add 97 = .ok (.aload_n 0, 1) := by decide +kernel
theorem dX10_add_98 : decode cX10_add 98 = .ok (.aload_n 0, 1) := by decide +kernel
theorem dX10_add_99 : decode cX10_add 99 = .ok (.getfield 7, 3) := by decide +kernel
theorem dX10_add_102 : decode cX10_add 102 = .ok (.iconst 0, 1) := by decide +kernel
theorem dX10_add_103 : decode cX10_add 103 = .ok (.iaload, 1) := by decide +kernel
theorem dX10_add_104 : decode cX10_add 104 = .ok (.iload_n 1, 1) := by decide +kernel
theorem dX10_add_105 : decode cX10_add 105 = .ok (.invokevirtual 144, 3) := by decide +kernel
theorem dX10_add_108 : decode cX10_add 108 = .ok (.aload_n 0, 1) := by decide +kernel
theorem dX10_add_109 : decode cX10_add 109 = .ok (.getfield 7, 3) := by decide +kernel
theorem dX10_add_112 : decode cX10_add 112 = .ok (.iconst 0, 1) := by decide +kernel
theorem dX10_add_113 : decode cX10_add 113 = .ok (.dup2, 1) := by decide +kernel
theorem dX10_add_114 : decode cX10_add 114 = .ok (.iaload, 1) := by decide +kernel
theorem dX10_add_115 : decode cX10_add 115 = .ok (.iconst 1, 1) := by decide +kernel
theorem dX10_add_116 : decode cX10_add 116 = .ok (.iadd, 1) := by decide +kernel
theorem dX10_add_117 : decode cX10_add 117 = .ok (.iastore, 1) := by decide +kernel
theorem dX10_add_118 : decode cX10_add 118 = .ok (.iinc 1 1, 3) := by decide +kernel
theorem dX10_add_121 : decode cX10_add 121 = .ok (.goto (-75), 3) := by decide +kernel
theorem dX10_add_124 : decode cX10_add 124 = .ok (.aload_n 0, 1) := by decide +kernel
theorem dX10_add_125 : decode cX10_add 125 = .ok (.iconst 0, 1) := by decide +kernel
theorem dX10_add_126 : decode cX10_add 126 = .ok (.putfield 125, 3) := by decide +kernel
theorem dX10_add_129 : decode cX10_add 129 = .ok (.aload_n 0, 1) := by decide +kernel
theorem dX10_add_130 : decode cX10_add 130 = .ok (.getfield 7, 3) := by decide +kernel
theorem dX10_add_133 : decode cX10_add 133 = .ok (.iconst 0, 1) := by decide +kernel
theorem dX10_add_134 : decode cX10_add 134 = .ok (.iaload, 1) := by decide +kernel
theorem dX10_add_135 : decode cX10_add 135 = .ok (.ireturn, 1) := by decide +kernel
theorem dX10_change_0 : decode cX10_change 0 = .ok (.aload_n 0, 1) := by decide +kernel
theorem dX10_change_1 : decode cX10_change 1 = .ok (.iconst 0, 1) := by decide +kernel
theorem dX10_change_2 : decode cX10_change 2 = .ok (.putfield 34, 3) := by decide +kernel
theorem dX10_change_5 : decode cX10_change 5 = .ok (.aload_n 0, 1) := by decide +kernel
theorem dX10_change_6 : decode cX10_change 6 = .ok (.iload_n 1, 1) := by decide +kernel
theorem dX10_change_7 : decode cX10_change 7 = .ok (.invokevirtual 107, 3) := by decide +kernel
theorem dX10_change_10 : decode cX10_change 10 = .ok (.ifCond .ne 9, 3) := by decide +kernel
theorem dX10_change_13 : decode cX10_change 13 = .ok (.aload_n 0, 1) := by decide +kernel
theorem dX10_change_14 : decode cX10_change 14 = .ok (.iconst 1, 1) := by decide +kernel
theorem dX10_change_15 : decode cX10_change 15 = .ok (.invokevirtual 95, 3) := by decide +kernel
theorem dX10_change_18 : decode cX10_change 18 = .ok (.ireturn, 1) := by decide +kernel
theorem dX10_change_19 : decode cX10_change 19 = .ok (.aload_n 0, 1) := by decide +kernel
theorem dX10_change_20 : decode cX10_change 20 = .ok (.invokevirtual 141, 3) := by decide +kernel
theorem dX10_change_23 : decode cX10_change 23 = .ok (.ifCond .eq 11, 3) := by decide +kernel
theorem dX10_change_26 : decode cX10_change 26 = .ok (.aload_n 0, 1) := by decide +kernel
theorem dX10_change_27 : decode cX10_change 27 = .ok (.getfield 131, 3) := by decide +kernel
theorem dX10_change_30 : decode cX10_change 30 = .ok (.iconst 1, 1) := by decide +kernel
theorem dX10_change_31 : decode cX10_change 31 = .ok (.if_icmp .eq 9, 3) := by decide +kernel
theorem dX10_change_34 : decode cX10_change 34 = .ok (.aload_n 0, 1) := by decide +kernel
theorem dX10_change_35 : decode cX10_change 35 = .ok (.iconst 2, 1) := by decide +kernel
theorem dX10_change_36 : decode cX10_change 36 = .ok (.invokevirtual 95, 3) := by decide +kernel
theorem dX10_change_39 : decode cX10_change 39 = .ok (.ireturn, 1) := by decide +kernel
theorem dX10_change_40 : decode cX10_change 40 = .ok (.aload_n 0, 1) := by decide +kernel
theorem dX10_change_41 : decode cX10_change 41 = .ok (.invokevirtual 98, 3) := by decide +kernel
theorem dX10_change_44 : decode cX10_change 44 = .ok (.iload_n 1, 1) := by decide +kernel
theorem dX10_change_45 : decode cX10_change 45 = .ok (.invokestatic 45, 3) := by decide +kernel
theorem dX10_change_48 : decode cX10_change 48 = .ok (.istore_n 2, 1) := by decide +kernel
theorem dX10_change_49 : decode cX10_change 49 = .ok (.aload_n 0, 1) := by decide +kernel
theorem dX10_change_50 : decode cX10_change 50 = .ok (.iload_n 1, 1) := by decide +kernel
theorem dX10_change_51 : decode cX10_change 51 = .ok (.iconst 0, 1) := by decide +kernel
theorem dX10_change_52 : decode cX10_change 52 = .ok (.invokevirtual 144, 3) := by decide +kernel
theorem dX10_change_55 : decode cX10_change 55 = .ok (.aload_n 0, 1) := by decide +kernel
theorem dX10_change_56 : decode cX10_change 56 = .ok (.getfield 7, 3) := by decide +kernel
theorem dX10_change_59 : decode cX10_change 59 = .ok (.iload_n 2, 1) := by decide +kernel
theorem dX10_change_60 : decode cX10_change 60 = .ok (.iconst 1, 1) := by decide +kernel
theorem dX10_change_61 : decode cX10_change 61 = .ok (.iadd, 1) := by decide +kernel
theorem dX10_change_62 : decode cX10_change 62 = .ok (.iaload, 1) := by decide +kernel
theorem dX10_change_63 : decode cX10_change 63 = .ok (.iconst 1, 1) := by decide +kernel
theorem dX10_change_64 : decode cX10_change 64 = .ok (.if_icmp .le 61, 3) := by decide +kernel
theorem dX10_change_67 : decode cX10_change 67 = .ok (.aload_n 0, 1) := by decide +kernel
theorem dX10_change_68 : decode cX10_change 68 = .ok (.getfield 7, 3) := by decide +kernel
theorem dX10_change_71 : decode cX10_change 71 = .ok (.iload_n 2, 1) := by decide +kernel
theorem dX10_change_72 : decode cX10_change 72 = .ok (.bipush 6, 2) := by decide +kernel
theorem dX10_change_74 : decode cX10_change 74 = .ok (.iadd, 1) := by decide +kernel
theorem dX10_change_75 : decode cX10_change 75 = .ok (.dup2, 1) := by decide +kernel
theorem dX10_change_76 : decode cX10_change 76 = .ok (.iaload, 1) := by decide +kernel
theorem dX10_change_77 : decode cX10_change 77 = .ok (.aload_n 0, 1) := by decide +kernel
theorem dX10_change_78 : decode cX10_change 78 = .ok (.getfield 7, 3) := by decide +kernel
theorem dX10_change_81 : decode cX10_change 81 = .ok (.iload_n 2, 1) := by decide +kernel
theorem dX10_change_82 : decode cX10_change 82 = .ok (.iconst 5, 1) := by decide +kernel
theorem dX10_change_83 : decode cX10_change 83 = .ok (.iadd, 1) := by decide +kernel
theorem dX10_change_84 : decode cX10_change 84 = .ok (.iaload, 1) := by decide +kernel
theorem dX10_change_85 : decode cX10_change 85 = .ok (.iadd, 1) := by decide +kernel
theorem dX10_change_86 : decode cX10_change 86 = .ok (.iastore, 1) := by decide +kernel
theorem dX10_change_87 : decode cX10_change 87 = .ok (.aload_n 0, 1) := by decide +kernel
theorem dX10_change_88 : decode cX10_change 88 = .ok (.getfield 7, 3) := by decide +kernel
theorem dX10_change_91 : decode cX10_change 91 = .ok (.iload_n 2, 1) := by decide +kernel
theorem dX10_change_92 : decode cX10_change 92 = .ok (.iconst 5, 1) := by decide +kernel
theorem dX10_change_93 : decode cX10_change 93 = .ok (.iadd, 1) := by decide +kernel
theorem dX10_change_94 : decode cX10_change 94 = .ok (.iconst 0, 1) := by decide +kernel
theorem dX10_change_95 : decode cX10_change 95 = .ok (.iastore, 1) := by decide +kernel
theorem dX10_change_96 : decode cX10_change 96 = .ok (.aload_n 0, 1) := by decide +kernel
theorem dX10_change_97 : decode cX10_change 97 = .ok (.getfield 7, 3) := by decide +kernel
theorem dX10_change_100 : decode cX10_change 100 = .ok (.iload_n 2, 1) := by decide +kernel
theorem dX10_change_101 : decode cX10_change 101 = .ok (.bipush 7, 2) := by decide +kernel
theorem dX10_change_103 : decode cX10_change 103 = .ok (.iadd, 1) := by decide +kernel
theorem dX10_change_104 : decode cX10_change 104 = .ok (.iconst (-1), 1) := by decide +kernel
theorem dX10_change_105 : decode cX10_change 105 = .ok (.iastore, 1) := by decide +kernel
theorem dX10_change_106 : decode cX10_change 106 = .ok (.aload_n 0, 1) := by decide +kernel
theorem dX10_change_107 : decode cX10_change 107 = .ok (.getfield 7, 3) := by decide +kernel
theorem dX10_change_110 : decode cX10_change 110 = .ok (.iload_n 2, 1) := by decide +kernel
theorem dX10_change_111 : decode cX10_change 111 = .ok (.bipush 8, 2) := by decide +kernel
theorem dX10_change_113 : decode cX10_change 113 = .ok (.iadd, 1) := by decide +kernel
theorem dX10_change_114 : decode cX10_change 114 = .ok (.iconst 0, 1) := by decide +kernel
theorem dX10_change_115 : decode cX10_change 115 = .ok (.iastore, 1) := by decide +kernel
theorem dX10_change_116 : decode cX10_change 116 = .ok (.aload_n 0, 1) := by decide +kernel
theorem dX10_change_117 : decode cX10_change 117 = .ok (.getfield 7, 3) := by decide +kernel
theorem dX10_change_120 : decode cX10_change 120 = .ok (.iload_n 2, 1) := by decide +kernel
theorem dX10_change_121 : decode cX10_change 121 = .ok (.iconst 1, 1) := by decide +kernel
theorem dX10_change_122 : decode cX10_change 122 = .ok (.iadd, 1) := by decide +kernel
theorem dX10_change_123 : decode cX10_change 123 = .ok (.iconst 1, 1) := by decide +kernel
theorem dX10_change_124 : decode cX10_change 124 = .ok (.iastore, 1) := by decide +kernel
theorem dX10_change_125 : decode cX10_change 125 = .ok (.aload_n 0, 1) := by decide +kernel
theorem dX10_change_126 : decode cX10_change 126 = .ok (.getfield 7, 3) := by decide +kernel
theorem dX10_change_129 : decode cX10_change 129 = .ok (.iload_n 2, 1) := by decide +kernel
theorem dX10_change_130 : decode cX10_change 130 = .ok (.iconst 1, 1) := by decide +kernel
theorem dX10_change_131 : decode cX10_change 131 = .ok (.iadd, 1) := by decide +kernel
theorem dX10_change_132 : decode cX10_change 132 = .ok (.iaload, 1) := by decide +kernel
theorem dX10_change_133 : decode cX10_change 133 = .ok (.iconst 1, 1) := by decide +kernel
theorem dX10_change_134 : decode cX10_change 134 = .ok (.if_icmp .ne 8, 3) := by decide +kernel
theorem dX10_change_137 : decode cX10_change 137 = .ok (.aload_n 0, 1) := by decide +kernel
theorem dX10_change_138 : decode cX10_change 138 = .ok (.iload_n 1, 1) := by decide +kernel
theorem dX10_change_139 : decode cX10_change 139 = .ok (.invokevirtual 110, 3) := by decide +kernel
theorem dX10_change_142 : decode cX10_change 142 = .ok (.aload_n 0, 1) := by decide +kernel
theorem dX10_change_143 : decode cX10_change 143 = .ok (.iconst 0, 1) := by decide +kernel
theorem dX10_change_144 : decode cX10_change 144 = .ok (.putfield 125, 3) := by decide +kernel
theorem dX10_change_147 : decode cX10_change 147 = .ok (.aload_n 0, 1) := by decide +kernel
theorem dX10_change_148 : decode cX10_change 148 = .ok (.getfield 7, 3) := by decide +kernel
theorem dX10_change_151 : decode cX10_change 151 = .ok (.iload_n 2, 1) := by decide +kernel
theorem dX10_change_152 : decode cX10_change 152 = .ok (.iconst 1, 1) := by decide +kernel
theorem dX10_change_153 : decode cX10_change 153 = .ok (.iadd, 1) := by decide +kernel
theorem dX10_change_154 : decode cX10_change 154 = .ok (.iaload, 1) := by decide +kernel
theorem dX10_change_155 : decode cX10_change 155 = .ok (.ireturn, 1) := by decide +kernel
theorem dX10_undo_0 : decode cX10_undo 0 = .ok (.aload_n 0, 1) := by decide +kernel
theorem dX10_undo_1 : decode cX10_undo 1 = .ok (.iconst 0, 1) := by decide +kernel
theorem dX10_undo_2 : decode cX10_undo 2 = .ok (.putfield 34, 3) := by decide +kernel
theorem dX10_undo_5 : decode cX10_undo 5 = .ok (.aload_n 0, 1) := by decide +kernel
theorem dX10_undo_6 : decode cX10_undo 6 = .ok (.getfield 38, 3) := by decide +kernel
theorem dX10_undo_9 : decode cX10_undo 9 = .ok (.ifCond .ne 9, 3) := by decide +kernel
theorem dX10_undo_12 : decode cX10_undo 12 = .ok (.aload_n 0, 1) := by decide +kernel
theorem dX10_undo_13 : decode cX10_undo 13 = .ok (.iconst 1, 1) := by decide +kernel
theorem dX10_undo_14 : decode cX10_undo 14 = .ok (.invokevirtual 95, 3) := by decide +kernel
theorem dX10_undo_17 : decode cX10_undo 17 = .ok (.ireturn, 1) := by decide +kernel
theorem dX10_undo_18 : decode cX10_undo 18 = .ok (.aload_n 0, 1) := by decide +kernel
theorem dX10_undo_19 : decode cX10_undo 19 = .ok (.dup, 1) := by decide +kernel
theorem dX10_undo_20 : decode cX10_undo 20 = .ok (.getfield 38, 3) := by decide +kernel
theorem dX10_undo_23 : decode cX10_undo 23 = .ok (.iconst 1, 1) := by decide +kernel
theorem dX10_undo_24 : decode cX10_undo 24 = .ok (.isub, 1) := by decide +kernel
theorem dX10_undo_25 : decode cX10_undo 25 = .ok (.putfield 38, 3) := by decide +kernel
theorem dX10_undo_28 : decode cX10_undo 28 = .ok (.iconst 0, 1) := by decide +kernel
theorem dX10_undo_29 : decode cX10_undo 29 = .ok (.istore_n 1, 1) := by decide +kernel
theorem dX10_undo_30 : decode cX10_undo 30 = .ok (.iload_n 1, 1) := by decide +kernel
theorem dX10_undo_31 : decode cX10_undo 31 = .ok (.sipush 689, 3) := by decide +kernel
theorem dX10_undo_34 : decode cX10_undo 34 = .ok (.if_icmp .ge 30, 3) := by decide +kernel
theorem dX10_undo_37 : decode cX10_undo 37 = .ok (.aload_n 0, 1) := by decide +kernel
theorem dX10_undo_38 : decode cX10_undo 38 = .ok (.getfield 7, 3) := by decide +kernel
theorem dX10_undo_41 : decode cX10_undo 41 = .ok (.iload_n 1, 1) := by decide +kernel
theorem dX10_undo_42 : decode cX10_undo 42 = .ok (.aload_n 0, 1) := by decide +kernel
theorem dX10_undo_43 : decode cX10_undo 43 = .ok (.getfield 13, 3) := by decide +kernel
theorem dX10_undo_46 : decode cX10_undo 46 = .ok (.sipush 689, 3) := by decide +kernel
theorem dX10_undo_49 : decode cX10_undo 49 = .ok (.aload_n 0, 1) := by decide +kernel
theorem dX10_undo_50 : decode cX10_undo 50 = .ok (.getfield 38, 3) := by decide +kernel
theorem dX10_undo_53 : decode cX10_undo 53 = .ok (.imul, 1) := by decide +kernel
theorem dX10_undo_54 : decode cX10_undo 54 = .ok (.iload_n 1, 1) := by decide +kernel
theorem dX10_undo_55 : decode cX10_undo 55 = .ok (.iadd, 1) := by decide +kernel
theorem dX10_undo_56 : decode cX10_undo 56 = .ok (.iaload, 1) := by decide +kernel
theorem dX10_undo_57 : decode cX10_undo 57 = .ok (.iastore, 1) := by decide +kernel
theorem dX10_undo_58 : decode cX10_undo 58 = .ok (.iinc 1 1, 3) := by decide +kernel
theorem dX10_undo_61 : decode cX10_undo 61 = .ok (.goto (-31), 3) := by decide +kernel
theorem dX10_undo_64 : decode cX10_undo 64 = .ok (.aload_n 0, 1) := by decide +kernel
theorem dX10_undo_65 : decode cX10_undo 65 = .ok (.getfield 38, 3) := by decide +kernel
theorem dX10_undo_68 : decode cX10_undo 68 = .ok (.ireturn, 1) := by decide +kernel
theorem dX10_segmentOf_0 : decode cX10_segmentOf 0 = .ok (.iload_n 1, 1) := by decide +kernel
theorem dX10_segmentOf_1 : decode cX10_segmentOf 1 = .ok (.invokestatic 45, 3) := by decide +kernel
theorem dX10_segmentOf_4 : decode cX10_segmentOf 4 = .ok (.istore_n 3, 1) := by decide +kernel
theorem dX10_segmentOf_5 : decode cX10_segmentOf 5 = .ok (.aload_n 0, 1) := by decide +kernel
theorem dX10_segmentOf_6 : decode cX10_segmentOf 6 = .ok (.getfield 7, 3) := by decide +kernel
theorem dX10_segmentOf_9 : decode cX10_segmentOf 9 = .ok (.iload_n 3, 1) := by decide +kernel
theorem dX10_segmentOf_10 : decode cX10_segmentOf 10 = .ok (.iconst 1, 1) := by decide +kernel
theorem dX10_segmentOf_11 : decode cX10_segmentOf 11 = .ok (.iadd, 1) := by decide +kernel
theorem dX10_segmentOf_12 : decode cX10_segmentOf 12 = .ok (.iaload, 1) := by decide +kernel
theorem dX10_segmentOf_13 : decode cX10_segmentOf 13 = .ok (.ifCond .ne 7, 3) := by decide +kernel
theorem dX10_segmentOf_16 : decode cX10_segmentOf 16 = .ok (.iconst 1, 1) := by decide +kernel
theorem dX10_segmentOf_17 : decode cX10_segmentOf 17 = .ok (.goto 4, 3) := by decide +kernel
theorem dX10_segmentOf_20 : decode cX10_segmentOf 20 = .ok (.iconst 0, 1) := by decide +kernel
theorem dX10_segmentOf_21 : decode cX10_segmentOf 21 = .ok (.istore 4, 2) := by decide +kernel
theorem dX10_segmentOf_23 : decode cX10_segmentOf 23 = .ok (.iload_n 2, 1) := by decide +kernel
theorem dX10_segmentOf_24 : decode cX10_segmentOf 24 = .ok (.tableswitch 130 0 10 #[60, 60, 69, 87, 93, 99, 99, 119, 119, 119, 119], 60) := by decide +kernel
theorem dX10_segmentOf_84 : decode cX10_segmentOf 84 = .ok (.aload_n 0, 1) := by decide +kernel
theorem dX10_segmentOf_85 : decode cX10_segmentOf 85 = .ok (.getfield 7, 3) := by decide +kernel
theorem dX10_segmentOf_88 : decode cX10_segmentOf 88 = .ok (.iload_n 3, 1) := by decide +kernel
theorem dX10_segmentOf_89 : decode cX10_segmentOf 89 = .ok (.iload_n 2, 1) := by decide +kernel
theorem dX10_segmentOf_90 : decode cX10_segmentOf 90 = .ok (.iadd, 1) := by decide +kernel
theorem dX10_segmentOf_91 : decode cX10_segmentOf 91 = .ok (.iaload, 1) := by decide +kernel
theorem dX10_segmentOf_92 : decode cX10_segmentOf 92 = .ok (.ireturn, 1) := by decide +kernel
theorem dX10_segmentOf_93 : decode cX10_segmentOf 93 = .ok (.iload 4, 2) := by decide +kernel
theorem dX10_segmentOf_95 : decode cX10_segmentOf 95 = .ok (.ifCond .eq 7, 3) := by decide +kernel
theorem dX10_segmentOf_98 : decode cX10_segmentOf 98 = .ok (.iconst (-1), 1) := by decide +kernel
theorem dX10_segmentOf_99 : decode cX10_segmentOf 99 = .ok (.goto 11, 3) := by decide +kernel
theorem dX10_segmentOf_102 : decode cX10_segmentOf 102 = .ok (.aload_n 0, 1) := by decide +kernel
theorem dX10_segmentOf_103 : decode cX10_segmentOf 103 = .ok (.getfield 7, 3) := by decide +kernel
theorem dX10_segmentOf_106 : decode cX10_segmentOf 106 = .ok (.iload_n 3, 1) := by decide +kernel
theorem dX10_segmentOf_107 : decode cX10_segmentOf 107 = .ok (.iconst 2, 1) := by decide +kernel
theorem dX10_segmentOf_108 : decode cX10_segmentOf 108 = .ok (.iadd, 1) := by decide +kernel
theorem dX10_segmentOf_109 : decode cX10_segmentOf 109 = .ok (.iaload, 1) := by decide +kernel
theorem dX10_segmentOf_110 : decode cX10_segmentOf 110 = .ok (.ireturn, 1) := by decide +kernel
theorem dX10_segmentOf_111 : decode cX10_segmentOf 111 = .ok (.aload_n 0, 1) := by decide +kernel
theorem dX10_segmentOf_112 : decode cX10_segmentOf 112 = .ok (.iload_n 1, 1) := by decide +kernel
theorem dX10_segmentOf_113 : decode cX10_segmentOf 113 = .ok (.invokevirtual 75, 3) := by decide +kernel
theorem dX10_segmentOf_116 : decode cX10_segmentOf 116 = .ok (.ireturn, 1) := by decide +kernel
theorem dX10_segmentOf_117 : decode cX10_segmentOf 117 = .ok (.aload_n 0, 1) := by decide +kernel
theorem dX10_segmentOf_118 : decode cX10_segmentOf 118 = .ok (.iload_n 1, 1) := by decide +kernel
theorem dX10_segmentOf_119 : decode cX10_segmentOf 119 = .ok (.invokevirtual 72, 3) := by decide +kernel
theorem dX10_segmentOf_122 : decode cX10_segmentOf 122 = .ok (.ireturn, 1) := by decide +kernel
theorem dX10_segmentOf_123 : decode cX10_segmentOf 123 = .ok (.iload 4, 2) := by decide +kernel
theorem dX10_segmentOf_125 : decode cX10_segmentOf 125 = .ok (.ifCond .eq 7, 3) := by decide +kernel
theorem dX10_segmentOf_128 : decode cX10_segmentOf 128 = .ok (.iconst (-1), 1) := by decide +kernel
theorem dX10_segmentOf_129 : decode cX10_segmentOf 129 = .ok (.goto 13, 3) := by decide +kernel
theorem dX10_segmentOf_132 : decode cX10_segmentOf 132 = .ok (.aload_n 0, 1) := by decide +kernel
theorem dX10_segmentOf_133 : decode cX10_segmentOf 133 = .ok (.getfield 7, 3) := by decide +kernel
theorem dX10_segmentOf_136 : decode cX10_segmentOf 136 = .ok (.iload_n 3, 1) := by decide +kernel
theorem dX10_segmentOf_137 : decode cX10_segmentOf 137 = .ok (.iload_n 2, 1) := by decide +kernel
theorem dX10_segmentOf_138 : decode cX10_segmentOf 138 = .ok (.iadd, 1) := by decide +kernel
theorem dX10_segmentOf_139 : decode cX10_segmentOf 139 = .ok (.iconst 2, 1) := by decide +kernel
theorem dX10_segmentOf_140 : decode cX10_segmentOf 140 = .ok (.isub, 1) := by decide +kernel
theorem dX10_segmentOf_141 : decode cX10_segmentOf 141 = .ok (.iaload, 1) := by decide +kernel
theorem dX10_segmentOf_142 : decode cX10_segmentOf 142 = .ok (.ireturn, 1) := by decide +kernel
theorem dX10_segmentOf_143 : decode cX10_segmentOf 143 = .ok (.aload_n 0, 1) := by decide +kernel
theorem dX10_segmentOf_144 : decode cX10_segmentOf 144 = .ok (.getfield 7, 3) := by decide +kernel
theorem dX10_segmentOf_147 : decode cX10_segmentOf 147 = .ok (.iload_n 3, 1) := by decide +kernel
theorem dX10_segmentOf_148 : decode cX10_segmentOf 148 = .ok (.iload_n 2, 1) := by decide +kernel
theorem dX10_segmentOf_149 : decode cX10_segmentOf 149 = .ok (.iadd, 1) := by decide +kernel
theorem dX10_segmentOf_150 : decode cX10_segmentOf 150 = .ok (.iconst 2, 1) := by decide +kernel
theorem dX10_segmentOf_151 : decode cX10_segmentOf 151 = .ok (.isub, 1) := by decide +kernel
theorem dX10_segmentOf_152 : decode cX10_segmentOf 152 = .ok (.iaload, 1) := by decide +kernel
theorem dX10_segmentOf_153 : decode cX10_segmentOf 153 = .ok (.ireturn, 1) := by decide +kernel
theorem dX10_segmentOf_154 : decode cX10_segmentOf 154 = .ok (.aload_n 0, 1) := by decide +kernel
theorem dX10_segmentOf_155 : decode cX10_segmentOf 155 = .ok (.iload_n 1, 1) := by decide +kernel
theorem dX10_segmentOf_156 : decode cX10_segmentOf 156 = .ok (.invokevirtual 113, 3) := by decide +kernel
theorem dX10_segmentOf_159 : decode cX10_segmentOf 159 = .ok (.ifCond .eq 7, 3) := by decide +kernel
theorem dX10_segmentOf_162 : decode cX10_segmentOf 162 = .ok (.iconst 1, 1) := by decide +kernel
theorem dX10_segmentOf_163 : decode cX10_segmentOf 163 = .ok (.goto 4, 3) := by decide +kernel
theorem dX10_segmentOf_166 : decode cX10_segmentOf 166 = .ok (.iconst 0, 1) := by decide +kernel
theorem dX10_segmentOf_167 : decode cX10_segmentOf 167 = .ok (.ireturn, 1) := by decide +kernel
theorem dX10_segment_0 : decode cX10_segment 0 = .ok (.aload_n 0, 1) := by decide +kernel
theorem dX10_segment_1 : decode cX10_segment 1 = .ok (.iconst 0, 1) := by decide +kernel
theorem dX10_segment_2 : decode cX10_segment 2 = .ok (.putfield 34, 3) := by decide +kernel
theorem dX10_segment_5 : decode cX10_segment 5 = .ok (.aload_n 0, 1) := by decide +kernel
theorem dX10_segment_6 : decode cX10_segment 6 = .ok (.iload_n 1, 1) := by decide +kernel
theorem dX10_segment_7 : decode cX10_segment 7 = .ok (.invokevirtual 107, 3) := by decide +kernel
theorem dX10_segment_10 : decode cX10_segment 10 = .ok (.ifCond .ne 9, 3) := by decide +kernel
theorem dX10_segment_13 : decode cX10_segment 13 = .ok (.aload_n 0, 1) := by decide +kernel
theorem dX10_segment_14 : decode cX10_segment 14 = .ok (.iconst 1, 1) := by decide +kernel
theorem dX10_segment_15 : decode cX10_segment 15 = .ok (.invokevirtual 95, 3) := by decide +kernel
theorem dX10_segment_18 : decode cX10_segment 18 = .ok (.ireturn, 1) := by decide +kernel
theorem dX10_segment_19 : decode cX10_segment 19 = .ok (.iload_n 2, 1) := by decide +kernel
theorem dX10_segment_20 : decode cX10_segment 20 = .ok (.iconst 0, 1) := by decide +kernel
theorem dX10_segment_21 : decode cX10_segment 21 = .ok (.bipush 11, 2) := by decide +kernel
theorem dX10_segment_23 : decode cX10_segment 23 = .ok (.invokestatic 41, 3) := by decide +kernel
theorem dX10_segment_26 : decode cX10_segment 26 = .ok (.ifCond .eq 12, 3) := by decide +kernel
theorem dX10_segment_29 : decode cX10_segment 29 = .ok (.aload_n 0, 1) := by decide +kernel
theorem dX10_segment_30 : decode cX10_segment 30 = .ok (.iload_n 1, 1) := by decide +kernel
theorem dX10_segment_31 : decode cX10_segment 31 = .ok (.iload_n 2, 1) := by decide +kernel
theorem dX10_segment_32 : decode cX10_segment 32 = .ok (.invokevirtual 148, 3) := by decide +kernel
theorem dX10_segment_35 : decode cX10_segment 35 = .ok (.goto 8, 3) := by decide +kernel
theorem dX10_segment_38 : decode cX10_segment 38 = .ok (.aload_n 0, 1) := by decide +kernel
theorem dX10_segment_39 : decode cX10_segment 39 = .ok (.iconst 2, 1) := by decide +kernel
theorem dX10_segment_40 : decode cX10_segment 40 = .ok (.invokevirtual 95, 3) := by decide +kernel
theorem dX10_segment_43 : decode cX10_segment 43 = .ok (.ireturn, 1) := by decide +kernel
theorem dX10_wordOf_0 : decode cX10_wordOf 0 = .ok (.iload_n 2, 1) := by decide +kernel
theorem dX10_wordOf_1 : decode cX10_wordOf 1 = .ok (.aload_n 0, 1) := by decide +kernel
theorem dX10_wordOf_2 : decode cX10_wordOf 2 = .ok (.getfield 7, 3) := by decide +kernel
theorem dX10_wordOf_5 : decode cX10_wordOf 5 = .ok (.iload_n 1, 1) := by decide +kernel
theorem dX10_wordOf_6 : decode cX10_wordOf 6 = .ok (.invokestatic 45, 3) := by decide +kernel
theorem dX10_wordOf_9 : decode cX10_wordOf 9 = .ok (.iaload, 1) := by decide +kernel
theorem dX10_wordOf_10 : decode cX10_wordOf 10 = .ok (.if_icmp .ge 20, 3) := by decide +kernel
theorem dX10_wordOf_13 : decode cX10_wordOf 13 = .ok (.aload_n 0, 1) := by decide +kernel
theorem dX10_wordOf_14 : decode cX10_wordOf 14 = .ok (.getfield 7, 3) := by decide +kernel
theorem dX10_wordOf_17 : decode cX10_wordOf 17 = .ok (.iload_n 1, 1) := by decide +kernel
theorem dX10_wordOf_18 : decode cX10_wordOf 18 = .ok (.invokestatic 45, 3) := by decide +kernel
theorem dX10_wordOf_21 : decode cX10_wordOf 21 = .ok (.bipush 10, 2) := by decide +kernel
theorem dX10_wordOf_23 : decode cX10_wordOf 23 = .ok (.iadd, 1) := by decide +kernel
theorem dX10_wordOf_24 : decode cX10_wordOf 24 = .ok (.iload_n 2, 1) := by decide +kernel
theorem dX10_wordOf_25 : decode cX10_wordOf 25 = .ok (.iadd, 1) := by decide +kernel
theorem dX10_wordOf_26 : decode cX10_wordOf 26 = .ok (.iaload, 1) := by decide +kernel
theorem dX10_wordOf_27 : decode cX10_wordOf 27 = .ok (.goto 4, 3) := by decide +kernel
theorem dX10_wordOf_30 : decode cX10_wordOf 30 = .ok (.iconst (-1), 1) := by decide +kernel
theorem dX10_wordOf_31 : decode cX10_wordOf 31 = .ok (.ireturn, 1) := by decide +kernel
theorem dX10_word_0 : decode cX10_word 0 = .ok (.aload_n 0, 1) := by decide +kernel
theorem dX10_word_1 : decode cX10_word 1 = .ok (.iconst 0, 1) := by decide +kernel
theorem dX10_word_2 : decode cX10_word 2 = .ok (.putfield 34, 3) := by decide +kernel
theorem dX10_word_5 : decode cX10_word 5 = .ok (.aload_n 0, 1) := by decide +kernel
theorem dX10_word_6 : decode cX10_word 6 = .ok (.iload_n 1, 1) := by decide +kernel
theorem dX10_word_7 : decode cX10_word 7 = .ok (.invokevirtual 107, 3) := by decide +kernel
theorem dX10_word_10 : decode cX10_word 10 = .ok (.ifCond .ne 9, 3) := by decide +kernel
theorem dX10_word_13 : decode cX10_word 13 = .ok (.aload_n 0, 1) := by decide +kernel
theorem dX10_word_14 : decode cX10_word 14 = .ok (.iconst 1, 1) := by decide +kernel
theorem dX10_word_15 : decode cX10_word 15 = .ok (.invokevirtual 95, 3) := by decide +kernel
theorem dX10_word_18 : decode cX10_word 18 = .ok (.ireturn, 1) := by decide +kernel
theorem dX10_word_19 : decode cX10_word 19 = .ok (.iload_n 2, 1) := by decide +kernel
theorem dX10_word_20 : decode cX10_word 20 = .ok (.iconst 0, 1) := by decide +kernel
theorem dX10_word_21 : decode cX10_word 21 = .ok (.bipush 11, 2) := by decide +kernel
theorem dX10_word_23 : decode cX10_word 23 = .ok (.invokestatic 41, 3) := by decide +kernel
theorem dX10_word_26 : decode cX10_word 26 = .ok (.ifCond .eq 12, 3) := by decide +kernel
theorem dX10_word_29 : decode cX10_word 29 = .ok (.aload_n 0, 1) := by decide +kernel
theorem dX10_word_30 : decode cX10_word 30 = .ok (.iload_n 1, 1) := by decide +kernel
theorem dX10_word_31 : decode cX10_word 31 = .ok (.iload_n 2, 1) := by decide +kernel
theorem dX10_word_32 : decode cX10_word 32 = .ok (.invokevirtual 151, 3) := by decide +kernel
theorem dX10_word_35 : decode cX10_word 35 = .ok (.goto 8, 3) := by decide +kernel
theorem dX10_word_38 : decode cX10_word 38 = .ok (.aload_n 0, 1) := by decide +kernel
theorem dX10_word_39 : decode cX10_word 39 = .ok (.iconst 2, 1) := by decide +kernel
theorem dX10_word_40 : decode cX10_word 40 = .ok (.invokevirtual 95, 3) := by decide +kernel
theorem dX10_word_43 : decode cX10_word 43 = .ok (.ireturn, 1) := by decide +kernel
theorem dX10_remembered_0 : decode cX10_remembered 0 = .ok (.aload_n 0, 1) := by decide +kernel
theorem dX10_remembered_1 : decode cX10_remembered 1 = .ok (.iconst 0, 1) := by decide +kernel
theorem dX10_remembered_2 : decode cX10_remembered 2 = .ok (.putfield 34, 3) := by decide +kernel
theorem dX10_remembered_5 : decode cX10_remembered 5 = .ok (.iload_n 1, 1) := by decide +kernel
theorem dX10_remembered_6 : decode cX10_remembered 6 = .ok (.iconst 0, 1) := by decide +kernel
theorem dX10_remembered_7 : decode cX10_remembered 7 = .ok (.aload_n 0, 1) := by decide +kernel
theorem dX10_remembered_8 : decode cX10_remembered 8 = .ok (.getfield 7, 3) := by decide +kernel
theorem dX10_remembered_11 : decode cX10_remembered 11 = .ok (.iconst 1, 1) := by decide +kernel
theorem dX10_remembered_12 : decode cX10_remembered 12 = .ok (.iaload, 1) := by decide +kernel
theorem dX10_remembered_13 : decode cX10_remembered 13 = .ok (.iconst 1, 1) := by decide +kernel
theorem dX10_remembered_14 : decode cX10_remembered 14 = .ok (.isub, 1) := by decide +kernel
theorem dX10_remembered_15 : decode cX10_remembered 15 = .ok (.invokestatic 41, 3) := by decide +kernel
theorem dX10_remembered_18 : decode cX10_remembered 18 = .ok (.ifCond .ne 9, 3) := by decide +kernel
theorem dX10_remembered_21 : decode cX10_remembered 21 = .ok (.aload_n 0, 1) := by decide +kernel
theorem dX10_remembered_22 : decode cX10_remembered 22 = .ok (.iconst 1, 1) := by decide +kernel
theorem dX10_remembered_23 : decode cX10_remembered 23 = .ok (.invokevirtual 95, 3) := by decide +kernel
theorem dX10_remembered_26 : decode cX10_remembered 26 = .ok (.ireturn, 1) := by decide +kernel
theorem dX10_remembered_27 : decode cX10_remembered 27 = .ok (.iload_n 2, 1) := by decide +kernel
theorem dX10_remembered_28 : decode cX10_remembered 28 = .ok (.iconst 0, 1) := by decide +kernel
theorem dX10_remembered_29 : decode cX10_remembered 29 = .ok (.bipush 11, 2) := by decide +kernel
theorem dX10_remembered_31 : decode cX10_remembered 31 = .ok (.invokestatic 41, 3) := by decide +kernel
theorem dX10_remembered_34 : decode cX10_remembered 34 = .ok (.ifCond .ne 9, 3) := by decide +kernel
theorem dX10_remembered_37 : decode cX10_remembered 37 = .ok (.aload_n 0, 1) := by decide +kernel
theorem dX10_remembered_38 : decode cX10_remembered 38 = .ok (.iconst 2, 1) := by decide +kernel
theorem dX10_remembered_39 : decode cX10_remembered 39 = .ok (.invokevirtual 95, 3) := by decide +kernel
theorem dX10_remembered_42 : decode cX10_remembered 42 = .ok (.ireturn, 1) := by decide +kernel
theorem dX10_remembered_43 : decode cX10_remembered 43 = .ok (.iload_n 2, 1) := by decide +kernel
theorem dX10_remembered_44 : decode cX10_remembered 44 = .ok (.aload_n 0, 1) := by decide +kernel
theorem dX10_remembered_45 : decode cX10_remembered 45 = .ok (.getfield 7, 3) := by decide +kernel
theorem dX10_remembered_48 : decode cX10_remembered 48 = .ok (.iload_n 1, 1) := by decide +kernel
theorem dX10_remembered_49 : decode cX10_remembered 49 = .ok (.invokestatic 55, 3) := by decide +kernel
theorem dX10_remembered_52 : decode cX10_remembered 52 = .ok (.iaload, 1) := by decide +kernel
theorem dX10_remembered_53 : decode cX10_remembered 53 = .ok (.if_icmp .ge 19, 3) := by decide +kernel
theorem dX10_remembered_56 : decode cX10_remembered 56 = .ok (.aload_n 0, 1) := by decide +kernel
theorem dX10_remembered_57 : decode cX10_remembered 57 = .ok (.getfield 7, 3) := by decide +kernel
theorem dX10_remembered_60 : decode cX10_remembered 60 = .ok (.iload_n 1, 1) := by decide +kernel
theorem dX10_remembered_61 : decode cX10_remembered 61 = .ok (.invokestatic 55, 3) := by decide +kernel
theorem dX10_remembered_64 : decode cX10_remembered 64 = .ok (.iconst 1, 1) := by decide +kernel
theorem dX10_remembered_65 : decode cX10_remembered 65 = .ok (.iadd, 1) := by decide +kernel
theorem dX10_remembered_66 : decode cX10_remembered 66 = .ok (.iload_n 2, 1) := by decide +kernel
theorem dX10_remembered_67 : decode cX10_remembered 67 = .ok (.iadd, 1) := by decide +kernel
theorem dX10_remembered_68 : decode cX10_remembered 68 = .ok (.iaload, 1) := by decide +kernel
theorem dX10_remembered_69 : decode cX10_remembered 69 = .ok (.goto 4, 3) := by decide +kernel
theorem dX10_remembered_72 : decode cX10_remembered 72 = .ok (.iconst (-1), 1) := by decide +kernel
theorem dX10_remembered_73 : decode cX10_remembered 73 = .ok (.ireturn, 1) := by decide +kernel
theorem dX10_assignedTo_0 : decode cX10_assignedTo 0 = .ok (.iconst 0, 1) := by decide +kernel
theorem dX10_assignedTo_1 : decode cX10_assignedTo 1 = .ok (.istore_n 2, 1) := by decide +kernel
theorem dX10_assignedTo_2 : decode cX10_assignedTo 2 = .ok (.iconst 0, 1) := by decide +kernel
theorem dX10_assignedTo_3 : decode cX10_assignedTo 3 = .ok (.istore_n 3, 1) := by decide +kernel
theorem dX10_assignedTo_4 : decode cX10_assignedTo 4 = .ok (.iload_n 3, 1) := by decide +kernel
theorem dX10_assignedTo_5 : decode cX10_assignedTo 5 = .ok (.aload_n 0, 1) := by decide +kernel
theorem dX10_assignedTo_6 : decode cX10_assignedTo 6 = .ok (.getfield 7, 3) := by decide +kernel
theorem dX10_assignedTo_9 : decode cX10_assignedTo 9 = .ok (.iconst 0, 1) := by decide +kernel
theorem dX10_assignedTo_10 : decode cX10_assignedTo 10 = .ok (.iaload, 1) := by decide +kernel
theorem dX10_assignedTo_11 : decode cX10_assignedTo 11 = .ok (.if_icmp .ge 47, 3) := by decide +kernel
theorem dX10_assignedTo_14 : decode cX10_assignedTo 14 = .ok (.iload_n 2, 1) := by decide +kernel
theorem dX10_assignedTo_15 : decode cX10_assignedTo 15 = .ok (.aload_n 0, 1) := by decide +kernel
theorem dX10_assignedTo_16 : decode cX10_assignedTo 16 = .ok (.getfield 7, 3) := by decide +kernel
theorem dX10_assignedTo_19 : decode cX10_assignedTo 19 = .ok (.iload_n 3, 1) := by decide +kernel
theorem dX10_assignedTo_20 : decode cX10_assignedTo 20 = .ok (.invokestatic 45, 3) := by decide +kernel
theorem dX10_assignedTo_23 : decode cX10_assignedTo 23 = .ok (.iconst 1, 1) := by decide +kernel
theorem dX10_assignedTo_24 : decode cX10_assignedTo 24 = .ok (.iadd, 1) := by decide +kernel
theorem dX10_assignedTo_25 : decode cX10_assignedTo 25 = .ok (.iaload, 1) := by decide +kernel
theorem dX10_assignedTo_26 : decode cX10_assignedTo 26 = .ok (.iconst 1, 1) := by decide +kernel
theorem dX10_assignedTo_27 : decode cX10_assignedTo 27 = .ok (.if_icmp .ne 22, 3) := by decide +kernel
theorem dX10_assignedTo_30 : decode cX10_assignedTo 30 = .ok (.aload_n 0, 1) := by decide +kernel
theorem dX10_assignedTo_31 : decode cX10_assignedTo 31 = .ok (.getfield 7, 3) := by decide +kernel
theorem dX10_assignedTo_34 : decode cX10_assignedTo 34 = .ok (.iload_n 3, 1) := by decide +kernel
theorem dX10_assignedTo_35 : decode cX10_assignedTo 35 = .ok (.invokestatic 45, 3) := by decide +kernel
theorem dX10_assignedTo_38 : decode cX10_assignedTo 38 = .ok (.iconst 2, 1) := by decide +kernel
theorem dX10_assignedTo_39 : decode cX10_assignedTo 39 = .ok (.iadd, 1) := by decide +kernel
theorem dX10_assignedTo_40 : decode cX10_assignedTo 40 = .ok (.iaload, 1) := by decide +kernel
theorem dX10_assignedTo_41 : decode cX10_assignedTo 41 = .ok (.iload_n 1, 1) := by decide +kernel
theorem dX10_assignedTo_42 : decode cX10_assignedTo 42 = .ok (.if_icmp .ne 7, 3) := by decide +kernel
theorem dX10_assignedTo_45 : decode cX10_assignedTo 45 = .ok (.iconst 1, 1) := by decide +kernel
theorem dX10_assignedTo_46 : decode cX10_assignedTo 46 = .ok (.goto 4, 3) := by decide +kernel
theorem dX10_assignedTo_49 : decode cX10_assignedTo 49 = .ok (.iconst 0, 1) := by decide +kernel
theorem dX10_assignedTo_50 : decode cX10_assignedTo 50 = .ok (.iadd, 1) := by decide +kernel
theorem dX10_assignedTo_51 : decode cX10_assignedTo 51 = .ok (.istore_n 2, 1) := by decide +kernel
theorem dX10_assignedTo_52 : decode cX10_assignedTo 52 = .ok (.iinc 3 1, 3) := by decide +kernel
theorem dX10_assignedTo_55 : decode cX10_assignedTo 55 = .ok (.goto (-51), 3) := by decide +kernel
theorem dX10_assignedTo_58 : decode cX10_assignedTo 58 = .ok (.iload_n 2, 1) := by decide +kernel
theorem dX10_assignedTo_59 : decode cX10_assignedTo 59 = .ok (.ireturn, 1) := by decide +kernel
theorem dX10_proposals_0 : decode cX10_proposals 0 = .ok (.iconst 0, 1) := by decide +kernel
theorem dX10_proposals_1 : decode cX10_proposals 1 = .ok (.istore_n 2, 1) := by decide +kernel
theorem dX10_proposals_2 : decode cX10_proposals 2 = .ok (.iconst 0, 1) := by decide +kernel
theorem dX10_proposals_3 : decode cX10_proposals 3 = .ok (.istore_n 3, 1) := by decide +kernel
theorem dX10_proposals_4 : decode cX10_proposals 4 = .ok (.iload_n 3, 1) := by decide +kernel
theorem dX10_proposals_5 : decode cX10_proposals 5 = .ok (.bipush 8, 2) := by decide +kernel
theorem dX10_proposals_7 : decode cX10_proposals 7 = .ok (.if_icmp .ge 31, 3) := by decide +kernel
theorem dX10_proposals_10 : decode cX10_proposals 10 = .ok (.iload_n 2, 1) := by decide +kernel
theorem dX10_proposals_11 : decode cX10_proposals 11 = .ok (.aload_n 0, 1) := by decide +kernel
theorem dX10_proposals_12 : decode cX10_proposals 12 = .ok (.getfield 7, 3) := by decide +kernel
theorem dX10_proposals_15 : decode cX10_proposals 15 = .ok (.iload_n 3, 1) := by decide +kernel
theorem dX10_proposals_16 : decode cX10_proposals 16 = .ok (.iload_n 1, 1) := by decide +kernel
theorem dX10_proposals_17 : decode cX10_proposals 17 = .ok (.invokestatic 84, 3) := by decide +kernel
theorem dX10_proposals_20 : decode cX10_proposals 20 = .ok (.iaload, 1) := by decide +kernel
theorem dX10_proposals_21 : decode cX10_proposals 21 = .ok (.iconst (-1), 1) := by decide +kernel
theorem dX10_proposals_22 : decode cX10_proposals 22 = .ok (.if_icmp .eq 7, 3) := by decide +kernel
theorem dX10_proposals_25 : decode cX10_proposals 25 = .ok (.iconst 1, 1) := by decide +kernel
theorem dX10_proposals_26 : decode cX10_proposals 26 = .ok (.goto 4, 3) := by decide +kernel
theorem dX10_proposals_29 : decode cX10_proposals 29 = .ok (.iconst 0, 1) := by decide +kernel
theorem dX10_proposals_30 : decode cX10_proposals 30 = .ok (.iadd, 1) := by decide +kernel
theorem dX10_proposals_31 : decode cX10_proposals 31 = .ok (.istore_n 2, 1) := by decide +kernel
theorem dX10_proposals_32 : decode cX10_proposals 32 = .ok (.iinc 3 1, 3) := by decide +kernel
theorem dX10_proposals_35 : decode cX10_proposals 35 = .ok (.goto (-31), 3) := by decide +kernel
theorem dX10_proposals_38 : decode cX10_proposals 38 = .ok (.iload_n 2, 1) := by decide +kernel
theorem dX10_proposals_39 : decode cX10_proposals 39 = .ok (.ireturn, 1) := by decide +kernel
theorem dX10_personOf_0 : decode cX10_personOf 0 = .ok (.iload_n 2, 1) := by decide +kernel
theorem dX10_personOf_1 : decode cX10_personOf 1 = .ok (.iconst 2, 1) := by decide +kernel
theorem dX10_personOf_2 : decode cX10_personOf 2 = .ok (.if_icmp .ne 9, 3) := by decide +kernel
theorem dX10_personOf_5 : decode cX10_personOf 5 = .ok (.aload_n 0, 1) := by decide +kernel
theorem dX10_personOf_6 : decode cX10_personOf 6 = .ok (.iload_n 1, 1) := by decide +kernel
theorem dX10_personOf_7 : decode cX10_personOf 7 = .ok (.invokevirtual 154, 3) := by decide +kernel
theorem dX10_personOf_10 : decode cX10_personOf 10 = .ok (.ireturn, 1) := by decide +kernel
theorem dX10_personOf_11 : decode cX10_personOf 11 = .ok (.iload_n 2, 1) := by decide +kernel
theorem dX10_personOf_12 : decode cX10_personOf 12 = .ok (.bipush 6, 2) := by decide +kernel
theorem dX10_personOf_14 : decode cX10_personOf 14 = .ok (.if_icmp .ne 9, 3) := by decide +kernel
theorem dX10_personOf_17 : decode cX10_personOf 17 = .ok (.aload_n 0, 1) := by decide +kernel
theorem dX10_personOf_18 : decode cX10_personOf 18 = .ok (.iload_n 1, 1) := by decide +kernel
theorem dX10_personOf_19 : decode cX10_personOf 19 = .ok (.invokevirtual 157, 3) := by decide +kernel
theorem dX10_personOf_22 : decode cX10_personOf 22 = .ok (.ireturn, 1) := by decide +kernel
theorem dX10_personOf_23 : decode cX10_personOf 23 = .ok (.aload_n 0, 1) := by decide +kernel
theorem dX10_personOf_24 : decode cX10_personOf 24 = .ok (.getfield 7, 3) := by decide +kernel
theorem dX10_personOf_27 : decode cX10_personOf 27 = .ok (.iload_n 1, 1) := by decide +kernel
theorem dX10_personOf_28 : decode cX10_personOf 28 = .ok (.invokestatic 101, 3) := by decide +kernel
theorem dX10_personOf_31 : decode cX10_personOf 31 = .ok (.iload_n 2, 1) := by decide +kernel
theorem dX10_personOf_32 : decode cX10_personOf 32 = .ok (.iconst 2, 1) := by decide +kernel
theorem dX10_personOf_33 : decode cX10_personOf 33 = .ok (.if_icmp .ge 7, 3) := by decide +kernel
theorem dX10_personOf_36 : decode cX10_personOf 36 = .ok (.iload_n 2, 1) := by decide +kernel
