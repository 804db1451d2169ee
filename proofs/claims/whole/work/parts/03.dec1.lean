theorem dX0_init_0 : decode cX0_init 0 = .ok (.aload_n 0, 1) := by decide +kernel
theorem dX0_init_1 : decode cX0_init 1 = .ok (.invokespecial 3, 3) := by decide +kernel
theorem dX0_init_4 : decode cX0_init 4 = .ok (.aload_n 0, 1) := by decide +kernel
theorem dX0_init_5 : decode cX0_init 5 = .ok (.iconst 0, 1) := by decide +kernel
theorem dX0_init_6 : decode cX0_init 6 = .ok (.putfield 9, 3) := by decide +kernel
theorem dX0_init_9 : decode cX0_init 9 = .ok (.aload_n 0, 1) := by decide +kernel
theorem dX0_init_10 : decode cX0_init 10 = .ok (.iconst 0, 1) := by decide +kernel
theorem dX0_init_11 : decode cX0_init 11 = .ok (.putfield 15, 3) := by decide +kernel
theorem dX0_init_14 : decode cX0_init 14 = .ok (.aload_n 0, 1) := by decide +kernel
theorem dX0_init_15 : decode cX0_init 15 = .ok (.iconst 0, 1) := by decide +kernel
theorem dX0_init_16 : decode cX0_init 16 = .ok (.putfield 18, 3) := by decide +kernel
theorem dX0_init_19 : decode cX0_init 19 = .ok (.aload_n 0, 1) := by decide +kernel
theorem dX0_init_20 : decode cX0_init 20 = .ok (.iload_n 1, 1) := by decide +kernel
theorem dX0_init_21 : decode cX0_init 21 = .ok (.putfield 22, 3) := by decide +kernel
theorem dX0_init_24 : decode cX0_init 24 = .ok (.aload_n 0, 1) := by decide +kernel
theorem dX0_init_25 : decode cX0_init 25 = .ok (.iload_n 2, 1) := by decide +kernel
theorem dX0_init_26 : decode cX0_init 26 = .ok (.putfield 25, 3) := by decide +kernel
theorem dX0_init_29 : decode cX0_init 29 = .ok (.return_, 1) := by decide +kernel
theorem dX0_numbersOf_0 : decode cX0_numbersOf 0 = .ok (.lload_n 1, 1) := by decide +kernel
theorem dX0_numbersOf_1 : decode cX0_numbersOf 1 = .ok (.l2i, 1) := by decide +kernel
theorem dX0_numbersOf_2 : decode cX0_numbersOf 2 = .ok (.aload_n 0, 1) := by decide +kernel
theorem dX0_numbersOf_3 : decode cX0_numbersOf 3 = .ok (.getfield 22, 3) := by decide +kernel
theorem dX0_numbersOf_6 : decode cX0_numbersOf 6 = .ok (.imul, 1) := by decide +kernel
theorem dX0_numbersOf_7 : decode cX0_numbersOf 7 = .ok (.aload_n 0, 1) := by decide +kernel
theorem dX0_numbersOf_8 : decode cX0_numbersOf 8 = .ok (.getfield 18, 3) := by decide +kernel
theorem dX0_numbersOf_11 : decode cX0_numbersOf 11 = .ok (.ifCond .eq 7, 3) := by decide +kernel
theorem dX0_numbersOf_14 : decode cX0_numbersOf 14 = .ok (.iconst 1, 1) := by decide +kernel
theorem dX0_numbersOf_15 : decode cX0_numbersOf 15 = .ok (.goto 4, 3) := by decide +kernel
theorem dX0_numbersOf_18 : decode cX0_numbersOf 18 = .ok (.iconst 0, 1) := by decide +kernel
theorem dX0_numbersOf_19 : decode cX0_numbersOf 19 = .ok (.isub, 1) := by decide +kernel
theorem dX0_numbersOf_20 : decode cX0_numbersOf 20 = .ok (.ireturn, 1) := by decide +kernel
theorem dX0_isNumber_0 : decode cX0_isNumber 0 = .ok (.aload_n 0, 1) := by decide +kernel
theorem dX0_isNumber_1 : decode cX0_isNumber 1 = .ok (.getfield 25, 3) := by decide +kernel
theorem dX0_isNumber_4 : decode cX0_isNumber 4 = .ok (.bipush 8, 2) := by decide +kernel
theorem dX0_isNumber_6 : decode cX0_isNumber 6 = .ok (.if_icmp .ne 22, 3) := by decide +kernel
theorem dX0_isNumber_9 : decode cX0_isNumber 9 = .ok (.iload_n 1, 1) := by decide +kernel
theorem dX0_isNumber_10 : decode cX0_isNumber 10 = .ok (.ifCond .lt 14, 3) := by decide +kernel
theorem dX0_isNumber_13 : decode cX0_isNumber 13 = .ok (.iload_n 1, 1) := by decide +kernel
theorem dX0_isNumber_14 : decode cX0_isNumber 14 = .ok (.sipush 255, 3) := by decide +kernel
theorem dX0_isNumber_17 : decode cX0_isNumber 17 = .ok (.if_icmp .gt 7, 3) := by decide +kernel
theorem dX0_isNumber_20 : decode cX0_isNumber 20 = .ok (.iconst 1, 1) := by decide +kernel
theorem dX0_isNumber_21 : decode cX0_isNumber 21 = .ok (.goto 11, 3) := by decide +kernel
theorem dX0_isNumber_24 : decode cX0_isNumber 24 = .ok (.iconst 0, 1) := by decide +kernel
theorem dX0_isNumber_25 : decode cX0_isNumber 25 = .ok (.goto 7, 3) := by decide +kernel
theorem dX0_isNumber_28 : decode cX0_isNumber 28 = .ok (.iload_n 1, 1) := by decide +kernel
theorem dX0_isNumber_29 : decode cX0_isNumber 29 = .ok (.invokestatic 28, 3) := by decide +kernel
theorem dX0_isNumber_32 : decode cX0_isNumber 32 = .ok (.ireturn, 1) := by decide +kernel
theorem dX0_sampleOf_0 : decode cX0_sampleOf 0 = .ok (.aload_n 0, 1) := by decide +kernel
theorem dX0_sampleOf_1 : decode cX0_sampleOf 1 = .ok (.getfield 25, 3) := by decide +kernel
theorem dX0_sampleOf_4 : decode cX0_sampleOf 4 = .ok (.bipush 8, 2) := by decide +kernel
theorem dX0_sampleOf_6 : decode cX0_sampleOf 6 = .ok (.if_icmp .ne 15, 3) := by decide +kernel
theorem dX0_sampleOf_9 : decode cX0_sampleOf 9 = .ok (.iload_n 1, 1) := by decide +kernel
theorem dX0_sampleOf_10 : decode cX0_sampleOf 10 = .ok (.sipush 128, 3) := by decide +kernel
theorem dX0_sampleOf_13 : decode cX0_sampleOf 13 = .ok (.isub, 1) := by decide +kernel
theorem dX0_sampleOf_14 : decode cX0_sampleOf 14 = .ok (.sipush 256, 3) := by decide +kernel
theorem dX0_sampleOf_17 : decode cX0_sampleOf 17 = .ok (.imul, 1) := by decide +kernel
theorem dX0_sampleOf_18 : decode cX0_sampleOf 18 = .ok (.goto 4, 3) := by decide +kernel
theorem dX0_sampleOf_21 : decode cX0_sampleOf 21 = .ok (.iload_n 1, 1) := by decide +kernel
theorem dX0_sampleOf_22 : decode cX0_sampleOf 22 = .ok (.ireturn, 1) := by decide +kernel
theorem dX0_numberOf_0 : decode cX0_numberOf 0 = .ok (.aload_n 0, 1) := by decide +kernel
theorem dX0_numberOf_1 : decode cX0_numberOf 1 = .ok (.getfield 25, 3) := by decide +kernel
theorem dX0_numberOf_4 : decode cX0_numberOf 4 = .ok (.bipush 8, 2) := by decide +kernel
theorem dX0_numberOf_6 : decode cX0_numberOf 6 = .ok (.if_icmp .ne 17, 3) := by decide +kernel
theorem dX0_numberOf_9 : decode cX0_numberOf 9 = .ok (.iload_n 1, 1) := by decide +kernel
theorem dX0_numberOf_10 : decode cX0_numberOf 10 = .ok (.sipush 256, 3) := by decide +kernel
theorem dX0_numberOf_13 : decode cX0_numberOf 13 = .ok (.invokestatic 32, 3) := by decide +kernel
theorem dX0_numberOf_16 : decode cX0_numberOf 16 = .ok (.sipush 128, 3) := by decide +kernel
theorem dX0_numberOf_19 : decode cX0_numberOf 19 = .ok (.iadd, 1) := by decide +kernel
theorem dX0_numberOf_20 : decode cX0_numberOf 20 = .ok (.goto 4, 3) := by decide +kernel
theorem dX0_numberOf_23 : decode cX0_numberOf 23 = .ok (.iload_n 1, 1) := by decide +kernel
theorem dX0_numberOf_24 : decode cX0_numberOf 24 = .ok (.ireturn, 1) := by decide +kernel
theorem dX1_init_0 : decode cX1_init 0 = .ok (.aload_n 0, 1) := by decide +kernel
theorem dX1_init_1 : decode cX1_init 1 = .ok (.invokespecial 1, 3) := by decide +kernel
theorem dX1_init_4 : decode cX1_init 4 = .ok (.aload_n 0, 1) := by decide +kernel
theorem dX1_init_5 : decode cX1_init 5 = .ok (.aload_n 1, 1) := by decide +kernel
theorem dX1_init_6 : decode cX1_init 6 = .ok (.putfield 7, 3) := by decide +kernel
theorem dX1_init_9 : decode cX1_init 9 = .ok (.aload_n 0, 1) := by decide +kernel
theorem dX1_init_10 : decode cX1_init 10 = .ok (.iload_n 2, 1) := by decide +kernel
theorem dX1_init_11 : decode cX1_init 11 = .ok (.i2l, 1) := by decide +kernel
theorem dX1_init_12 : decode cX1_init 12 = .ok (.putfield 13, 3) := by decide +kernel
theorem dX1_init_15 : decode cX1_init 15 = .ok (.aload_n 0, 1) := by decide +kernel
theorem dX1_init_16 : decode cX1_init 16 = .ok (.iconst 1, 1) := by decide +kernel
theorem dX1_init_17 : decode cX1_init 17 = .ok (.iload_n 3, 1) := by decide +kernel
theorem dX1_init_18 : decode cX1_init 18 = .ok (.invokestatic 17, 3) := by decide +kernel
theorem dX1_init_21 : decode cX1_init 21 = .ok (.i2l, 1) := by decide +kernel
theorem dX1_init_22 : decode cX1_init 22 = .ok (.putfield 23, 3) := by decide +kernel
theorem dX1_init_25 : decode cX1_init 25 = .ok (.return_, 1) := by decide +kernel
theorem dX1_isPlain_0 : decode cX1_isPlain 0 = .ok (.aload_n 0, 1) := by decide +kernel
theorem dX1_isPlain_1 : decode cX1_isPlain 1 = .ok (.getfield 13, 3) := by decide +kernel
theorem dX1_isPlain_4 : decode cX1_isPlain 4 = .ok (.aload_n 0, 1) := by decide +kernel
theorem dX1_isPlain_5 : decode cX1_isPlain 5 = .ok (.getfield 23, 3) := by decide +kernel
theorem dX1_isPlain_8 : decode cX1_isPlain 8 = .ok (.lcmp, 1) := by decide +kernel
theorem dX1_isPlain_9 : decode cX1_isPlain 9 = .ok (.ifCond .ne 7, 3) := by decide +kernel
theorem dX1_isPlain_12 : decode cX1_isPlain 12 = .ok (.iconst 1, 1) := by decide +kernel
theorem dX1_isPlain_13 : decode cX1_isPlain 13 = .ok (.goto 4, 3) := by decide +kernel
theorem dX1_isPlain_16 : decode cX1_isPlain 16 = .ok (.iconst 0, 1) := by decide +kernel
theorem dX1_isPlain_17 : decode cX1_isPlain 17 = .ok (.ireturn, 1) := by decide +kernel
theorem dX1_wholePlace_0 : decode cX1_wholePlace 0 = .ok (.lload_n 1, 1) := by decide +kernel
theorem dX1_wholePlace_1 : decode cX1_wholePlace 1 = .ok (.aload_n 0, 1) := by decide +kernel
theorem dX1_wholePlace_2 : decode cX1_wholePlace 2 = .ok (.getfield 13, 3) := by decide +kernel
theorem dX1_wholePlace_5 : decode cX1_wholePlace 5 = .ok (.lmul, 1) := by decide +kernel
theorem dX1_wholePlace_6 : decode cX1_wholePlace 6 = .ok (.aload_n 0, 1) := by decide +kernel
theorem dX1_wholePlace_7 : decode cX1_wholePlace 7 = .ok (.getfield 23, 3) := by decide +kernel
theorem dX1_wholePlace_10 : decode cX1_wholePlace 10 = .ok (.ldiv, 1) := by decide +kernel
theorem dX1_wholePlace_11 : decode cX1_wholePlace 11 = .ok (.lreturn, 1) := by decide +kernel
theorem dX1_lastNeeded_0 : decode cX1_lastNeeded 0 = .ok (.aload_n 0, 1) := by decide +kernel
theorem dX1_lastNeeded_1 : decode cX1_lastNeeded 1 = .ok (.invokevirtual 26, 3) := by decide +kernel
theorem dX1_lastNeeded_4 : decode cX1_lastNeeded 4 = .ok (.ifCond .eq 7, 3) := by decide +kernel
theorem dX1_lastNeeded_7 : decode cX1_lastNeeded 7 = .ok (.lload_n 1, 1) := by decide +kernel
theorem dX1_lastNeeded_8 : decode cX1_lastNeeded 8 = .ok (.goto 18, 3) := by decide +kernel
theorem dX1_lastNeeded_11 : decode cX1_lastNeeded 11 = .ok (.aload_n 0, 1) := by decide +kernel
theorem dX1_lastNeeded_12 : decode cX1_lastNeeded 12 = .ok (.lload_n 1, 1) := by decide +kernel
theorem dX1_lastNeeded_13 : decode cX1_lastNeeded 13 = .ok (.invokevirtual 30, 3) := by decide +kernel
theorem dX1_lastNeeded_16 : decode cX1_lastNeeded 16 = .ok (.ldc2_w 36, 3) := by decide +kernel
theorem dX1_lastNeeded_19 : decode cX1_lastNeeded 19 = .ok (.ladd, 1) := by decide +kernel
theorem dX1_lastNeeded_20 : decode cX1_lastNeeded 20 = .ok (.lconst 1, 1) := by decide +kernel
theorem dX1_lastNeeded_21 : decode cX1_lastNeeded 21 = .ok (.lsub, 1) := by decide +kernel
theorem dX1_lastNeeded_22 : decode cX1_lastNeeded 22 = .ok (.ldc2_w 38, 3) := by decide +kernel
theorem dX1_lastNeeded_25 : decode cX1_lastNeeded 25 = .ok (.lsub, 1) := by decide +kernel
theorem dX1_lastNeeded_26 : decode cX1_lastNeeded 26 = .ok (.lreturn, 1) := by decide +kernel
theorem dX1_sample_0 : decode cX1_sample 0 = .ok (.aload_n 0, 1) := by decide +kernel
theorem dX1_sample_1 : decode cX1_sample 1 = .ok (.invokevirtual 26, 3) := by decide +kernel
theorem dX1_sample_4 : decode cX1_sample 4 = .ok (.ifCond .eq 11, 3) := by decide +kernel
theorem dX1_sample_7 : decode cX1_sample 7 = .ok (.aload_n 1, 1) := by decide +kernel
theorem dX1_sample_8 : decode cX1_sample 8 = .ok (.lload_n 2, 1) := by decide +kernel
theorem dX1_sample_9 : decode cX1_sample 9 = .ok (.iload 4, 2) := by decide +kernel
theorem dX1_sample_11 : decode cX1_sample 11 = .ok (.invokevirtual 40, 3) := by decide +kernel
theorem dX1_sample_14 : decode cX1_sample 14 = .ok (.ireturn, 1) := by decide +kernel
theorem dX1_sample_15 : decode cX1_sample 15 = .ok (.lload_n 2, 1) := by decide +kernel
theorem dX1_sample_16 : decode cX1_sample 16 = .ok (.aload_n 0, 1) := by decide +kernel
theorem dX1_sample_17 : decode cX1_sample 17 = .ok (.getfield 13, 3) := by decide +kernel
theorem dX1_sample_20 : decode cX1_sample 20 = .ok (.lmul, 1) := by decide +kernel
theorem dX1_sample_21 : decode cX1_sample 21 = .ok (.aload_n 0, 1) := by decide +kernel
theorem dX1_sample_22 : decode cX1_sample 22 = .ok (.getfield 23, 3) := by decide +kernel
theorem dX1_sample_25 : decode cX1_sample 25 = .ok (.lrem, 1) := by decide +kernel
theorem dX1_sample_26 : decode cX1_sample 26 = .ok (.ldc2_w 46, 3) := by decide +kernel
theorem dX1_sample_29 : decode cX1_sample 29 = .ok (.lmul, 1) := by decide +kernel
theorem dX1_sample_30 : decode cX1_sample 30 = .ok (.aload_n 0, 1) := by decide +kernel
theorem dX1_sample_31 : decode cX1_sample 31 = .ok (.getfield 23, 3) := by decide +kernel
theorem dX1_sample_34 : decode cX1_sample 34 = .ok (.ldiv, 1) := by decide +kernel
theorem dX1_sample_35 : decode cX1_sample 35 = .ok (.l2i, 1) := by decide +kernel
theorem dX1_sample_36 : decode cX1_sample 36 = .ok (.istore 5, 2) := by decide +kernel
theorem dX1_sample_38 : decode cX1_sample 38 = .ok (.aload_n 0, 1) := by decide +kernel
theorem dX1_sample_39 : decode cX1_sample 39 = .ok (.lload_n 2, 1) := by decide +kernel
theorem dX1_sample_40 : decode cX1_sample 40 = .ok (.invokevirtual 30, 3) := by decide +kernel
theorem dX1_sample_43 : decode cX1_sample 43 = .ok (.ldc2_w 38, 3) := by decide +kernel
theorem dX1_sample_46 : decode cX1_sample 46 = .ok (.lsub, 1) := by decide +kernel
theorem dX1_sample_47 : decode cX1_sample 47 = .ok (.lstore 6, 2) := by decide +kernel
theorem dX1_sample_49 : decode cX1_sample 49 = .ok (.lconst 0, 1) := by decide +kernel
theorem dX1_sample_50 : decode cX1_sample 50 = .ok (.lstore 8, 2) := by decide +kernel
theorem dX1_sample_52 : decode cX1_sample 52 = .ok (.iconst 0, 1) := by decide +kernel
theorem dX1_sample_53 : decode cX1_sample 53 = .ok (.istore 10, 2) := by decide +kernel
theorem dX1_sample_55 : decode cX1_sample 55 = .ok (.iload 10, 2) := by decide +kernel
theorem dX1_sample_57 : decode cX1_sample 57 = .ok (.bipush 16, 2) := by decide +kernel
theorem dX1_sample_59 : decode cX1_sample 59 = .ok (.if_icmp .ge 40, 3) := by decide +kernel
theorem dX1_sample_62 : decode cX1_sample 62 = .ok (.lload 8, 2) := by decide +kernel
theorem dX1_sample_64 : decode cX1_sample 64 = .ok (.aload_n 0, 1) := by decide +kernel
theorem dX1_sample_65 : decode cX1_sample 65 = .ok (.getfield 7, 3) := by decide +kernel
theorem dX1_sample_68 : decode cX1_sample 68 = .ok (.iload 5, 2) := by decide +kernel
theorem dX1_sample_70 : decode cX1_sample 70 = .ok (.iload 10, 2) := by decide +kernel
theorem dX1_sample_72 : decode cX1_sample 72 = .ok (.invokevirtual 48, 3) := by decide +kernel
theorem dX1_sample_75 : decode cX1_sample 75 = .ok (.i2l, 1) := by decide +kernel
theorem dX1_sample_76 : decode cX1_sample 76 = .ok (.aload_n 1, 1) := by decide +kernel
theorem dX1_sample_77 : decode cX1_sample 77 = .ok (.lload 6, 2) := by decide +kernel
theorem dX1_sample_79 : decode cX1_sample 79 = .ok (.iload 10, 2) := by decide +kernel
theorem dX1_sample_81 : decode cX1_sample 81 = .ok (.i2l, 1) := by decide +kernel
theorem dX1_sample_82 : decode cX1_sample 82 = .ok (.ladd, 1) := by decide +kernel
theorem dX1_sample_83 : decode cX1_sample 83 = .ok (.iload 4, 2) := by decide +kernel
theorem dX1_sample_85 : decode cX1_sample 85 = .ok (.invokevirtual 40, 3) := by decide +kernel
theorem dX1_sample_88 : decode cX1_sample 88 = .ok (.i2l, 1) := by decide +kernel
theorem dX1_sample_89 : decode cX1_sample 89 = .ok (.lmul, 1) := by decide +kernel
theorem dX1_sample_90 : decode cX1_sample 90 = .ok (.ladd, 1) := by decide +kernel
theorem dX1_sample_91 : decode cX1_sample 91 = .ok (.lstore 8, 2) := by decide +kernel
theorem dX1_sample_93 : decode cX1_sample 93 = .ok (.iinc 10 1, 3) := by decide +kernel
theorem dX1_sample_96 : decode cX1_sample 96 = .ok (.goto (-41), 3) := by decide +kernel
theorem dX1_sample_99 : decode cX1_sample 99 = .ok (.lload 8, 2) := by decide +kernel
theorem dX1_sample_101 : decode cX1_sample 101 = .ok (.ldc2_w 51, 3) := by decide +kernel
theorem dX1_sample_104 : decode cX1_sample 104 = .ok (.invokestatic 53, 3) := by decide +kernel
theorem dX1_sample_107 : decode cX1_sample 107 = .ok (.l2i, 1) := by decide +kernel
theorem dX1_sample_108 : decode cX1_sample 108 = .ok (.ireturn, 1) := by decide +kernel
theorem dX2_init_0 : decode cX2_init 0 = .ok (.aload_n 0, 1) := by decide +kernel
theorem dX2_init_1 : decode cX2_init 1 = .ok (.invokespecial 1, 3) := by decide +kernel
theorem dX2_init_4 : decode cX2_init 4 = .ok (.aload_n 0, 1) := by decide +kernel
theorem dX2_init_5 : decode cX2_init 5 = .ok (.sipush 256, 3) := by decide +kernel
theorem dX2_init_8 : decode cX2_init 8 = .ok (.newarray .int, 2) := by decide +kernel
theorem dX2_init_10 : decode cX2_init 10 = .ok (.putfield 9, 3) := by decide +kernel
theorem dX2_init_13 : decode cX2_init 13 = .ok (.aload_n 0, 1) := by decide +kernel
theorem dX2_init_14 : decode cX2_init 14 = .ok (.sipush 256, 3) := by decide +kernel
theorem dX2_init_17 : decode cX2_init 17 = .ok (.newarray .int, 2) := by decide +kernel
theorem dX2_init_19 : decode cX2_init 19 = .ok (.putfield 13, 3) := by decide +kernel
theorem dX2_init_22 : decode cX2_init 22 = .ok (.aload_n 0, 1) := by decide +kernel
theorem dX2_init_23 : decode cX2_init 23 = .ok (.lconst 0, 1) := by decide +kernel
theorem dX2_init_24 : decode cX2_init 24 = .ok (.putfield 16, 3) := by decide +kernel
theorem dX2_init_27 : decode cX2_init 27 = .ok (.return_, 1) := by decide +kernel
theorem dX2_add_0 : decode cX2_add 0 = .ok (.aload_n 0, 1) := by decide +kernel
theorem dX2_add_1 : decode cX2_add 1 = .ok (.getfield 16, 3) := by decide +kernel
theorem dX2_add_4 : decode cX2_add 4 = .ok (.ldc2_w 20, 3) := by decide +kernel
theorem dX2_add_7 : decode cX2_add 7 = .ok (.land, 1) := by decide +kernel
theorem dX2_add_8 : decode cX2_add 8 = .ok (.l2i, 1) := by decide +kernel
theorem dX2_add_9 : decode cX2_add 9 = .ok (.istore_n 3, 1) := by decide +kernel
theorem dX2_add_10 : decode cX2_add 10 = .ok (.aload_n 0, 1) := by decide +kernel
theorem dX2_add_11 : decode cX2_add 11 = .ok (.getfield 9, 3) := by decide +kernel
theorem dX2_add_14 : decode cX2_add 14 = .ok (.iload_n 3, 1) := by decide +kernel
theorem dX2_add_15 : decode cX2_add 15 = .ok (.iload_n 1, 1) := by decide +kernel
theorem dX2_add_16 : decode cX2_add 16 = .ok (.iastore, 1) := by decide +kernel
theorem dX2_add_17 : decode cX2_add 17 = .ok (.aload_n 0, 1) := by decide +kernel
theorem dX2_add_18 : decode cX2_add 18 = .ok (.getfield 13, 3) := by decide +kernel
theorem dX2_add_21 : decode cX2_add 21 = .ok (.iload_n 3, 1) := by decide +kernel
theorem dX2_add_22 : decode cX2_add 22 = .ok (.iload_n 2, 1) := by decide +kernel
theorem dX2_add_23 : decode cX2_add 23 = .ok (.iastore, 1) := by decide +kernel
theorem dX2_add_24 : decode cX2_add 24 = .ok (.aload_n 0, 1) := by decide +kernel
theorem dX2_add_25 : decode cX2_add 25 = .ok (.dup, 1) := by decide +kernel
theorem dX2_add_26 : decode cX2_add 26 = .ok (.getfield 16, 3) := by decide +kernel
theorem dX2_add_29 : decode cX2_add 29 = .ok (.lconst 1, 1) := by decide +kernel
theorem dX2_add_30 : decode cX2_add 30 = .ok (.ladd, 1) := by decide +kernel
theorem dX2_add_31 : decode cX2_add 31 = .ok (.putfield 16, 3) := by decide +kernel
theorem dX2_add_34 : decode cX2_add 34 = .ok (.return_, 1) := by decide +kernel
theorem dX2_sample_0 : decode cX2_sample 0 = .ok (.lload_n 1, 1) := by decide +kernel
theorem dX2_sample_1 : decode cX2_sample 1 = .ok (.lconst 0, 1) := by decide +kernel
theorem dX2_sample_2 : decode cX2_sample 2 = .ok (.lcmp, 1) := by decide +kernel
theorem dX2_sample_3 : decode cX2_sample 3 = .ok (.ifCond .lt 12, 3) := by decide +kernel
theorem dX2_sample_6 : decode cX2_sample 6 = .ok (.lload_n 1, 1) := by decide +kernel
theorem dX2_sample_7 : decode cX2_sample 7 = .ok (.aload_n 0, 1) := by decide +kernel
theorem dX2_sample_8 : decode cX2_sample 8 = .ok (.getfield 16, 3) := by decide +kernel
theorem dX2_sample_11 : decode cX2_sample 11 = .ok (.lcmp, 1) := by decide +kernel
theorem dX2_sample_12 : decode cX2_sample 12 = .ok (.ifCond .lt 5, 3) := by decide +kernel
theorem dX2_sample_15 : decode cX2_sample 15 = .ok (.iconst 0, 1) := by decide +kernel
theorem dX2_sample_16 : decode cX2_sample 16 = .ok (.ireturn, 1) := by decide +kernel
theorem dX2_sample_17 : decode cX2_sample 17 = .ok (.lload_n 1, 1) := by decide +kernel
theorem dX2_sample_18 : decode cX2_sample 18 = .ok (.ldc2_w 20, 3) := by decide +kernel
theorem dX2_sample_21 : decode cX2_sample 21 = .ok (.land, 1) := by decide +kernel
theorem dX2_sample_22 : decode cX2_sample 22 = .ok (.l2i, 1) := by decide +kernel
theorem dX2_sample_23 : decode cX2_sample 23 = .ok (.istore 4, 2) := by decide +kernel
theorem dX2_sample_25 : decode cX2_sample 25 = .ok (.iload_n 3, 1) := by decide +kernel
theorem dX2_sample_26 : decode cX2_sample 26 = .ok (.ifCond .eq 13, 3) := by decide +kernel
theorem dX2_sample_29 : decode cX2_sample 29 = .ok (.aload_n 0, 1) := by decide +kernel
theorem dX2_sample_30 : decode cX2_sample 30 = .ok (.getfield 13, 3) := by decide +kernel
theorem dX2_sample_33 : decode cX2_sample 33 = .ok (.iload 4, 2) := by decide +kernel
theorem dX2_sample_35 : decode cX2_sample 35 = .ok (.iaload, 1) := by decide +kernel
theorem dX2_sample_36 : decode cX2_sample 36 = .ok (.goto 10, 3) := by decide +kernel
theorem dX2_sample_39 : decode cX2_sample 39 = .ok (.aload_n 0, 1) := by decide +kernel
theorem dX2_sample_40 : decode cX2_sample 40 = .ok (.getfield 9, 3) := by decide +kernel
theorem dX2_sample_43 : decode cX2_sample 43 = .ok (.iload 4, 2) := by decide +kernel
theorem dX2_sample_45 : decode cX2_sample 45 = .ok (.iaload, 1) := by decide +kernel
theorem dX2_sample_46 : decode cX2_sample 46 = .ok (.ireturn, 1) := by decide +kernel
theorem dX3_init_0 : decode cX3_init 0 = .ok (.aload_n 0, 1) := by decide +kernel
theorem dX3_init_1 : decode cX3_init 1 = .ok (.invokespecial 3, 3) := by decide +kernel
theorem dX3_init_4 : decode cX3_init 4 = .ok (.aload_n 0, 1) := by decide +kernel
theorem dX3_init_5 : decode cX3_init 5 = .ok (.iconst 1, 1) := by decide +kernel
theorem dX3_init_6 : decode cX3_init 6 = .ok (.putfield 9, 3) := by decide +kernel
theorem dX3_init_9 : decode cX3_init 9 = .ok (.aload_n 0, 1) := by decide +kernel
theorem dX3_init_10 : decode cX3_init 10 = .ok (.sipush 4096, 3) := by decide +kernel
theorem dX3_init_13 : decode cX3_init 13 = .ok (.putfield 15, 3) := by decide +kernel
theorem dX3_init_16 : decode cX3_init 16 = .ok (.aload_n 0, 1) := by decide +kernel
theorem dX3_init_17 : decode cX3_init 17 = .ok (.iconst 0, 1) := by decide +kernel
theorem dX3_init_18 : decode cX3_init 18 = .ok (.putfield 19, 3) := by decide +kernel
theorem dX3_init_21 : decode cX3_init 21 = .ok (.aload_n 0, 1) := by decide +kernel
theorem dX3_init_22 : decode cX3_init 22 = .ok (.lconst 0, 1) := by decide +kernel
theorem dX3_init_23 : decode cX3_init 23 = .ok (.putfield 22, 3) := by decide +kernel
theorem dX3_init_26 : decode cX3_init 26 = .ok (.return_, 1) := by decide +kernel
theorem dX3_make_0 : decode cX3_make 0 = .ok (.iconst 0, 1) := by decide +kernel
theorem dX3_make_1 : decode cX3_make 1 = .ok (.istore_n 3, 1) := by decide +kernel
theorem dX3_make_2 : decode cX3_make 2 = .ok (.iload_n 3, 1) := by decide +kernel
theorem dX3_make_3 : decode cX3_make 3 = .ok (.bipush 24, 2) := by decide +kernel
theorem dX3_make_5 : decode cX3_make 5 = .ok (.if_icmp .ge 95, 3) := by decide +kernel
theorem dX3_make_8 : decode cX3_make 8 = .ok (.aload_n 0, 1) := by decide +kernel
theorem dX3_make_9 : decode cX3_make 9 = .ok (.getfield 9, 3) := by decide +kernel
theorem dX3_make_12 : decode cX3_make 12 = .ok (.ifCond .eq 32, 3) := by decide +kernel
theorem dX3_make_15 : decode cX3_make 15 = .ok (.aload_n 0, 1) := by decide +kernel
theorem dX3_make_16 : decode cX3_make 16 = .ok (.invokevirtual 26, 3) := by decide +kernel
theorem dX3_make_19 : decode cX3_make 19 = .ok (.aload_n 0, 1) := by decide +kernel
theorem dX3_make_20 : decode cX3_make 20 = .ok (.aload_n 1, 1) := by decide +kernel
theorem dX3_make_21 : decode cX3_make 21 = .ok (.iconst 2, 1) := by decide +kernel
theorem dX3_make_22 : decode cX3_make 22 = .ok (.iload_n 3, 1) := by decide +kernel
theorem dX3_make_23 : decode cX3_make 23 = .ok (.imul, 1) := by decide +kernel
theorem dX3_make_24 : decode cX3_make 24 = .ok (.iaload, 1) := by decide +kernel
theorem dX3_make_25 : decode cX3_make 25 = .ok (.invokestatic 29, 3) := by decide +kernel
theorem dX3_make_28 : decode cX3_make 28 = .ok (.aload_n 1, 1) := by decide +kernel
theorem dX3_make_29 : decode cX3_make 29 = .ok (.iconst 2, 1) := by decide +kernel
theorem dX3_make_30 : decode cX3_make 30 = .ok (.iload_n 3, 1) := by decide +kernel
theorem dX3_make_31 : decode cX3_make 31 = .ok (.imul, 1) := by decide +kernel
theorem dX3_make_32 : decode cX3_make 32 = .ok (.iconst 1, 1) := by decide +kernel
theorem dX3_make_33 : decode cX3_make 33 = .ok (.iadd, 1) := by decide +kernel
theorem dX3_make_34 : decode cX3_make 34 = .ok (.iaload, 1) := by decide +kernel
theorem dX3_make_35 : decode cX3_make 35 = .ok (.invokestatic 29, 3) := by decide +kernel
theorem dX3_make_38 : decode cX3_make 38 = .ok (.invokestatic 35, 3) := by decide +kernel
theorem dX3_make_41 : decode cX3_make 41 = .ok (.invokevirtual 39, 3) := by decide +kernel
theorem dX3_make_44 : decode cX3_make 44 = .ok (.aload_n 2, 1) := by decide +kernel
theorem dX3_make_45 : decode cX3_make 45 = .ok (.iconst 2, 1) := by decide +kernel
theorem dX3_make_46 : decode cX3_make 46 = .ok (.iload_n 3, 1) := by decide +kernel
theorem dX3_make_47 : decode cX3_make 47 = .ok (.imul, 1) := by decide +kernel
theorem dX3_make_48 : decode cX3_make 48 = .ok (.aload_n 0, 1) := by decide +kernel
theorem dX3_make_49 : decode cX3_make 49 = .ok (.aload_n 0, 1) := by decide +kernel
theorem dX3_make_50 : decode cX3_make 50 = .ok (.aload_n 1, 1) := by decide +kernel
theorem dX3_make_51 : decode cX3_make 51 = .ok (.iconst 2, 1) := by decide +kernel
theorem dX3_make_52 : decode cX3_make 52 = .ok (.iload_n 3, 1) := by decide +kernel
theorem dX3_make_53 : decode cX3_make 53 = .ok (.imul, 1) := by decide +kernel
theorem dX3_make_54 : decode cX3_make 54 = .ok (.iaload, 1) := by decide +kernel
theorem dX3_make_55 : decode cX3_make 55 = .ok (.invokevirtual 43, 3) := by decide +kernel
theorem dX3_make_58 : decode cX3_make 58 = .ok (.invokevirtual 46, 3) := by decide +kernel
theorem dX3_make_61 : decode cX3_make 61 = .ok (.iastore, 1) := by decide +kernel
theorem dX3_make_62 : decode cX3_make 62 = .ok (.aload_n 2, 1) := by decide +kernel
theorem dX3_make_63 : decode cX3_make 63 = .ok (.iconst 2, 1) := by decide +kernel
theorem dX3_make_64 : decode cX3_make 64 = .ok (.iload_n 3, 1) := by decide +kernel
theorem dX3_make_65 : decode cX3_make 65 = .ok (.imul, 1) := by decide +kernel
theorem dX3_make_66 : decode cX3_make 66 = .ok (.iconst 1, 1) := by decide +kernel
theorem dX3_make_67 : decode cX3_make 67 = .ok (.iadd, 1) := by decide +kernel
theorem dX3_make_68 : decode cX3_make 68 = .ok (.aload_n 0, 1) := by decide +kernel
theorem dX3_make_69 : decode cX3_make 69 = .ok (.aload_n 0, 1) := by decide +kernel
theorem dX3_make_70 : decode cX3_make 70 = .ok (.aload_n 1, 1) := by decide +kernel
theorem dX3_make_71 : decode cX3_make 71 = .ok (.iconst 2, 1) := by decide +kernel
theorem dX3_make_72 : decode cX3_make 72 = .ok (.iload_n 3, 1) := by decide +kernel
theorem dX3_make_73 : decode cX3_make 73 = .ok (.imul, 1) := by decide +kernel
theorem dX3_make_74 : decode cX3_make 74 = .ok (.iconst 1, 1) := by decide +kernel
theorem dX3_make_75 : decode cX3_make 75 = .ok (.iadd, 1) := by decide +kernel
theorem dX3_make_76 : decode cX3_make 76 = .ok (.iaload, 1) := by decide +kernel
theorem dX3_make_77 : decode cX3_make 77 = .ok (.invokevirtual 43, 3) := by decide +kernel
theorem dX3_make_80 : decode cX3_make 80 = .ok (.invokevirtual 46, 3) := by decide +kernel
theorem dX3_make_83 : decode cX3_make 83 = .ok (.iastore, 1) := by decide +kernel
theorem dX3_make_84 : decode cX3_make 84 = .ok (.aload_n 0, 1) := by decide +kernel
theorem dX3_make_85 : decode cX3_make 85 = .ok (.dup, 1) := by decide +kernel
theorem dX3_make_86 : decode cX3_make 86 = .ok (.getfield 22, 3) := by decide +kernel
theorem dX3_make_89 : decode cX3_make 89 = .ok (.lconst 1, 1) := by decide +kernel
theorem dX3_make_90 : decode cX3_make 90 = .ok (.ladd, 1) := by decide +kernel
theorem dX3_make_91 : decode cX3_make 91 = .ok (.putfield 22, 3) := by decide +kernel
theorem dX3_make_94 : decode cX3_make 94 = .ok (.iinc 3 1, 3) := by decide +kernel
theorem dX3_make_97 : decode cX3_make 97 = .ok (.goto (-95), 3) := by decide +kernel
theorem dX3_make_100 : decode cX3_make 100 = .ok (.return_, 1) := by decide +kernel
theorem dX3_recover_0 : decode cX3_recover 0 = .ok (.aload_n 0, 1) := by decide +kernel
theorem dX3_recover_1 : decode cX3_recover 1 = .ok (.getfield 22, 3) := by decide +kernel
theorem dX3_recover_4 : decode cX3_recover 4 = .ok (.ldc2_w 49, 3) := by decide +kernel
theorem dX3_recover_7 : decode cX3_recover 7 = .ok (.lrem, 1) := by decide +kernel
theorem dX3_recover_8 : decode cX3_recover 8 = .ok (.lconst 0, 1) := by decide +kernel
theorem dX3_recover_9 : decode cX3_recover 9 = .ok (.lcmp, 1) := by decide +kernel
theorem dX3_recover_10 : decode cX3_recover 10 = .ok (.ifCond .ne 20, 3) := by decide +kernel
theorem dX3_recover_13 : decode cX3_recover 13 = .ok (.aload_n 0, 1) := by decide +kernel
theorem dX3_recover_14 : decode cX3_recover 14 = .ok (.sipush 4096, 3) := by decide +kernel
theorem dX3_recover_17 : decode cX3_recover 17 = .ok (.aload_n 0, 1) := by decide +kernel
theorem dX3_recover_18 : decode cX3_recover 18 = .ok (.getfield 15, 3) := by decide +kernel
theorem dX3_recover_21 : decode cX3_recover 21 = .ok (.bipush 16, 2) := by decide +kernel
theorem dX3_recover_23 : decode cX3_recover 23 = .ok (.iadd, 1) := by decide +kernel
theorem dX3_recover_24 : decode cX3_recover 24 = .ok (.invokestatic 51, 3) := by decide +kernel
theorem dX3_recover_27 : decode cX3_recover 27 = .ok (.putfield 15, 3) := by decide +kernel
theorem dX3_recover_30 : decode cX3_recover 30 = .ok (.return_, 1) := by decide +kernel
theorem dX3_yieldTo_0 : decode cX3_yieldTo 0 = .ok (.ldc2_w 54, 3) := by decide +kernel
theorem dX3_yieldTo_3 : decode cX3_yieldTo 3 = .ok (.lstore_n 2, 1) := by decide +kernel
theorem dX3_yieldTo_4 : decode cX3_yieldTo 4 = .ok (.iload_n 1, 1) := by decide +kernel
theorem dX3_yieldTo_5 : decode cX3_yieldTo 5 = .ok (.ifCond .le 25, 3) := by decide +kernel
theorem dX3_yieldTo_8 : decode cX3_yieldTo 8 = .ok (.iload_n 1, 1) := by decide +kernel
theorem dX3_yieldTo_9 : decode cX3_yieldTo 9 = .ok (.i2l, 1) := by decide +kernel
theorem dX3_yieldTo_10 : decode cX3_yieldTo 10 = .ok (.aload_n 0, 1) := by decide +kernel
theorem dX3_yieldTo_11 : decode cX3_yieldTo 11 = .ok (.getfield 15, 3) := by decide +kernel
theorem dX3_yieldTo_14 : decode cX3_yieldTo 14 = .ok (.i2l, 1) := by decide +kernel
theorem dX3_yieldTo_15 : decode cX3_yieldTo 15 = .ok (.lmul, 1) := by decide +kernel
theorem dX3_yieldTo_16 : decode cX3_yieldTo 16 = .ok (.lload_n 2, 1) := by decide +kernel
theorem dX3_yieldTo_17 : decode cX3_yieldTo 17 = .ok (.lcmp, 1) := by decide +kernel
theorem dX3_yieldTo_18 : decode cX3_yieldTo 18 = .ok (.ifCond .le 12, 3) := by decide +kernel
theorem dX3_yieldTo_21 : decode cX3_yieldTo 21 = .ok (.aload_n 0, 1) := by decide +kernel
theorem dX3_yieldTo_22 : decode cX3_yieldTo 22 = .ok (.lload_n 2, 1) := by decide +kernel
theorem dX3_yieldTo_23 : decode cX3_yieldTo 23 = .ok (.iload_n 1, 1) := by decide +kernel
theorem dX3_yieldTo_24 : decode cX3_yieldTo 24 = .ok (.i2l, 1) := by decide +kernel
theorem dX3_yieldTo_25 : decode cX3_yieldTo 25 = .ok (.ldiv, 1) := by decide +kernel
theorem dX3_yieldTo_26 : decode cX3_yieldTo 26 = .ok (.l2i, 1) := by decide +kernel
theorem dX3_yieldTo_27 : decode cX3_yieldTo 27 = .ok (.putfield 15, 3) := by decide +kernel
theorem dX3_yieldTo_30 : decode cX3_yieldTo 30 = .ok (.return_, 1) := by decide +kernel
theorem dX3_limited_0 : decode cX3_limited 0 = .ok (.aload_n 0, 1) := by decide +kernel
theorem dX3_limited_1 : decode cX3_limited 1 = .ok (.getfield 9, 3) := by decide +kernel
theorem dX3_limited_4 : decode cX3_limited 4 = .ok (.ifCond .eq 21, 3) := by decide +kernel
theorem dX3_limited_7 : decode cX3_limited 7 = .ok (.iload_n 1, 1) := by decide +kernel
theorem dX3_limited_8 : decode cX3_limited 8 = .ok (.i2l, 1) := by decide +kernel
theorem dX3_limited_9 : decode cX3_limited 9 = .ok (.aload_n 0, 1) := by decide +kernel
theorem dX3_limited_10 : decode cX3_limited 10 = .ok (.getfield 15, 3) := by decide +kernel
theorem dX3_limited_13 : decode cX3_limited 13 = .ok (.i2l, 1) := by decide +kernel
theorem dX3_limited_14 : decode cX3_limited 14 = .ok (.lmul, 1) := by decide +kernel
theorem dX3_limited_15 : decode cX3_limited 15 = .ok (.ldc2_w 56, 3) := by decide +kernel
theorem dX3_limited_18 : decode cX3_limited 18 = .ok (.invokestatic 58, 3) := by decide +kernel
theorem dX3_limited_21 : decode cX3_limited 21 = .ok (.l2i, 1) := by decide +kernel
theorem dX3_limited_22 : decode cX3_limited 22 = .ok (.goto 4, 3) := by decide +kernel
theorem dX3_limited_25 : decode cX3_limited 25 = .ok (.iload_n 1, 1) := by decide +kernel
theorem dX3_limited_26 : decode cX3_limited 26 = .ok (.ireturn, 1) := by decide +kernel
theorem dX3_cut_0 : decode cX3_cut 0 = .ok (.iload_n 1, 1) := by decide +kernel
theorem dX3_cut_1 : decode cX3_cut 1 = .ok (.invokestatic 62, 3) := by decide +kernel
theorem dX3_cut_4 : decode cX3_cut 4 = .ok (.ifCond .eq 5, 3) := by decide +kernel
theorem dX3_cut_7 : decode cX3_cut 7 = .ok (.iload_n 1, 1) := by decide +kernel
theorem dX3_cut_8 : decode cX3_cut 8 = .ok (.ireturn, 1) := by decide +kernel
theorem dX3_cut_9 : decode cX3_cut 9 = .ok (.aload_n 0, 1) := by decide +kernel
theorem dX3_cut_10 : decode cX3_cut 10 = .ok (.dup, 1) := by decide +kernel
theorem dX3_cut_11 : decode cX3_cut 11 = .ok (.getfield 19, 3) := by decide +kernel
theorem dX3_cut_14 : decode cX3_cut 14 = .ok (.iconst 1, 1) := by decide +kernel
theorem dX3_cut_15 : decode cX3_cut 15 = .ok (.iadd, 1) := by decide +kernel
theorem dX3_cut_16 : decode cX3_cut 16 = .ok (.putfield 19, 3) := by decide +kernel
theorem dX3_cut_19 : decode cX3_cut 19 = .ok (.iload_n 1, 1) := by decide +kernel
theorem dX3_cut_20 : decode cX3_cut 20 = .ok (.ifCond .ge 9, 3) := by decide +kernel
theorem dX3_cut_23 : decode cX3_cut 23 = .ok (.sipush (-32768), 3) := by decide +kernel
theorem dX3_cut_26 : decode cX3_cut 26 = .ok (.goto 6, 3) := by decide +kernel
theorem dX3_cut_29 : decode cX3_cut 29 = .ok (.sipush 32767, 3) := by decide +kernel
theorem dX3_cut_32 : decode cX3_cut 32 = .ok (.ireturn, 1) := by decide +kernel
theorem dX4_init_0 : decode cX4_init 0 = .ok (.aload_n 0, 1) := by decide +kernel
theorem dX4_init_1 : decode cX4_init 1 = .ok (.iload_n 3, 1) := by decide +kernel
theorem dX4_init_2 : decode cX4_init 2 = .ok (.iload 4, 2) := by decide +kernel
theorem dX4_init_4 : decode cX4_init 4 = .ok (.invokespecial 3, 3) := by decide +kernel
theorem dX4_init_7 : decode cX4_init 7 = .ok (.aload_n 0, 1) := by decide +kernel
theorem dX4_init_8 : decode cX4_init 8 = .ok (.new 9, 3) := by decide +kernel
theorem dX4_init_11 : decode cX4_init 11 = .ok (.dup, 1) := by decide +kernel
theorem dX4_init_12 : decode cX4_init 12 = .ok (.invokespecial 11, 3) := by decide +kernel
theorem dX4_init_15 : decode cX4_init 15 = .ok (.putfield 14, 3) := by decide +kernel
theorem dX4_init_18 : decode cX4_init 18 = .ok (.aload_n 0, 1) := by decide +kernel
theorem dX4_init_19 : decode cX4_init 19 = .ok (.new 9, 3) := by decide +kernel
theorem dX4_init_22 : decode cX4_init 22 = .ok (.dup, 1) := by decide +kernel
theorem dX4_init_23 : decode cX4_init 23 = .ok (.invokespecial 11, 3) := by decide +kernel
theorem dX4_init_26 : decode cX4_init 26 = .ok (.putfield 20, 3) := by decide +kernel
theorem dX4_init_29 : decode cX4_init 29 = .ok (.aload_n 0, 1) := by decide +kernel
theorem dX4_init_30 : decode cX4_init 30 = .ok (.lconst 0, 1) := by decide +kernel
theorem dX4_init_31 : decode cX4_init 31 = .ok (.putfield 23, 3) := by decide +kernel
theorem dX4_init_34 : decode cX4_init 34 = .ok (.aload_n 0, 1) := by decide +kernel
theorem dX4_init_35 : decode cX4_init 35 = .ok (.lconst 0, 1) := by decide +kernel
theorem dX4_init_36 : decode cX4_init 36 = .ok (.putfield 27, 3) := by decide +kernel
theorem dX4_init_39 : decode cX4_init 39 = .ok (.aload_n 0, 1) := by decide +kernel
theorem dX4_init_40 : decode cX4_init 40 = .ok (.new 30, 3) := by decide +kernel
theorem dX4_init_43 : decode cX4_init 43 = .ok (.dup, 1) := by decide +kernel
theorem dX4_init_44 : decode cX4_init 44 = .ok (.aload_n 1, 1) := by decide +kernel
theorem dX4_init_45 : decode cX4_init 45 = .ok (.ldc 32, 2) := by decide +kernel
theorem dX4_init_47 : decode cX4_init 47 = .ok (.iload_n 2, 1) := by decide +kernel
theorem dX4_init_48 : decode cX4_init 48 = .ok (.invokespecial 33, 3) := by decide +kernel
theorem dX4_init_51 : decode cX4_init 51 = .ok (.putfield 36, 3) := by decide +kernel
theorem dX4_init_54 : decode cX4_init 54 = .ok (.return_, 1) := by decide +kernel
theorem dX4_numbersNow_0 : decode cX4_numbersNow 0 = .ok (.aload_n 0, 1) := by decide +kernel
theorem dX4_numbersNow_1 : decode cX4_numbersNow 1 = .ok (.aload_n 0, 1) := by decide +kernel
theorem dX4_numbersNow_2 : decode cX4_numbersNow 2 = .ok (.getfield 20, 3) := by decide +kernel
theorem dX4_numbersNow_5 : decode cX4_numbersNow 5 = .ok (.getfield 40, 3) := by decide +kernel
theorem dX4_numbersNow_8 : decode cX4_numbersNow 8 = .ok (.aload_n 0, 1) := by decide +kernel
theorem dX4_numbersNow_9 : decode cX4_numbersNow 9 = .ok (.getfield 27, 3) := by decide +kernel
theorem dX4_numbersNow_12 : decode cX4_numbersNow 12 = .ok (.lsub, 1) := by decide +kernel
theorem dX4_numbersNow_13 : decode cX4_numbersNow 13 = .ok (.invokevirtual 43, 3) := by decide +kernel
theorem dX4_numbersNow_16 : decode cX4_numbersNow 16 = .ok (.ireturn, 1) := by decide +kernel
theorem dX4_place_0 : decode cX4_place 0 = .ok (.aload_n 0, 1) := by decide +kernel
theorem dX4_place_1 : decode cX4_place 1 = .ok (.getfield 27, 3) := by decide +kernel
theorem dX4_place_4 : decode cX4_place 4 = .ok (.lreturn, 1) := by decide +kernel
theorem dX4_capture_0 : decode cX4_capture 0 = .ok (.iconst 0, 1) := by decide +kernel
theorem dX4_capture_1 : decode cX4_capture 1 = .ok (.istore_n 2, 1) := by decide +kernel
theorem dX4_capture_2 : decode cX4_capture 2 = .ok (.iload_n 2, 1) := by decide +kernel
theorem dX4_capture_3 : decode cX4_capture 3 = .ok (.bipush 24, 2) := by decide +kernel
theorem dX4_capture_5 : decode cX4_capture 5 = .ok (.if_icmp .ge 28, 3) := by decide +kernel
theorem dX4_capture_8 : decode cX4_capture 8 = .ok (.aload_n 0, 1) := by decide +kernel
theorem dX4_capture_9 : decode cX4_capture 9 = .ok (.getfield 14, 3) := by decide +kernel
theorem dX4_capture_12 : decode cX4_capture 12 = .ok (.aload_n 1, 1) := by decide +kernel
theorem dX4_capture_13 : decode cX4_capture 13 = .ok (.iconst 2, 1) := by decide +kernel
theorem dX4_capture_14 : decode cX4_capture 14 = .ok (.iload_n 2, 1) := by decide +kernel
theorem dX4_capture_15 : decode cX4_capture 15 = .ok (.imul, 1) := by decide +kernel
theorem dX4_capture_16 : decode cX4_capture 16 = .ok (.iaload, 1) := by decide +kernel
theorem dX4_capture_17 : decode cX4_capture 17 = .ok (.aload_n 1, 1) := by decide +kernel
theorem dX4_capture_18 : decode cX4_capture 18 = .ok (.iconst 2, 1) := by decide +kernel
theorem dX4_capture_19 : decode cX4_capture 19 = .ok (.iload_n 2, 1) := by decide +kernel
theorem dX4_capture_20 : decode cX4_capture 20 = .ok (.imul, 1) := by decide +kernel
theorem dX4_capture_21 : decode cX4_capture 21 = .ok (.iconst 1, 1) := by decide +kernel
theorem dX4_capture_22 : decode cX4_capture 22 = .ok (.iadd, 1) := by decide +kernel
theorem dX4_capture_23 : decode cX4_capture 23 = .ok (.iaload, 1) := by decide +kernel
theorem dX4_capture_24 : decode cX4_capture 24 = .ok (.invokevirtual 47, 3) := by decide +kernel
theorem dX4_capture_27 : decode cX4_capture 27 = .ok (.iinc 2 1, 3) := by decide +kernel
theorem dX4_capture_30 : decode cX4_capture 30 = .ok (.goto (-28), 3) := by decide +kernel
theorem dX4_capture_33 : decode cX4_capture 33 = .ok (.aload_n 0, 1) := by decide +kernel
theorem dX4_capture_34 : decode cX4_capture 34 = .ok (.invokevirtual 50, 3) := by decide +kernel
theorem dX4_capture_37 : decode cX4_capture 37 = .ok (.istore_n 2, 1) := by decide +kernel
theorem dX4_capture_38 : decode cX4_capture 38 = .ok (.aload_n 0, 1) := by decide +kernel
theorem dX4_capture_39 : decode cX4_capture 39 = .ok (.getfield 20, 3) := by decide +kernel
theorem dX4_capture_42 : decode cX4_capture 42 = .ok (.getfield 40, 3) := by decide +kernel
theorem dX4_capture_45 : decode cX4_capture 45 = .ok (.aload_n 0, 1) := by decide +kernel
theorem dX4_capture_46 : decode cX4_capture 46 = .ok (.getfield 27, 3) := by decide +kernel
theorem dX4_capture_49 : decode cX4_capture 49 = .ok (.lsub, 1) := by decide +kernel
theorem dX4_capture_50 : decode cX4_capture 50 = .ok (.iload_n 2, 1) := by decide +kernel
theorem dX4_capture_51 : decode cX4_capture 51 = .ok (.i2l, 1) := by decide +kernel
theorem dX4_capture_52 : decode cX4_capture 52 = .ok (.ladd, 1) := by decide +kernel
theorem dX4_capture_53 : decode cX4_capture 53 = .ok (.ldc2_w 54, 3) := by decide +kernel
theorem dX4_capture_56 : decode cX4_capture 56 = .ok (.lcmp, 1) := by decide +kernel
theorem dX4_capture_57 : decode cX4_capture 57 = .ok (.ifCond .le 16, 3) := by decide +kernel
theorem dX4_capture_60 : decode cX4_capture 60 = .ok (.aload_n 0, 1) := by decide +kernel
theorem dX4_capture_61 : decode cX4_capture 61 = .ok (.dup, 1) := by decide +kernel
theorem dX4_capture_62 : decode cX4_capture 62 = .ok (.getfield 56, 3) := by decide +kernel
theorem dX4_capture_65 : decode cX4_capture 65 = .ok (.iconst 1, 1) := by decide +kernel
theorem dX4_capture_66 : decode cX4_capture 66 = .ok (.iadd, 1) := by decide +kernel
theorem dX4_capture_67 : decode cX4_capture 67 = .ok (.putfield 56, 3) := by decide +kernel
theorem dX4_capture_70 : decode cX4_capture 70 = .ok (.goto 8, 3) := by decide +kernel
theorem dX4_capture_73 : decode cX4_capture 73 = .ok (.aload_n 0, 1) := by decide +kernel
theorem dX4_capture_74 : decode cX4_capture 74 = .ok (.iload_n 2, 1) := by decide +kernel
theorem dX4_capture_75 : decode cX4_capture 75 = .ok (.invokevirtual 60, 3) := by decide +kernel
theorem dX4_capture_78 : decode cX4_capture 78 = .ok (.aload_n 0, 1) := by decide +kernel
theorem dX4_capture_79 : decode cX4_capture 79 = .ok (.dup, 1) := by decide +kernel
theorem dX4_capture_80 : decode cX4_capture 80 = .ok (.getfield 23, 3) := by decide +kernel
theorem dX4_capture_83 : decode cX4_capture 83 = .ok (.iload_n 2, 1) := by decide +kernel
theorem dX4_capture_84 : decode cX4_capture 84 = .ok (.i2l, 1) := by decide +kernel
theorem dX4_capture_85 : decode cX4_capture 85 = .ok (.ladd, 1) := by decide +kernel
theorem dX4_capture_86 : decode cX4_capture 86 = .ok (.putfield 23, 3) := by decide +kernel
theorem dX4_capture_89 : decode cX4_capture 89 = .ok (.return_, 1) := by decide +kernel
theorem dX4_nextNumber_0 : decode cX4_nextNumber 0 = .ok (.aload_n 0, 1) := by decide +kernel
theorem dX4_nextNumber_1 : decode cX4_nextNumber 1 = .ok (.getfield 20, 3) := by decide +kernel
theorem dX4_nextNumber_4 : decode cX4_nextNumber 4 = .ok (.aload_n 0, 1) := by decide +kernel
theorem dX4_nextNumber_5 : decode cX4_nextNumber 5 = .ok (.getfield 27, 3) := by decide +kernel
theorem dX4_nextNumber_8 : decode cX4_nextNumber 8 = .ok (.iconst 0, 1) := by decide +kernel
theorem dX4_nextNumber_9 : decode cX4_nextNumber 9 = .ok (.invokevirtual 64, 3) := by decide +kernel
theorem dX4_nextNumber_12 : decode cX4_nextNumber 12 = .ok (.istore_n 1, 1) := by decide +kernel
theorem dX4_nextNumber_13 : decode cX4_nextNumber 13 = .ok (.aload_n 0, 1) := by decide +kernel
theorem dX4_nextNumber_14 : decode cX4_nextNumber 14 = .ok (.getfield 20, 3) := by decide +kernel
theorem dX4_nextNumber_17 : decode cX4_nextNumber 17 = .ok (.aload_n 0, 1) := by decide +kernel
theorem dX4_nextNumber_18 : decode cX4_nextNumber 18 = .ok (.getfield 27, 3) := by decide +kernel
theorem dX4_nextNumber_21 : decode cX4_nextNumber 21 = .ok (.iconst 1, 1) := by decide +kernel
theorem dX4_nextNumber_22 : decode cX4_nextNumber 22 = .ok (.invokevirtual 64, 3) := by decide +kernel
theorem dX4_nextNumber_25 : decode cX4_nextNumber 25 = .ok (.istore_n 2, 1) := by decide +kernel
theorem dX4_nextNumber_26 : decode cX4_nextNumber 26 = .ok (.aload_n 0, 1) := by decide +kernel
theorem dX4_nextNumber_27 : decode cX4_nextNumber 27 = .ok (.getfield 68, 3) := by decide +kernel
theorem dX4_nextNumber_30 : decode cX4_nextNumber 30 = .ok (.iconst 1, 1) := by decide +kernel
theorem dX4_nextNumber_31 : decode cX4_nextNumber 31 = .ok (.if_icmp .ne 25, 3) := by decide +kernel
theorem dX4_nextNumber_34 : decode cX4_nextNumber 34 = .ok (.aload_n 0, 1) := by decide +kernel
theorem dX4_nextNumber_35 : decode cX4_nextNumber 35 = .ok (.dup, 1) := by decide +kernel
theorem dX4_nextNumber_36 : decode cX4_nextNumber 36 = .ok (.getfield 27, 3) := by decide +kernel
theorem dX4_nextNumber_39 : decode cX4_nextNumber 39 = .ok (.lconst 1, 1) := by decide +kernel
theorem dX4_nextNumber_40 : decode cX4_nextNumber 40 = .ok (.ladd, 1) := by decide +kernel
theorem dX4_nextNumber_41 : decode cX4_nextNumber 41 = .ok (.putfield 27, 3) := by decide +kernel
theorem dX4_nextNumber_44 : decode cX4_nextNumber 44 = .ok (.aload_n 0, 1) := by decide +kernel
theorem dX4_nextNumber_45 : decode cX4_nextNumber 45 = .ok (.iload_n 1, 1) := by decide +kernel
theorem dX4_nextNumber_46 : decode cX4_nextNumber 46 = .ok (.iload_n 2, 1) := by decide +kernel
theorem dX4_nextNumber_47 : decode cX4_nextNumber 47 = .ok (.iadd, 1) := by decide +kernel
theorem dX4_nextNumber_48 : decode cX4_nextNumber 48 = .ok (.iconst 2, 1) := by decide +kernel
theorem dX4_nextNumber_49 : decode cX4_nextNumber 49 = .ok (.invokestatic 71, 3) := by decide +kernel
theorem dX4_nextNumber_52 : decode cX4_nextNumber 52 = .ok (.invokevirtual 77, 3) := by decide +kernel
theorem dX4_nextNumber_55 : decode cX4_nextNumber 55 = .ok (.ireturn, 1) := by decide +kernel
theorem dX4_nextNumber_56 : decode cX4_nextNumber 56 = .ok (.aload_n 0, 1) := by decide +kernel
theorem dX4_nextNumber_57 : decode cX4_nextNumber 57 = .ok (.getfield 81, 3) := by decide +kernel
theorem dX4_nextNumber_60 : decode cX4_nextNumber 60 = .ok (.ifCond .eq 24, 3) := by decide +kernel
theorem dX4_nextNumber_63 : decode cX4_nextNumber 63 = .ok (.aload_n 0, 1) := by decide +kernel
theorem dX4_nextNumber_64 : decode cX4_nextNumber 64 = .ok (.iconst 0, 1) := by decide +kernel
theorem dX4_nextNumber_65 : decode cX4_nextNumber 65 = .ok (.putfield 81, 3) := by decide +kernel
theorem dX4_nextNumber_68 : decode cX4_nextNumber 68 = .ok (.aload_n 0, 1) := by decide +kernel
theorem dX4_nextNumber_69 : decode cX4_nextNumber 69 = .ok (.dup, 1) := by decide +kernel
theorem dX4_nextNumber_70 : decode cX4_nextNumber 70 = .ok (.getfield 27, 3) := by decide +kernel
theorem dX4_nextNumber_73 : decode cX4_nextNumber 73 = .ok (.lconst 1, 1) := by decide +kernel
theorem dX4_nextNumber_74 : decode cX4_nextNumber 74 = .ok (.ladd, 1) := by decide +kernel
theorem dX4_nextNumber_75 : decode cX4_nextNumber 75 = .ok (.putfield 27, 3) := by decide +kernel
theorem dX4_nextNumber_78 : decode cX4_nextNumber 78 = .ok (.aload_n 0, 1) := by decide +kernel
theorem dX4_nextNumber_79 : decode cX4_nextNumber 79 = .ok (.iload_n 2, 1) := by decide +kernel
theorem dX4_nextNumber_80 : decode cX4_nextNumber 80 = .ok (.invokevirtual 77, 3) := by decide +kernel
theorem dX4_nextNumber_83 : decode cX4_nextNumber 83 = .ok (.ireturn, 1) := by decide +kernel
theorem dX4_nextNumber_84 : decode cX4_nextNumber 84 = .ok (.aload_n 0, 1) := by decide +kernel
theorem dX4_nextNumber_85 : decode cX4_nextNumber 85 = .ok (.iconst 1, 1) := by decide +kernel
theorem dX4_nextNumber_86 : decode cX4_nextNumber 86 = .ok (.putfield 81, 3) := by decide +kernel
theorem dX4_nextNumber_89 : decode cX4_nextNumber 89 = .ok (.aload_n 0, 1) := by decide +kernel
theorem dX4_nextNumber_90 : decode cX4_nextNumber 90 = .ok (.iload_n 1, 1) := by decide +kernel
theorem dX4_nextNumber_91 : decode cX4_nextNumber 91 = .ok (.invokevirtual 77, 3) := by decide +kernel
theorem dX4_nextNumber_94 : decode cX4_nextNumber 94 = .ok (.ireturn, 1) := by decide +kernel
theorem dX4_freshFrames_0 : decode cX4_freshFrames 0 = .ok (.iconst 0, 1) := by decide +kernel
theorem dX4_freshFrames_1 : decode cX4_freshFrames 1 = .ok (.istore_n 1, 1) := by decide +kernel
theorem dX4_freshFrames_2 : decode cX4_freshFrames 2 = .ok (.iload_n 1, 1) := by decide +kernel
theorem dX4_freshFrames_3 : decode cX4_freshFrames 3 = .ok (.bipush 24, 2) := by decide +kernel
theorem dX4_freshFrames_5 : decode cX4_freshFrames 5 = .ok (.if_icmp .ge 34, 3) := by decide +kernel
theorem dX4_freshFrames_8 : decode cX4_freshFrames 8 = .ok (.aload_n 0, 1) := by decide +kernel
theorem dX4_freshFrames_9 : decode cX4_freshFrames 9 = .ok (.getfield 36, 3) := by decide +kernel
theorem dX4_freshFrames_12 : decode cX4_freshFrames 12 = .ok (.aload_n 0, 1) := by decide +kernel
theorem dX4_freshFrames_13 : decode cX4_freshFrames 13 = .ok (.getfield 23, 3) := by decide +kernel
theorem dX4_freshFrames_16 : decode cX4_freshFrames 16 = .ok (.iload_n 1, 1) := by decide +kernel
theorem dX4_freshFrames_17 : decode cX4_freshFrames 17 = .ok (.i2l, 1) := by decide +kernel
theorem dX4_freshFrames_18 : decode cX4_freshFrames 18 = .ok (.ladd, 1) := by decide +kernel
theorem dX4_freshFrames_19 : decode cX4_freshFrames 19 = .ok (.invokevirtual 85, 3) := by decide +kernel
theorem dX4_freshFrames_22 : decode cX4_freshFrames 22 = .ok (.aload_n 0, 1) := by decide +kernel
theorem dX4_freshFrames_23 : decode cX4_freshFrames 23 = .ok (.getfield 14, 3) := by decide +kernel
theorem dX4_freshFrames_26 : decode cX4_freshFrames 26 = .ok (.getfield 40, 3) := by decide +kernel
theorem dX4_freshFrames_29 : decode cX4_freshFrames 29 = .ok (.lcmp, 1) := by decide +kernel
theorem dX4_freshFrames_30 : decode cX4_freshFrames 30 = .ok (.ifCond .ge 9, 3) := by decide +kernel
theorem dX4_freshFrames_33 : decode cX4_freshFrames 33 = .ok (.iinc 1 1, 3) := by decide +kernel
theorem dX4_freshFrames_36 : decode cX4_freshFrames 36 = .ok (.goto (-34), 3) := by decide +kernel
theorem dX4_freshFrames_39 : decode cX4_freshFrames 39 = .ok (.iload_n 1, 1) := by decide +kernel
theorem dX4_freshFrames_40 : decode cX4_freshFrames 40 = .ok (.ireturn, 1) := by decide +kernel
theorem dX4_unlock_0 : decode cX4_unlock 0 = .ok (.iconst 0, 1) := by decide +kernel
theorem dX4_unlock_1 : decode cX4_unlock 1 = .ok (.istore_n 2, 1) := by decide +kernel
theorem dX4_unlock_2 : decode cX4_unlock 2 = .ok (.iload_n 2, 1) := by decide +kernel
theorem dX4_unlock_3 : decode cX4_unlock 3 = .ok (.iload_n 1, 1) := by decide +kernel
theorem dX4_unlock_4 : decode cX4_unlock 4 = .ok (.if_icmp .ge 54, 3) := by decide +kernel
theorem dX4_unlock_7 : decode cX4_unlock 7 = .ok (.aload_n 0, 1) := by decide +kernel
theorem dX4_unlock_8 : decode cX4_unlock 8 = .ok (.getfield 20, 3) := by decide +kernel
theorem dX4_unlock_11 : decode cX4_unlock 11 = .ok (.aload_n 0, 1) := by decide +kernel
theorem dX4_unlock_12 : decode cX4_unlock 12 = .ok (.getfield 36, 3) := by decide +kernel
theorem dX4_unlock_15 : decode cX4_unlock 15 = .ok (.aload_n 0, 1) := by decide +kernel
theorem dX4_unlock_16 : decode cX4_unlock 16 = .ok (.getfield 14, 3) := by decide +kernel
theorem dX4_unlock_19 : decode cX4_unlock 19 = .ok (.aload_n 0, 1) := by decide +kernel
theorem dX4_unlock_20 : decode cX4_unlock 20 = .ok (.getfield 23, 3) := by decide +kernel
theorem dX4_unlock_23 : decode cX4_unlock 23 = .ok (.iload_n 2, 1) := by decide +kernel
theorem dX4_unlock_24 : decode cX4_unlock 24 = .ok (.i2l, 1) := by decide +kernel
theorem dX4_unlock_25 : decode cX4_unlock 25 = .ok (.ladd, 1) := by decide +kernel
theorem dX4_unlock_26 : decode cX4_unlock 26 = .ok (.iconst 0, 1) := by decide +kernel
theorem dX4_unlock_27 : decode cX4_unlock 27 = .ok (.invokevirtual 89, 3) := by decide +kernel
theorem dX4_unlock_30 : decode cX4_unlock 30 = .ok (.aload_n 0, 1) := by decide +kernel
theorem dX4_unlock_31 : decode cX4_unlock 31 = .ok (.getfield 36, 3) := by decide +kernel
theorem dX4_unlock_34 : decode cX4_unlock 34 = .ok (.aload_n 0, 1) := by decide +kernel
theorem dX4_unlock_35 : decode cX4_unlock 35 = .ok (.getfield 14, 3) := by decide +kernel
theorem dX4_unlock_38 : decode cX4_unlock 38 = .ok (.aload_n 0, 1) := by decide +kernel
theorem dX4_unlock_39 : decode cX4_unlock 39 = .ok (.getfield 23, 3) := by decide +kernel
theorem dX4_unlock_42 : decode cX4_unlock 42 = .ok (.iload_n 2, 1) := by decide +kernel
theorem dX4_unlock_43 : decode cX4_unlock 43 = .ok (.i2l, 1) := by decide +kernel
theorem dX4_unlock_44 : decode cX4_unlock 44 = .ok (.ladd, 1) := by decide +kernel
theorem dX4_unlock_45 : decode cX4_unlock 45 = .ok (.iconst 1, 1) := by decide +kernel
theorem dX4_unlock_46 : decode cX4_unlock 46 = .ok (.invokevirtual 89, 3) := by decide +kernel
theorem dX4_unlock_49 : decode cX4_unlock 49 = .ok (.invokevirtual 47, 3) := by decide +kernel
theorem dX4_unlock_52 : decode cX4_unlock 52 = .ok (.iinc 2 1, 3) := by decide +kernel
theorem dX4_unlock_55 : decode cX4_unlock 55 = .ok (.goto (-53), 3) := by decide +kernel
theorem dX4_unlock_58 : decode cX4_unlock 58 = .ok (.return_, 1) := by decide +kernel
theorem dX5_init_0 : decode cX5_init 0 = .ok (.aload_n 0, 1) := by decide +kernel
theorem dX5_init_1 : decode cX5_init 1 = .ok (.iload_n 3, 1) := by decide +kernel
theorem dX5_init_2 : decode cX5_init 2 = .ok (.iload 4, 2) := by decide +kernel
theorem dX5_init_4 : decode cX5_init 4 = .ok (.invokespecial 3, 3) := by decide +kernel
theorem dX5_init_7 : decode cX5_init 7 = .ok (.aload_n 0, 1) := by decide +kernel
theorem dX5_init_8 : decode cX5_init 8 = .ok (.new 9, 3) := by decide +kernel
theorem dX5_init_11 : decode cX5_init 11 = .ok (.dup, 1) := by decide +kernel
theorem dX5_init_12 : decode cX5_init 12 = .ok (.invokespecial 11, 3) := by decide +kernel
theorem dX5_init_15 : decode cX5_init 15 = .ok (.putfield 14, 3) := by decide +kernel
theorem dX5_init_18 : decode cX5_init 18 = .ok (.aload_n 0, 1) := by decide +kernel
theorem dX5_init_19 : decode cX5_init 19 = .ok (.iconst 4, 1) := by decide +kernel
theorem dX5_init_20 : decode cX5_init 20 = .ok (.newarray .int, 2) := by decide +kernel
theorem dX5_init_22 : decode cX5_init 22 = .ok (.putfield 20, 3) := by decide +kernel
theorem dX5_init_25 : decode cX5_init 25 = .ok (.aload_n 0, 1) := by decide +kernel
theorem dX5_init_26 : decode cX5_init 26 = .ok (.sipush 256, 3) := by decide +kernel
theorem dX5_init_29 : decode cX5_init 29 = .ok (.putfield 24, 3) := by decide +kernel
theorem dX5_init_32 : decode cX5_init 32 = .ok (.aload_n 0, 1) := by decide +kernel
theorem dX5_init_33 : decode cX5_init 33 = .ok (.iconst 0, 1) := by decide +kernel
theorem dX5_init_34 : decode cX5_init 34 = .ok (.putfield 28, 3) := by decide +kernel
theorem dX5_init_37 : decode cX5_init 37 = .ok (.aload_n 0, 1) := by decide +kernel
theorem dX5_init_38 : decode cX5_init 38 = .ok (.iconst 0, 1) := by decide +kernel
theorem dX5_init_39 : decode cX5_init 39 = .ok (.putfield 31, 3) := by decide +kernel
theorem dX5_init_42 : decode cX5_init 42 = .ok (.aload_n 0, 1) := by decide +kernel
theorem dX5_init_43 : decode cX5_init 43 = .ok (.iconst 0, 1) := by decide +kernel
theorem dX5_init_44 : decode cX5_init 44 = .ok (.putfield 34, 3) := by decide +kernel
theorem dX5_init_47 : decode cX5_init 47 = .ok (.aload_n 0, 1) := by decide +kernel
theorem dX5_init_48 : decode cX5_init 48 = .ok (.lconst 0, 1) := by decide +kernel
theorem dX5_init_49 : decode cX5_init 49 = .ok (.putfield 37, 3) := by decide +kernel
theorem dX5_init_52 : decode cX5_init 52 = .ok (.aload_n 0, 1) := by decide +kernel
theorem dX5_init_53 : decode cX5_init 53 = .ok (.lconst 0, 1) := by decide +kernel
theorem dX5_init_54 : decode cX5_init 54 = .ok (.putfield 41, 3) := by decide +kernel
theorem dX5_init_57 : decode cX5_init 57 = .ok (.aload_n 0, 1) := by decide +kernel
theorem dX5_init_58 : decode cX5_init 58 = .ok (.lconst 0, 1) := by decide +kernel
theorem dX5_init_59 : decode cX5_init 59 = .ok (.putfield 44, 3) := by decide +kernel
theorem dX5_init_62 : decode cX5_init 62 = .ok (.aload_n 0, 1) := by decide +kernel
theorem dX5_init_63 : decode cX5_init 63 = .ok (.new 47, 3) := by decide +kernel
theorem dX5_init_66 : decode cX5_init 66 = .ok (.dup, 1) := by decide +kernel
theorem dX5_init_67 : decode cX5_init 67 = .ok (.aload_n 1, 1) := by decide +kernel
theorem dX5_init_68 : decode cX5_init 68 = .ok (.iload_n 2, 1) := by decide +kernel
theorem dX5_init_69 : decode cX5_init 69 = .ok (.ldc 49, 2) := by decide +kernel
theorem dX5_init_71 : decode cX5_init 71 = .ok (.invokespecial 50, 3) := by decide +kernel
theorem dX5_init_74 : decode cX5_init 74 = .ok (.putfield 53, 3) := by decide +kernel
theorem dX5_init_77 : decode cX5_init 77 = .ok (.return_, 1) := by decide +kernel
theorem dX5_isEnding_0 : decode cX5_isEnding 0 = .ok (.aload_n 0, 1) := by decide +kernel
theorem dX5_isEnding_1 : decode cX5_isEnding 1 = .ok (.getfield 57, 3) := by decide +kernel
theorem dX5_isEnding_4 : decode cX5_isEnding 4 = .ok (.iconst 3, 1) := by decide +kernel
theorem dX5_isEnding_5 : decode cX5_isEnding 5 = .ok (.if_icmp .eq 11, 3) := by decide +kernel
theorem dX5_isEnding_8 : decode cX5_isEnding 8 = .ok (.aload_n 0, 1) := by decide +kernel
theorem dX5_isEnding_9 : decode cX5_isEnding 9 = .ok (.getfield 57, 3) := by decide +kernel
theorem dX5_isEnding_12 : decode cX5_isEnding 12 = .ok (.iconst 4, 1) := by decide +kernel
theorem dX5_isEnding_13 : decode cX5_isEnding 13 = .ok (.if_icmp .ne 7, 3) := by decide +kernel
theorem dX5_isEnding_16 : decode cX5_isEnding 16 = .ok (.iconst 1, 1) := by decide +kernel
theorem dX5_isEnding_17 : decode cX5_isEnding 17 = .ok (.goto 4, 3) := by decide +kernel
theorem dX5_isEnding_20 : decode cX5_isEnding 20 = .ok (.iconst 0, 1) := by decide +kernel
theorem dX5_isEnding_21 : decode cX5_isEnding 21 = .ok (.ireturn, 1) := by decide +kernel
theorem dX5_numbersNow_0 : decode cX5_numbersNow 0 = .ok (.aload_n 0, 1) := by decide +kernel
theorem dX5_numbersNow_1 : decode cX5_numbersNow 1 = .ok (.invokevirtual 60, 3) := by decide +kernel
theorem dX5_numbersNow_4 : decode cX5_numbersNow 4 = .ok (.ifCond .eq 7, 3) := by decide +kernel
theorem dX5_numbersNow_7 : decode cX5_numbersNow 7 = .ok (.iconst 0, 1) := by decide +kernel
theorem dX5_numbersNow_8 : decode cX5_numbersNow 8 = .ok (.goto 11, 3) := by decide +kernel
theorem dX5_numbersNow_11 : decode cX5_numbersNow 11 = .ok (.aload_n 0, 1) := by decide +kernel
theorem dX5_numbersNow_12 : decode cX5_numbersNow 12 = .ok (.aload_n 0, 1) := by decide +kernel
theorem dX5_numbersNow_13 : decode cX5_numbersNow 13 = .ok (.invokevirtual 64, 3) := by decide +kernel
theorem dX5_numbersNow_16 : decode cX5_numbersNow 16 = .ok (.invokevirtual 68, 3) := by decide +kernel
theorem dX5_numbersNow_19 : decode cX5_numbersNow 19 = .ok (.ireturn, 1) := by decide +kernel
theorem dX5_place_0 : decode cX5_place 0 = .ok (.aload_n 0, 1) := by decide +kernel
theorem dX5_place_1 : decode cX5_place 1 = .ok (.getfield 53, 3) := by decide +kernel
theorem dX5_place_4 : decode cX5_place 4 = .ok (.aload_n 0, 1) := by decide +kernel
theorem dX5_place_5 : decode cX5_place 5 = .ok (.getfield 41, 3) := by decide +kernel
theorem dX5_place_8 : decode cX5_place 8 = .ok (.invokevirtual 72, 3) := by decide +kernel
theorem dX5_place_11 : decode cX5_place 11 = .ok (.lreturn, 1) := by decide +kernel
theorem dX5_accept_0 : decode cX5_accept 0 = .ok (.aload_n 0, 1) := by decide +kernel
theorem dX5_accept_1 : decode cX5_accept 1 = .ok (.invokevirtual 64, 3) := by decide +kernel
theorem dX5_accept_4 : decode cX5_accept 4 = .ok (.lconst 1, 1) := by decide +kernel
theorem dX5_accept_5 : decode cX5_accept 5 = .ok (.lcmp, 1) := by decide +kernel
theorem dX5_accept_6 : decode cX5_accept 6 = .ok (.ifCond .ge 5, 3) := by decide +kernel
theorem dX5_accept_9 : decode cX5_accept 9 = .ok (.iconst 0, 1) := by decide +kernel
theorem dX5_accept_10 : decode cX5_accept 10 = .ok (.ireturn, 1) := by decide +kernel
theorem dX5_accept_11 : decode cX5_accept 11 = .ok (.aload_n 0, 1) := by decide +kernel
theorem dX5_accept_12 : decode cX5_accept 12 = .ok (.iload_n 1, 1) := by decide +kernel
theorem dX5_accept_13 : decode cX5_accept 13 = .ok (.invokevirtual 76, 3) := by decide +kernel
theorem dX5_accept_16 : decode cX5_accept 16 = .ok (.istore_n 2, 1) := by decide +kernel
theorem dX5_accept_17 : decode cX5_accept 17 = .ok (.aload_n 0, 1) := by decide +kernel
theorem dX5_accept_18 : decode cX5_accept 18 = .ok (.getfield 80, 3) := by decide +kernel
theorem dX5_accept_21 : decode cX5_accept 21 = .ok (.iconst 1, 1) := by decide +kernel
theorem dX5_accept_22 : decode cX5_accept 22 = .ok (.if_icmp .ne 15, 3) := by decide +kernel
theorem dX5_accept_25 : decode cX5_accept 25 = .ok (.aload_n 0, 1) := by decide +kernel
theorem dX5_accept_26 : decode cX5_accept 26 = .ok (.getfield 14, 3) := by decide +kernel
theorem dX5_accept_29 : decode cX5_accept 29 = .ok (.iload_n 2, 1) := by decide +kernel
theorem dX5_accept_30 : decode cX5_accept 30 = .ok (.iload_n 2, 1) := by decide +kernel
theorem dX5_accept_31 : decode cX5_accept 31 = .ok (.invokevirtual 83, 3) := by decide +kernel
theorem dX5_accept_34 : decode cX5_accept 34 = .ok (.goto 40, 3) := by decide +kernel
theorem dX5_accept_37 : decode cX5_accept 37 = .ok (.aload_n 0, 1) := by decide +kernel
theorem dX5_accept_38 : decode cX5_accept 38 = .ok (.getfield 86, 3) := by decide +kernel
theorem dX5_accept_41 : decode cX5_accept 41 = .ok (.ifCond .eq 23, 3) := by decide +kernel
theorem dX5_accept_44 : decode cX5_accept 44 = .ok (.aload_n 0, 1) := by decide +kernel
theorem dX5_accept_45 : decode cX5_accept 45 = .ok (.getfield 14, 3) := by decide +kernel
theorem dX5_accept_48 : decode cX5_accept 48 = .ok (.aload_n 0, 1) := by decide +kernel
theorem dX5_accept_49 : decode cX5_accept 49 = .ok (.getfield 28, 3) := by decide +kernel
theorem dX5_accept_52 : decode cX5_accept 52 = .ok (.iload_n 2, 1) := by decide +kernel
theorem dX5_accept_53 : decode cX5_accept 53 = .ok (.invokevirtual 83, 3) := by decide +kernel
theorem dX5_accept_56 : decode cX5_accept 56 = .ok (.aload_n 0, 1) := by decide +kernel
theorem dX5_accept_57 : decode cX5_accept 57 = .ok (.iconst 0, 1) := by decide +kernel
theorem dX5_accept_58 : decode cX5_accept 58 = .ok (.putfield 86, 3) := by decide +kernel
theorem dX5_accept_61 : decode cX5_accept 61 = .ok (.goto 13, 3) := by decide +kernel
theorem dX5_accept_64 : decode cX5_accept 64 = .ok (.aload_n 0, 1) := by decide +kernel
theorem dX5_accept_65 : decode cX5_accept 65 = .ok (.iload_n 2, 1) := by decide +kernel
theorem dX5_accept_66 : decode cX5_accept 66 = .ok (.putfield 28, 3) := by decide +kernel
theorem dX5_accept_69 : decode cX5_accept 69 = .ok (.aload_n 0, 1) := by decide +kernel
theorem dX5_accept_70 : decode cX5_accept 70 = .ok (.iconst 1, 1) := by decide +kernel
theorem dX5_accept_71 : decode cX5_accept 71 = .ok (.putfield 86, 3) := by decide +kernel
theorem dX5_accept_74 : decode cX5_accept 74 = .ok (.iconst 1, 1) := by decide +kernel
theorem dX5_accept_75 : decode cX5_accept 75 = .ok (.ireturn, 1) := by decide +kernel
theorem dX5_periodsWritten_0 : decode cX5_periodsWritten 0 = .ok (.iconst 0, 1) := by decide +kernel
theorem dX5_periodsWritten_1 : decode cX5_periodsWritten 1 = .ok (.istore_n 1, 1) := by decide +kernel
theorem dX5_periodsWritten_2 : decode cX5_periodsWritten 2 = .ok (.iload_n 1, 1) := by decide +kernel
theorem dX5_periodsWritten_3 : decode cX5_periodsWritten 3 = .ok (.sipush 200, 3) := by decide +kernel
theorem dX5_periodsWritten_6 : decode cX5_periodsWritten 6 = .ok (.if_icmp .ge 19, 3) := by decide +kernel
theorem dX5_periodsWritten_9 : decode cX5_periodsWritten 9 = .ok (.aload_n 0, 1) := by decide +kernel
theorem dX5_periodsWritten_10 : decode cX5_periodsWritten 10 = .ok (.iload_n 1, 1) := by decide +kernel
theorem dX5_periodsWritten_11 : decode cX5_periodsWritten 11 = .ok (.iconst 1, 1) := by decide +kernel
theorem dX5_periodsWritten_12 : decode cX5_periodsWritten 12 = .ok (.iadd, 1) := by decide +kernel
theorem dX5_periodsWritten_13 : decode cX5_periodsWritten 13 = .ok (.invokevirtual 90, 3) := by decide +kernel
theorem dX5_periodsWritten_16 : decode cX5_periodsWritten 16 = .ok (.ifCond .eq 9, 3) := by decide +kernel
theorem dX5_periodsWritten_19 : decode cX5_periodsWritten 19 = .ok (.iinc 1 1, 3) := by decide +kernel
theorem dX5_periodsWritten_22 : decode cX5_periodsWritten 22 = .ok (.goto (-20), 3) := by decide +kernel
theorem dX5_periodsWritten_25 : decode cX5_periodsWritten 25 = .ok (.iload_n 1, 1) := by decide +kernel
theorem dX5_periodsWritten_26 : decode cX5_periodsWritten 26 = .ok (.ireturn, 1) := by decide +kernel
theorem dX5_give_0 : decode cX5_give 0 = .ok (.aload_n 0, 1) := by decide +kernel
theorem dX5_give_1 : decode cX5_give 1 = .ok (.getfield 57, 3) := by decide +kernel
theorem dX5_give_4 : decode cX5_give 4 = .ok (.iconst 3, 1) := by decide +kernel
theorem dX5_give_5 : decode cX5_give 5 = .ok (.if_icmp .eq 19, 3) := by decide +kernel
theorem dX5_give_8 : decode cX5_give 8 = .ok (.aload_n 0, 1) := by decide +kernel
theorem dX5_give_9 : decode cX5_give 9 = .ok (.getfield 57, 3) := by decide +kernel
theorem dX5_give_12 : decode cX5_give 12 = .ok (.iconst 1, 1) := by decide +kernel
theorem dX5_give_13 : decode cX5_give 13 = .ok (.if_icmp .ne 15, 3) := by decide +kernel
theorem dX5_give_16 : decode cX5_give 16 = .ok (.aload_n 0, 1) := by decide +kernel
theorem dX5_give_17 : decode cX5_give 17 = .ok (.iconst 1, 1) := by decide +kernel
theorem dX5_give_18 : decode cX5_give 18 = .ok (.invokevirtual 90, 3) := by decide +kernel
theorem dX5_give_21 : decode cX5_give 21 = .ok (.ifCond .eq 7, 3) := by decide +kernel
theorem dX5_give_24 : decode cX5_give 24 = .ok (.iconst 1, 1) := by decide +kernel
theorem dX5_give_25 : decode cX5_give 25 = .ok (.goto 4, 3) := by decide +kernel
theorem dX5_give_28 : decode cX5_give 28 = .ok (.iconst 0, 1) := by decide +kernel
theorem dX5_give_29 : decode cX5_give 29 = .ok (.istore_n 3, 1) := by decide +kernel
theorem dX5_give_30 : decode cX5_give 30 = .ok (.iload_n 3, 1) := by decide +kernel
theorem dX5_give_31 : decode cX5_give 31 = .ok (.ifCond .eq 11, 3) := by decide +kernel
theorem dX5_give_34 : decode cX5_give 34 = .ok (.aload_n 0, 1) := by decide +kernel
theorem dX5_give_35 : decode cX5_give 35 = .ok (.aload_n 1, 1) := by decide +kernel
theorem dX5_give_36 : decode cX5_give 36 = .ok (.invokevirtual 94, 3) := by decide +kernel
theorem dX5_give_39 : decode cX5_give 39 = .ok (.goto 24, 3) := by decide +kernel
theorem dX5_give_42 : decode cX5_give 42 = .ok (.aload_n 0, 1) := by decide +kernel
theorem dX5_give_43 : decode cX5_give 43 = .ok (.getfield 57, 3) := by decide +kernel
theorem dX5_give_46 : decode cX5_give 46 = .ok (.iconst 1, 1) := by decide +kernel
theorem dX5_give_47 : decode cX5_give 47 = .ok (.if_icmp .ne 11, 3) := by decide +kernel
theorem dX5_give_50 : decode cX5_give 50 = .ok (.aload_n 0, 1) := by decide +kernel
theorem dX5_give_51 : decode cX5_give 51 = .ok (.aload_n 1, 1) := by decide +kernel
theorem dX5_give_52 : decode cX5_give 52 = .ok (.invokevirtual 98, 3) := by decide +kernel
theorem dX5_give_55 : decode cX5_give 55 = .ok (.goto 8, 3) := by decide +kernel
theorem dX5_give_58 : decode cX5_give 58 = .ok (.aload_n 1, 1) := by decide +kernel
theorem dX5_give_59 : decode cX5_give 59 = .ok (.iconst 0, 1) := by decide +kernel
theorem dX5_give_60 : decode cX5_give 60 = .ok (.invokestatic 101, 3) := by decide +kernel
theorem dX5_give_63 : decode cX5_give 63 = .ok (.aload_n 0, 1) := by decide +kernel
theorem dX5_give_64 : decode cX5_give 64 = .ok (.getfield 20, 3) := by decide +kernel
theorem dX5_give_67 : decode cX5_give 67 = .ok (.iload_n 2, 1) := by decide +kernel
theorem dX5_give_68 : decode cX5_give 68 = .ok (.iload_n 3, 1) := by decide +kernel
theorem dX5_give_69 : decode cX5_give 69 = .ok (.ifCond .eq 8, 3) := by decide +kernel
theorem dX5_give_72 : decode cX5_give 72 = .ok (.bipush 24, 2) := by decide +kernel
theorem dX5_give_74 : decode cX5_give 74 = .ok (.goto 4, 3) := by decide +kernel
theorem dX5_give_77 : decode cX5_give 77 = .ok (.iconst 0, 1) := by decide +kernel
theorem dX5_give_78 : decode cX5_give 78 = .ok (.iastore, 1) := by decide +kernel
theorem dX5_give_79 : decode cX5_give 79 = .ok (.aload_n 0, 1) := by decide +kernel
theorem dX5_give_80 : decode cX5_give 80 = .ok (.getfield 57, 3) := by decide +kernel
theorem dX5_give_83 : decode cX5_give 83 = .ok (.iconst 3, 1) := by decide +kernel
theorem dX5_give_84 : decode cX5_give 84 = .ok (.if_icmp .ne 15, 3) := by decide +kernel
theorem dX5_give_87 : decode cX5_give 87 = .ok (.aload_n 0, 1) := by decide +kernel
theorem dX5_give_88 : decode cX5_give 88 = .ok (.invokevirtual 107, 3) := by decide +kernel
theorem dX5_give_91 : decode cX5_give 91 = .ok (.ifCond .eq 8, 3) := by decide +kernel
theorem dX5_give_94 : decode cX5_give 94 = .ok (.aload_n 0, 1) := by decide +kernel
theorem dX5_give_95 : decode cX5_give 95 = .ok (.iconst 4, 1) := by decide +kernel
theorem dX5_give_96 : decode cX5_give 96 = .ok (.putfield 57, 3) := by decide +kernel
theorem dX5_give_99 : decode cX5_give 99 = .ok (.aload_n 0, 1) := by decide +kernel
theorem dX5_give_100 : decode cX5_give 100 = .ok (.aload_n 1, 1) := by decide +kernel
theorem dX5_give_101 : decode cX5_give 101 = .ok (.invokestatic 110, 3) := by decide +kernel
theorem dX5_give_104 : decode cX5_give 104 = .ok (.putfield 44, 3) := by decide +kernel
theorem dX5_give_107 : decode cX5_give 107 = .ok (.return_, 1) := by decide +kernel
theorem dX5_addLoud_0 : decode cX5_addLoud 0 = .ok (.iconst 0, 1) := by decide +kernel
theorem dX5_addLoud_1 : decode cX5_addLoud 1 = .ok (.istore_n 3, 1) := by decide +kernel
theorem dX5_addLoud_2 : decode cX5_addLoud 2 = .ok (.iload_n 3, 1) := by decide +kernel
theorem dX5_addLoud_3 : decode cX5_addLoud 3 = .ok (.bipush 48, 2) := by decide +kernel
theorem dX5_addLoud_5 : decode cX5_addLoud 5 = .ok (.if_icmp .ge 29, 3) := by decide +kernel
theorem dX5_addLoud_8 : decode cX5_addLoud 8 = .ok (.aload_n 2, 1) := by decide +kernel
theorem dX5_addLoud_9 : decode cX5_addLoud 9 = .ok (.iload_n 3, 1) := by decide +kernel
theorem dX5_addLoud_10 : decode cX5_addLoud 10 = .ok (.dup2, 1) := by decide +kernel
theorem dX5_addLoud_11 : decode cX5_addLoud 11 = .ok (.iaload, 1) := by decide +kernel
theorem dX5_addLoud_12 : decode cX5_addLoud 12 = .ok (.aload_n 1, 1) := by decide +kernel
theorem dX5_addLoud_13 : decode cX5_addLoud 13 = .ok (.iload_n 3, 1) := by decide +kernel
theorem dX5_addLoud_14 : decode cX5_addLoud 14 = .ok (.iaload, 1) := by decide +kernel
theorem dX5_addLoud_15 : decode cX5_addLoud 15 = .ok (.aload_n 0, 1) := by decide +kernel
theorem dX5_addLoud_16 : decode cX5_addLoud 16 = .ok (.getfield 24, 3) := by decide +kernel
theorem dX5_addLoud_19 : decode cX5_addLoud 19 = .ok (.imul, 1) := by decide +kernel
theorem dX5_addLoud_20 : decode cX5_addLoud 20 = .ok (.sipush 256, 3) := by decide +kernel
theorem dX5_addLoud_23 : decode cX5_addLoud 23 = .ok (.invokestatic 114, 3) := by decide +kernel
theorem dX5_addLoud_26 : decode cX5_addLoud 26 = .ok (.iadd, 1) := by decide +kernel
theorem dX5_addLoud_27 : decode cX5_addLoud 27 = .ok (.iastore, 1) := by decide +kernel
theorem dX5_addLoud_28 : decode cX5_addLoud 28 = .ok (.iinc 3 1, 3) := by decide +kernel
theorem dX5_addLoud_31 : decode cX5_addLoud 31 = .ok (.goto (-29), 3) := by decide +kernel
theorem dX5_addLoud_34 : decode cX5_addLoud 34 = .ok (.return_, 1) := by decide +kernel
theorem dX5_markHeard_0 : decode cX5_markHeard 0 = .ok (.aload_n 0, 1) := by decide +kernel
theorem dX5_markHeard_1 : decode cX5_markHeard 1 = .ok (.dup, 1) := by decide +kernel
theorem dX5_markHeard_2 : decode cX5_markHeard 2 = .ok (.getfield 41, 3) := by decide +kernel
theorem dX5_markHeard_5 : decode cX5_markHeard 5 = .ok (.aload_n 0, 1) := by decide +kernel
theorem dX5_markHeard_6 : decode cX5_markHeard 6 = .ok (.getfield 20, 3) := by decide +kernel
theorem dX5_markHeard_9 : decode cX5_markHeard 9 = .ok (.iload_n 1, 1) := by decide +kernel
theorem dX5_markHeard_10 : decode cX5_markHeard 10 = .ok (.iaload, 1) := by decide +kernel
theorem dX5_markHeard_11 : decode cX5_markHeard 11 = .ok (.i2l, 1) := by decide +kernel
theorem dX5_markHeard_12 : decode cX5_markHeard 12 = .ok (.ladd, 1) := by decide +kernel
theorem dX5_markHeard_13 : decode cX5_markHeard 13 = .ok (.putfield 41, 3) := by decide +kernel
theorem dX5_markHeard_16 : decode cX5_markHeard 16 = .ok (.return_, 1) := by decide +kernel
theorem dX5_freeFrames_0 : decode cX5_freeFrames 0 = .ok (.ldc2_w 120, 3) := by decide +kernel
theorem dX5_freeFrames_3 : decode cX5_freeFrames 3 = .ok (.aload_n 0, 1) := by decide +kernel
theorem dX5_freeFrames_4 : decode cX5_freeFrames 4 = .ok (.getfield 14, 3) := by decide +kernel
theorem dX5_freeFrames_7 : decode cX5_freeFrames 7 = .ok (.getfield 122, 3) := by decide +kernel
theorem dX5_freeFrames_10 : decode cX5_freeFrames 10 = .ok (.aload_n 0, 1) := by decide +kernel
theorem dX5_freeFrames_11 : decode cX5_freeFrames 11 = .ok (.getfield 53, 3) := by decide +kernel
theorem dX5_freeFrames_14 : decode cX5_freeFrames 14 = .ok (.aload_n 0, 1) := by decide +kernel
theorem dX5_freeFrames_15 : decode cX5_freeFrames 15 = .ok (.getfield 37, 3) := by decide +kernel
theorem dX5_freeFrames_18 : decode cX5_freeFrames 18 = .ok (.invokevirtual 72, 3) := by decide +kernel
theorem dX5_freeFrames_21 : decode cX5_freeFrames 21 = .ok (.lsub, 1) := by decide +kernel
theorem dX5_freeFrames_22 : decode cX5_freeFrames 22 = .ok (.lsub, 1) := by decide +kernel
theorem dX5_freeFrames_23 : decode cX5_freeFrames 23 = .ok (.lreturn, 1) := by decide +kernel
theorem dX5_isWrittenFor_0 : decode cX5_isWrittenFor 0 = .ok (.aload_n 0, 1) := by decide +kernel
theorem dX5_isWrittenFor_1 : decode cX5_isWrittenFor 1 = .ok (.getfield 53, 3) := by decide +kernel
theorem dX5_isWrittenFor_4 : decode cX5_isWrittenFor 4 = .ok (.aload_n 0, 1) := by decide +kernel
theorem dX5_isWrittenFor_5 : decode cX5_isWrittenFor 5 = .ok (.getfield 37, 3) := by decide +kernel
theorem dX5_isWrittenFor_8 : decode cX5_isWrittenFor 8 = .ok (.ldc2_w 125, 3) := by decide +kernel
theorem dX5_isWrittenFor_11 : decode cX5_isWrittenFor 11 = .ok (.iload_n 1, 1) := by decide +kernel
theorem dX5_isWrittenFor_12 : decode cX5_isWrittenFor 12 = .ok (.i2l, 1) := by decide +kernel
theorem dX5_isWrittenFor_13 : decode cX5_isWrittenFor 13 = .ok (.lmul, 1) := by decide +kernel
theorem dX5_isWrittenFor_14 : decode cX5_isWrittenFor 14 = .ok (.ladd, 1) := by decide +kernel
theorem dX5_isWrittenFor_15 : decode cX5_isWrittenFor 15 = .ok (.lconst 1, 1) := by decide +kernel
theorem dX5_isWrittenFor_16 : decode cX5_isWrittenFor 16 = .ok (.lsub, 1) := by decide +kernel
theorem dX5_isWrittenFor_17 : decode cX5_isWrittenFor 17 = .ok (.invokevirtual 127, 3) := by decide +kernel
theorem dX5_isWrittenFor_20 : decode cX5_isWrittenFor 20 = .ok (.aload_n 0, 1) := by decide +kernel
theorem dX5_isWrittenFor_21 : decode cX5_isWrittenFor 21 = .ok (.getfield 14, 3) := by decide +kernel
theorem dX5_isWrittenFor_24 : decode cX5_isWrittenFor 24 = .ok (.getfield 122, 3) := by decide +kernel
theorem dX5_isWrittenFor_27 : decode cX5_isWrittenFor 27 = .ok (.lcmp, 1) := by decide +kernel
theorem dX5_isWrittenFor_28 : decode cX5_isWrittenFor 28 = .ok (.ifCond .ge 7, 3) := by decide +kernel
theorem dX5_isWrittenFor_31 : decode cX5_isWrittenFor 31 = .ok (.iconst 1, 1) := by decide +kernel
theorem dX5_isWrittenFor_32 : decode cX5_isWrittenFor 32 = .ok (.goto 4, 3) := by decide +kernel
theorem dX5_isWrittenFor_35 : decode cX5_isWrittenFor 35 = .ok (.iconst 0, 1) := by decide +kernel
theorem dX5_isWrittenFor_36 : decode cX5_isWrittenFor 36 = .ok (.ireturn, 1) := by decide +kernel
theorem dX5_isPastAllWritten_0 : decode cX5_isPastAllWritten 0 = .ok (.aload_n 0, 1) := by decide +kernel
theorem dX5_isPastAllWritten_1 : decode cX5_isPastAllWritten 1 = .ok (.getfield 53, 3) := by decide +kernel
theorem dX5_isPastAllWritten_4 : decode cX5_isPastAllWritten 4 = .ok (.invokevirtual 130, 3) := by decide +kernel
theorem dX5_isPastAllWritten_7 : decode cX5_isPastAllWritten 7 = .ok (.ifCond .eq 7, 3) := by decide +kernel
theorem dX5_isPastAllWritten_10 : decode cX5_isPastAllWritten 10 = .ok (.lconst 0, 1) := by decide +kernel
theorem dX5_isPastAllWritten_11 : decode cX5_isPastAllWritten 11 = .ok (.goto 6, 3) := by decide +kernel
theorem dX5_isPastAllWritten_14 : decode cX5_isPastAllWritten 14 = .ok (.ldc2_w 135, 3) := by decide +kernel
theorem dX5_isPastAllWritten_17 : decode cX5_isPastAllWritten 17 = .ok (.lstore_n 1, 1) := by decide +kernel
theorem dX5_isPastAllWritten_18 : decode cX5_isPastAllWritten 18 = .ok (.aload_n 0, 1) := by decide +kernel
theorem dX5_isPastAllWritten_19 : decode cX5_isPastAllWritten 19 = .ok (.getfield 53, 3) := by decide +kernel
theorem dX5_isPastAllWritten_22 : decode cX5_isPastAllWritten 22 = .ok (.aload_n 0, 1) := by decide +kernel
theorem dX5_isPastAllWritten_23 : decode cX5_isPastAllWritten 23 = .ok (.getfield 37, 3) := by decide +kernel
theorem dX5_isPastAllWritten_26 : decode cX5_isPastAllWritten 26 = .ok (.invokevirtual 72, 3) := by decide +kernel
theorem dX5_isPastAllWritten_29 : decode cX5_isPastAllWritten 29 = .ok (.lload_n 1, 1) := by decide +kernel
theorem dX5_isPastAllWritten_30 : decode cX5_isPastAllWritten 30 = .ok (.lsub, 1) := by decide +kernel
theorem dX5_isPastAllWritten_31 : decode cX5_isPastAllWritten 31 = .ok (.aload_n 0, 1) := by decide +kernel
theorem dX5_isPastAllWritten_32 : decode cX5_isPastAllWritten 32 = .ok (.getfield 14, 3) := by decide +kernel
theorem dX5_isPastAllWritten_35 : decode cX5_isPastAllWritten 35 = .ok (.getfield 122, 3) := by decide +kernel
theorem dX5_isPastAllWritten_38 : decode cX5_isPastAllWritten 38 = .ok (.lcmp, 1) := by decide +kernel
theorem dX5_isPastAllWritten_39 : decode cX5_isPastAllWritten 39 = .ok (.ifCond .lt 7, 3) := by decide +kernel
theorem dX5_isPastAllWritten_42 : decode cX5_isPastAllWritten 42 = .ok (.iconst 1, 1) := by decide +kernel
theorem dX5_isPastAllWritten_43 : decode cX5_isPastAllWritten 43 = .ok (.goto 4, 3) := by decide +kernel
theorem dX5_isPastAllWritten_46 : decode cX5_isPastAllWritten 46 = .ok (.iconst 0, 1) := by decide +kernel
theorem dX5_isPastAllWritten_47 : decode cX5_isPastAllWritten 47 = .ok (.ireturn, 1) := by decide +kernel
theorem dX5_giveOutputs_0 : decode cX5_giveOutputs 0 = .ok (.iconst 0, 1) := by decide +kernel
theorem dX5_giveOutputs_1 : decode cX5_giveOutputs 1 = .ok (.istore_n 2, 1) := by decide +kernel
theorem dX5_giveOutputs_2 : decode cX5_giveOutputs 2 = .ok (.iload_n 2, 1) := by decide +kernel
theorem dX5_giveOutputs_3 : decode cX5_giveOutputs 3 = .ok (.bipush 24, 2) := by decide +kernel
theorem dX5_giveOutputs_5 : decode cX5_giveOutputs 5 = .ok (.if_icmp .ge 79, 3) := by decide +kernel
theorem dX5_giveOutputs_8 : decode cX5_giveOutputs 8 = .ok (.aload_n 0, 1) := by decide +kernel
theorem dX5_giveOutputs_9 : decode cX5_giveOutputs 9 = .ok (.aload_n 0, 1) := by decide +kernel
theorem dX5_giveOutputs_10 : decode cX5_giveOutputs 10 = .ok (.getfield 53, 3) := by decide +kernel
theorem dX5_giveOutputs_13 : decode cX5_giveOutputs 13 = .ok (.aload_n 0, 1) := by decide +kernel
theorem dX5_giveOutputs_14 : decode cX5_giveOutputs 14 = .ok (.getfield 14, 3) := by decide +kernel
theorem dX5_giveOutputs_17 : decode cX5_giveOutputs 17 = .ok (.aload_n 0, 1) := by decide +kernel
theorem dX5_giveOutputs_18 : decode cX5_giveOutputs 18 = .ok (.getfield 37, 3) := by decide +kernel
theorem dX5_giveOutputs_21 : decode cX5_giveOutputs 21 = .ok (.iconst 0, 1) := by decide +kernel
theorem dX5_giveOutputs_22 : decode cX5_giveOutputs 22 = .ok (.invokevirtual 137, 3) := by decide +kernel
theorem dX5_giveOutputs_25 : decode cX5_giveOutputs 25 = .ok (.putfield 31, 3) := by decide +kernel
theorem dX5_giveOutputs_28 : decode cX5_giveOutputs 28 = .ok (.aload_n 0, 1) := by decide +kernel
theorem dX5_giveOutputs_29 : decode cX5_giveOutputs 29 = .ok (.aload_n 0, 1) := by decide +kernel
theorem dX5_giveOutputs_30 : decode cX5_giveOutputs 30 = .ok (.getfield 53, 3) := by decide +kernel
theorem dX5_giveOutputs_33 : decode cX5_giveOutputs 33 = .ok (.aload_n 0, 1) := by decide +kernel
theorem dX5_giveOutputs_34 : decode cX5_giveOutputs 34 = .ok (.getfield 14, 3) := by decide +kernel
theorem dX5_giveOutputs_37 : decode cX5_giveOutputs 37 = .ok (.aload_n 0, 1) := by decide +kernel
theorem dX5_giveOutputs_38 : decode cX5_giveOutputs 38 = .ok (.getfield 37, 3) := by decide +kernel
theorem dX5_giveOutputs_41 : decode cX5_giveOutputs 41 = .ok (.iconst 1, 1) := by decide +kernel
theorem dX5_giveOutputs_42 : decode cX5_giveOutputs 42 = .ok (.invokevirtual 137, 3) := by decide +kernel
theorem dX5_giveOutputs_45 : decode cX5_giveOutputs 45 = .ok (.putfield 34, 3) := by decide +kernel
theorem dX5_giveOutputs_48 : decode cX5_giveOutputs 48 = .ok (.aload_n 1, 1) := by decide +kernel
theorem dX5_giveOutputs_49 : decode cX5_giveOutputs 49 = .ok (.iconst 2, 1) := by decide +kernel
theorem dX5_giveOutputs_50 : decode cX5_giveOutputs 50 = .ok (.iload_n 2, 1) := by decide +kernel
theorem dX5_giveOutputs_51 : decode cX5_giveOutputs 51 = .ok (.imul, 1) := by decide +kernel
theorem dX5_giveOutputs_52 : decode cX5_giveOutputs 52 = .ok (.aload_n 0, 1) := by decide +kernel
theorem dX5_giveOutputs_53 : decode cX5_giveOutputs 53 = .ok (.getfield 31, 3) := by decide +kernel
theorem dX5_giveOutputs_56 : decode cX5_giveOutputs 56 = .ok (.iastore, 1) := by decide +kernel
theorem dX5_giveOutputs_57 : decode cX5_giveOutputs 57 = .ok (.aload_n 1, 1) := by decide +kernel
theorem dX5_giveOutputs_58 : decode cX5_giveOutputs 58 = .ok (.iconst 2, 1) := by decide +kernel
theorem dX5_giveOutputs_59 : decode cX5_giveOutputs 59 = .ok (.iload_n 2, 1) := by decide +kernel
theorem dX5_giveOutputs_60 : decode cX5_giveOutputs 60 = .ok (.imul, 1) := by decide +kernel
theorem dX5_giveOutputs_61 : decode cX5_giveOutputs 61 = .ok (.iconst 1, 1) := by decide +kernel
theorem dX5_giveOutputs_62 : decode cX5_giveOutputs 62 = .ok (.iadd, 1) := by decide +kernel
theorem dX5_giveOutputs_63 : decode cX5_giveOutputs 63 = .ok (.aload_n 0, 1) := by decide +kernel
theorem dX5_giveOutputs_64 : decode cX5_giveOutputs 64 = .ok (.getfield 34, 3) := by decide +kernel
theorem dX5_giveOutputs_67 : decode cX5_giveOutputs 67 = .ok (.iastore, 1) := by decide +kernel
theorem dX5_giveOutputs_68 : decode cX5_giveOutputs 68 = .ok (.aload_n 0, 1) := by decide +kernel
theorem dX5_giveOutputs_69 : decode cX5_giveOutputs 69 = .ok (.dup, 1) := by decide +kernel
theorem dX5_giveOutputs_70 : decode cX5_giveOutputs 70 = .ok (.getfield 37, 3) := by decide +kernel
theorem dX5_giveOutputs_73 : decode cX5_giveOutputs 73 = .ok (.lconst 1, 1) := by decide +kernel
theorem dX5_giveOutputs_74 : decode cX5_giveOutputs 74 = .ok (.ladd, 1) := by decide +kernel
theorem dX5_giveOutputs_75 : decode cX5_giveOutputs 75 = .ok (.putfield 37, 3) := by decide +kernel
theorem dX5_giveOutputs_78 : decode cX5_giveOutputs 78 = .ok (.iinc 2 1, 3) := by decide +kernel
theorem dX5_giveOutputs_81 : decode cX5_giveOutputs 81 = .ok (.goto (-79), 3) := by decide +kernel
theorem dX5_giveOutputs_84 : decode cX5_giveOutputs 84 = .ok (.return_, 1) := by decide +kernel
theorem dX5_giveFade_0 : decode cX5_giveFade 0 = .ok (.iconst 0, 1) := by decide +kernel
theorem dX5_giveFade_1 : decode cX5_giveFade 1 = .ok (.istore_n 2, 1) := by decide +kernel
theorem dX5_giveFade_2 : decode cX5_giveFade 2 = .ok (.iload_n 2, 1) := by decide +kernel
theorem dX5_giveFade_3 : decode cX5_giveFade 3 = .ok (.bipush 24, 2) := by decide +kernel
theorem dX5_giveFade_5 : decode cX5_giveFade 5 = .ok (.if_icmp .ge 52, 3) := by decide +kernel
theorem dX5_giveFade_8 : decode cX5_giveFade 8 = .ok (.iconst 0, 1) := by decide +kernel
theorem dX5_giveFade_9 : decode cX5_giveFade 9 = .ok (.bipush 15, 2) := by decide +kernel
theorem dX5_giveFade_11 : decode cX5_giveFade 11 = .ok (.iload_n 2, 1) := by decide +kernel
theorem dX5_giveFade_12 : decode cX5_giveFade 12 = .ok (.isub, 1) := by decide +kernel
theorem dX5_giveFade_13 : decode cX5_giveFade 13 = .ok (.invokestatic 141, 3) := by decide +kernel
theorem dX5_giveFade_16 : decode cX5_giveFade 16 = .ok (.istore_n 3, 1) := by decide +kernel
theorem dX5_giveFade_17 : decode cX5_giveFade 17 = .ok (.aload_n 1, 1) := by decide +kernel
theorem dX5_giveFade_18 : decode cX5_giveFade 18 = .ok (.iconst 2, 1) := by decide +kernel
theorem dX5_giveFade_19 : decode cX5_giveFade 19 = .ok (.iload_n 2, 1) := by decide +kernel
theorem dX5_giveFade_20 : decode cX5_giveFade 20 = .ok (.imul, 1) := by decide +kernel
theorem dX5_giveFade_21 : decode cX5_giveFade 21 = .ok (.aload_n 0, 1) := by decide +kernel
theorem dX5_giveFade_22 : decode cX5_giveFade 22 = .ok (.getfield 31, 3) := by decide +kernel
theorem dX5_giveFade_25 : decode cX5_giveFade 25 = .ok (.iload_n 3, 1) := by decide +kernel
theorem dX5_giveFade_26 : decode cX5_giveFade 26 = .ok (.imul, 1) := by decide +kernel
theorem dX5_giveFade_27 : decode cX5_giveFade 27 = .ok (.bipush 16, 2) := by decide +kernel
theorem dX5_giveFade_29 : decode cX5_giveFade 29 = .ok (.invokestatic 114, 3) := by decide +kernel
theorem dX5_giveFade_32 : decode cX5_giveFade 32 = .ok (.iastore, 1) := by decide +kernel
theorem dX5_giveFade_33 : decode cX5_giveFade 33 = .ok (.aload_n 1, 1) := by decide +kernel
theorem dX5_giveFade_34 : decode cX5_giveFade 34 = .ok (.iconst 2, 1) := by decide +kernel
theorem dX5_giveFade_35 : decode cX5_giveFade 35 = .ok (.iload_n 2, 1) := by decide +kernel
theorem dX5_giveFade_36 : decode cX5_giveFade 36 = .ok (.imul, 1) := by decide +kernel
theorem dX5_giveFade_37 : decode cX5_giveFade 37 = .ok (.iconst 1, 1) := by decide +kernel
theorem dX5_giveFade_38 : decode cX5_giveFade 38 = .ok (.iadd, 1) := by decide +kernel
theorem dX5_giveFade_39 : decode cX5_giveFade 39 = .ok (.aload_n 0, 1) := by decide +kernel
theorem dX5_giveFade_40 : decode cX5_giveFade 40 = .ok (.getfield 34, 3) := by decide +kernel
theorem dX5_giveFade_43 : decode cX5_giveFade 43 = .ok (.iload_n 3, 1) := by decide +kernel
theorem dX5_giveFade_44 : decode cX5_giveFade 44 = .ok (.imul, 1) := by decide +kernel
theorem dX5_giveFade_45 : decode cX5_giveFade 45 = .ok (.bipush 16, 2) := by decide +kernel
theorem dX5_giveFade_47 : decode cX5_giveFade 47 = .ok (.invokestatic 114, 3) := by decide +kernel
theorem dX5_giveFade_50 : decode cX5_giveFade 50 = .ok (.iastore, 1) := by decide +kernel
theorem dX5_giveFade_51 : decode cX5_giveFade 51 = .ok (.iinc 2 1, 3) := by decide +kernel
theorem dX5_giveFade_54 : decode cX5_giveFade 54 = .ok (.goto (-52), 3) := by decide +kernel
theorem dX5_giveFade_57 : decode cX5_giveFade 57 = .ok (.aload_n 0, 1) := by decide +kernel
theorem dX5_giveFade_58 : decode cX5_giveFade 58 = .ok (.iconst 0, 1) := by decide +kernel
theorem dX5_giveFade_59 : decode cX5_giveFade 59 = .ok (.putfield 31, 3) := by decide +kernel
theorem dX5_giveFade_62 : decode cX5_giveFade 62 = .ok (.aload_n 0, 1) := by decide +kernel
theorem dX5_giveFade_63 : decode cX5_giveFade 63 = .ok (.iconst 0, 1) := by decide +kernel
theorem dX5_giveFade_64 : decode cX5_giveFade 64 = .ok (.putfield 34, 3) := by decide +kernel
theorem dX5_giveFade_67 : decode cX5_giveFade 67 = .ok (.aload_n 0, 1) := by decide +kernel
theorem dX5_giveFade_68 : decode cX5_giveFade 68 = .ok (.dup, 1) := by decide +kernel
theorem dX5_giveFade_69 : decode cX5_giveFade 69 = .ok (.getfield 144, 3) := by decide +kernel
theorem dX5_giveFade_72 : decode cX5_giveFade 72 = .ok (.iconst 1, 1) := by decide +kernel
theorem dX5_giveFade_73 : decode cX5_giveFade 73 = .ok (.iadd, 1) := by decide +kernel
theorem dX5_giveFade_74 : decode cX5_giveFade 74 = .ok (.putfield 144, 3) := by decide +kernel
theorem dX5_giveFade_77 : decode cX5_giveFade 77 = .ok (.return_, 1) := by decide +kernel
theorem dX5_sumOfSquares_0 : decode cX5_sumOfSquares 0 = .ok (.lconst 0, 1) := by decide +kernel
theorem dX5_sumOfSquares_1 : decode cX5_sumOfSquares 1 = .ok (.lstore_n 1, 1) := by decide +kernel
theorem dX5_sumOfSquares_2 : decode cX5_sumOfSquares 2 = .ok (.iconst 0, 1) := by decide +kernel
theorem dX5_sumOfSquares_3 : decode cX5_sumOfSquares 3 = .ok (.istore_n 3, 1) := by decide +kernel
theorem dX5_sumOfSquares_4 : decode cX5_sumOfSquares 4 = .ok (.iload_n 3, 1) := by decide +kernel
theorem dX5_sumOfSquares_5 : decode cX5_sumOfSquares 5 = .ok (.bipush 48, 2) := by decide +kernel
theorem dX5_sumOfSquares_7 : decode cX5_sumOfSquares 7 = .ok (.if_icmp .ge 21, 3) := by decide +kernel
theorem dX5_sumOfSquares_10 : decode cX5_sumOfSquares 10 = .ok (.lload_n 1, 1) := by decide +kernel
theorem dX5_sumOfSquares_11 : decode cX5_sumOfSquares 11 = .ok (.aload_n 0, 1) := by decide +kernel
theorem dX5_sumOfSquares_12 : decode cX5_sumOfSquares 12 = .ok (.iload_n 3, 1) := by decide +kernel
theorem dX5_sumOfSquares_13 : decode cX5_sumOfSquares 13 = .ok (.iaload, 1) := by decide +kernel
theorem dX5_sumOfSquares_14 : decode cX5_sumOfSquares 14 = .ok (.i2l, 1) := by decide +kernel
theorem dX5_sumOfSquares_15 : decode cX5_sumOfSquares 15 = .ok (.aload_n 0, 1) := by decide +kernel
theorem dX5_sumOfSquares_16 : decode cX5_sumOfSquares 16 = .ok (.iload_n 3, 1) := by decide +kernel
theorem dX5_sumOfSquares_17 : decode cX5_sumOfSquares 17 = .ok (.iaload, 1) := by decide +kernel
theorem dX5_sumOfSquares_18 : decode cX5_sumOfSquares 18 = .ok (.i2l, 1) := by decide +kernel
theorem dX5_sumOfSquares_19 : decode cX5_sumOfSquares 19 = .ok (.lmul, 1) := by decide +kernel
theorem dX5_sumOfSquares_20 : decode cX5_sumOfSquares 20 = .ok (.ladd, 1) := by decide +kernel
theorem dX5_sumOfSquares_21 : decode cX5_sumOfSquares 21 = .ok (.lstore_n 1, 1) := by decide +kernel
theorem dX5_sumOfSquares_22 : decode cX5_sumOfSquares 22 = .ok (.iinc 3 1, 3) := by decide +kernel
theorem dX5_sumOfSquares_25 : decode cX5_sumOfSquares 25 = .ok (.goto (-21), 3) := by decide +kernel
theorem dX5_sumOfSquares_28 : decode cX5_sumOfSquares 28 = .ok (.lload_n 1, 1) := by decide +kernel
theorem dX5_sumOfSquares_29 : decode cX5_sumOfSquares 29 = .ok (.lreturn, 1) := by decide +kernel
theorem dX6_init_0 : decode cX6_init 0 = .ok (.aload_n 0, 1) := by decide +kernel
theorem dX6_init_1 : decode cX6_init 1 = .ok (.invokespecial 1, 3) := by decide +kernel
theorem dX6_init_4 : decode cX6_init 4 = .ok (.aload_n 0, 1) := by decide +kernel
theorem dX6_init_5 : decode cX6_init 5 = .ok (.sipush 512, 3) := by decide +kernel
theorem dX6_init_8 : decode cX6_init 8 = .ok (.newarray .int, 2) := by decide +kernel
theorem dX6_init_10 : decode cX6_init 10 = .ok (.putfield 9, 3) := by decide +kernel
theorem dX6_init_13 : decode cX6_init 13 = .ok (.iconst 0, 1) := by decide +kernel
theorem dX6_init_14 : decode cX6_init 14 = .ok (.istore_n 1, 1) := by decide +kernel
theorem dX6_init_15 : decode cX6_init 15 = .ok (.iload_n 1, 1) := by decide +kernel
theorem dX6_init_16 : decode cX6_init 16 = .ok (.bipush 32, 2) := by decide +kernel
theorem dX6_init_18 : decode cX6_init 18 = .ok (.if_icmp .ge 102, 3) := by decide +kernel
theorem dX6_init_21 : decode cX6_init 21 = .ok (.iload_n 1, 1) := by decide +kernel
theorem dX6_init_22 : decode cX6_init 22 = .ok (.invokestatic 13, 3) := by decide +kernel
theorem dX6_init_25 : decode cX6_init 25 = .ok (.istore_n 2, 1) := by decide +kernel
theorem dX6_init_26 : decode cX6_init 26 = .ok (.sipush 16384, 3) := by decide +kernel
theorem dX6_init_29 : decode cX6_init 29 = .ok (.istore_n 3, 1) := by decide +kernel
theorem dX6_init_30 : decode cX6_init 30 = .ok (.iconst 0, 1) := by decide +kernel
theorem dX6_init_31 : decode cX6_init 31 = .ok (.istore 4, 2) := by decide +kernel
theorem dX6_init_33 : decode cX6_init 33 = .ok (.iload 4, 2) := by decide +kernel
theorem dX6_init_35 : decode cX6_init 35 = .ok (.bipush 16, 2) := by decide +kernel
theorem dX6_init_37 : decode cX6_init 37 = .ok (.if_icmp .ge 50, 3) := by decide +kernel
theorem dX6_init_40 : decode cX6_init 40 = .ok (.iload_n 2, 1) := by decide +kernel
theorem dX6_init_41 : decode cX6_init 41 = .ok (.ifCond .le 18, 3) := by decide +kernel
theorem dX6_init_44 : decode cX6_init 44 = .ok (.sipush 16384, 3) := by decide +kernel
theorem dX6_init_47 : decode cX6_init 47 = .ok (.iload_n 1, 1) := by decide +kernel
theorem dX6_init_48 : decode cX6_init 48 = .ok (.iload 4, 2) := by decide +kernel
theorem dX6_init_50 : decode cX6_init 50 = .ok (.invokestatic 17, 3) := by decide +kernel
theorem dX6_init_53 : decode cX6_init 53 = .ok (.imul, 1) := by decide +kernel
theorem dX6_init_54 : decode cX6_init 54 = .ok (.iload_n 2, 1) := by decide +kernel
theorem dX6_init_55 : decode cX6_init 55 = .ok (.idiv, 1) := by decide +kernel
theorem dX6_init_56 : decode cX6_init 56 = .ok (.goto 4, 3) := by decide +kernel
theorem dX6_init_59 : decode cX6_init 59 = .ok (.iconst 0, 1) := by decide +kernel
theorem dX6_init_60 : decode cX6_init 60 = .ok (.istore 5, 2) := by decide +kernel
theorem dX6_init_62 : decode cX6_init 62 = .ok (.aload_n 0, 1) := by decide +kernel
theorem dX6_init_63 : decode cX6_init 63 = .ok (.getfield 9, 3) := by decide +kernel
theorem dX6_init_66 : decode cX6_init 66 = .ok (.iload_n 1, 1) := by decide +kernel
theorem dX6_init_67 : decode cX6_init 67 = .ok (.bipush 16, 2) := by decide +kernel
theorem dX6_init_69 : decode cX6_init 69 = .ok (.imul, 1) := by decide +kernel
theorem dX6_init_70 : decode cX6_init 70 = .ok (.iload 4, 2) := by decide +kernel
theorem dX6_init_72 : decode cX6_init 72 = .ok (.iadd, 1) := by decide +kernel
theorem dX6_init_73 : decode cX6_init 73 = .ok (.iload 5, 2) := by decide +kernel
theorem dX6_init_75 : decode cX6_init 75 = .ok (.iastore, 1) := by decide +kernel
theorem dX6_init_76 : decode cX6_init 76 = .ok (.iload_n 3, 1) := by decide +kernel
theorem dX6_init_77 : decode cX6_init 77 = .ok (.iload 5, 2) := by decide +kernel
theorem dX6_init_79 : decode cX6_init 79 = .ok (.isub, 1) := by decide +kernel
theorem dX6_init_80 : decode cX6_init 80 = .ok (.istore_n 3, 1) := by decide +kernel
theorem dX6_init_81 : decode cX6_init 81 = .ok (.iinc 4 1, 3) := by decide +kernel
theorem dX6_init_84 : decode cX6_init 84 = .ok (.goto (-51), 3) := by decide +kernel
theorem dX6_init_87 : decode cX6_init 87 = .ok (.aload_n 0, 1) := by decide +kernel
theorem dX6_init_88 : decode cX6_init 88 = .ok (.getfield 9, 3) := by decide +kernel
theorem dX6_init_91 : decode cX6_init 91 = .ok (.iload_n 1, 1) := by decide +kernel
theorem dX6_init_92 : decode cX6_init 92 = .ok (.bipush 16, 2) := by decide +kernel
theorem dX6_init_94 : decode cX6_init 94 = .ok (.imul, 1) := by decide +kernel
theorem dX6_init_95 : decode cX6_init 95 = .ok (.iload_n 1, 1) := by decide +kernel
theorem dX6_init_96 : decode cX6_init 96 = .ok (.bipush 16, 2) := by decide +kernel
theorem dX6_init_98 : decode cX6_init 98 = .ok (.if_icmp .le 8, 3) := by decide +kernel
theorem dX6_init_101 : decode cX6_init 101 = .ok (.bipush 8, 2) := by decide +kernel
theorem dX6_init_103 : decode cX6_init 103 = .ok (.goto 5, 3) := by decide +kernel
theorem dX6_init_106 : decode cX6_init 106 = .ok (.bipush 7, 2) := by decide +kernel
theorem dX6_init_108 : decode cX6_init 108 = .ok (.iadd, 1) := by decide +kernel
theorem dX6_init_109 : decode cX6_init 109 = .ok (.dup2, 1) := by decide +kernel
theorem dX6_init_110 : decode cX6_init 110 = .ok (.iaload, 1) := by decide +kernel
theorem dX6_init_111 : decode cX6_init 111 = .ok (.iload_n 3, 1) := by decide +kernel
theorem dX6_init_112 : decode cX6_init 112 = .ok (.iadd, 1) := by decide +kernel
theorem dX6_init_113 : decode cX6_init 113 = .ok (.iastore, 1) := by decide +kernel
theorem dX6_init_114 : decode cX6_init 114 = .ok (.iinc 1 1, 3) := by decide +kernel
theorem dX6_init_117 : decode cX6_init 117 = .ok (.goto (-102), 3) := by decide +kernel
theorem dX6_init_120 : decode cX6_init 120 = .ok (.return_, 1) := by decide +kernel
theorem dX6_of_0 : decode cX6_of 0 = .ok (.aload_n 0, 1) := by decide +kernel
theorem dX6_of_1 : decode cX6_of 1 = .ok (.getfield 9, 3) := by decide +kernel
theorem dX6_of_4 : decode cX6_of 4 = .ok (.iload_n 1, 1) := by decide +kernel
theorem dX6_of_5 : decode cX6_of 5 = .ok (.bipush 16, 2) := by decide +kernel
theorem dX6_of_7 : decode cX6_of 7 = .ok (.imul, 1) := by decide +kernel
theorem dX6_of_8 : decode cX6_of 8 = .ok (.iload_n 2, 1) := by decide +kernel
theorem dX6_of_9 : decode cX6_of 9 = .ok (.iadd, 1) := by decide +kernel
theorem dX6_of_10 : decode cX6_of 10 = .ok (.iaload, 1) := by decide +kernel
theorem dX6_of_11 : decode cX6_of 11 = .ok (.ireturn, 1) := by decide +kernel
theorem dX6_weightsOf_0 : decode cX6_weightsOf 0 = .ok (.iconst 0, 1) := by decide +kernel
theorem dX6_weightsOf_1 : decode cX6_weightsOf 1 = .ok (.istore_n 1, 1) := by decide +kernel
theorem dX6_weightsOf_2 : decode cX6_weightsOf 2 = .ok (.iconst 0, 1) := by decide +kernel
theorem dX6_weightsOf_3 : decode cX6_weightsOf 3 = .ok (.istore_n 2, 1) := by decide +kernel
theorem dX6_weightsOf_4 : decode cX6_weightsOf 4 = .ok (.iload_n 2, 1) := by decide +kernel
theorem dX6_weightsOf_5 : decode cX6_weightsOf 5 = .ok (.bipush 16, 2) := by decide +kernel
theorem dX6_weightsOf_7 : decode cX6_weightsOf 7 = .ok (.if_icmp .ge 17, 3) := by decide +kernel
theorem dX6_weightsOf_10 : decode cX6_weightsOf 10 = .ok (.iload_n 1, 1) := by decide +kernel
theorem dX6_weightsOf_11 : decode cX6_weightsOf 11 = .ok (.iload_n 0, 1) := by decide +kernel
theorem dX6_weightsOf_12 : decode cX6_weightsOf 12 = .ok (.iload_n 2, 1) := by decide +kernel
theorem dX6_weightsOf_13 : decode cX6_weightsOf 13 = .ok (.invokestatic 17, 3) := by decide +kernel
theorem dX6_weightsOf_16 : decode cX6_weightsOf 16 = .ok (.iadd, 1) := by decide +kernel
theorem dX6_weightsOf_17 : decode cX6_weightsOf 17 = .ok (.istore_n 1, 1) := by decide +kernel
theorem dX6_weightsOf_18 : decode cX6_weightsOf 18 = .ok (.iinc 2 1, 3) := by decide +kernel
theorem dX6_weightsOf_21 : decode cX6_weightsOf 21 = .ok (.goto (-17), 3) := by decide +kernel
theorem dX6_weightsOf_24 : decode cX6_weightsOf 24 = .ok (.iload_n 1, 1) := by decide +kernel
theorem dX6_weightsOf_25 : decode cX6_weightsOf 25 = .ok (.ireturn, 1) := by decide +kernel
theorem dX6_weight_0 : decode cX6_weight 0 = .ok (.bipush 32, 2) := by decide +kernel
theorem dX6_weight_2 : decode cX6_weight 2 = .ok (.iload_n 1, 1) := by decide +kernel
theorem dX6_weight_3 : decode cX6_weight 3 = .ok (.bipush 7, 2) := by decide +kernel
theorem dX6_weight_5 : decode cX6_weight 5 = .ok (.isub, 1) := by decide +kernel
theorem dX6_weight_6 : decode cX6_weight 6 = .ok (.imul, 1) := by decide +kernel
theorem dX6_weight_7 : decode cX6_weight 7 = .ok (.iload_n 0, 1) := by decide +kernel
theorem dX6_weight_8 : decode cX6_weight 8 = .ok (.isub, 1) := by decide +kernel
theorem dX6_weight_9 : decode cX6_weight 9 = .ok (.invokestatic 21, 3) := by decide +kernel
theorem dX6_weight_12 : decode cX6_weight 12 = .ok (.istore_n 2, 1) := by decide +kernel
theorem dX6_weight_13 : decode cX6_weight 13 = .ok (.iload_n 2, 1) := by decide +kernel
theorem dX6_weight_14 : decode cX6_weight 14 = .ok (.sipush 256, 3) := by decide +kernel
theorem dX6_weight_17 : decode cX6_weight 17 = .ok (.if_icmp .le 7, 3) := by decide +kernel
theorem dX6_weight_20 : decode cX6_weight 20 = .ok (.iconst 0, 1) := by decide +kernel
theorem dX6_weight_21 : decode cX6_weight 21 = .ok (.goto 14, 3) := by decide +kernel
theorem dX6_weight_24 : decode cX6_weight 24 = .ok (.sipush 256, 3) := by decide +kernel
theorem dX6_weight_27 : decode cX6_weight 27 = .ok (.iload_n 2, 1) := by decide +kernel
theorem dX6_weight_28 : decode cX6_weight 28 = .ok (.isub, 1) := by decide +kernel
theorem dX6_weight_29 : decode cX6_weight 29 = .ok (.sipush 256, 3) := by decide +kernel
theorem dX6_weight_32 : decode cX6_weight 32 = .ok (.iload_n 2, 1) := by decide +kernel
theorem dX6_weight_33 : decode cX6_weight 33 = .ok (.isub, 1) := by decide +kernel
theorem dX6_weight_34 : decode cX6_weight 34 = .ok (.imul, 1) := by decide +kernel
theorem dX6_weight_35 : decode cX6_weight 35 = .ok (.ireturn, 1) := by decide +kernel
theorem dX7_init_0 : decode cX7_init 0 = .ok (.aload_n 0, 1) := by decide +kernel
theorem dX7_init_1 : decode cX7_init 1 = .ok (.invokespecial 1, 3) := by decide +kernel
theorem dX7_init_4 : decode cX7_init 4 = .ok (.aload_n 0, 1) := by decide +kernel
theorem dX7_init_5 : decode cX7_init 5 = .ok (.new 7, 3) := by decide +kernel
theorem dX7_init_8 : decode cX7_init 8 = .ok (.dup, 1) := by decide +kernel
theorem dX7_init_9 : decode cX7_init 9 = .ok (.invokespecial 9, 3) := by decide +kernel
theorem dX7_init_12 : decode cX7_init 12 = .ok (.putfield 10, 3) := by decide +kernel
theorem dX7_init_15 : decode cX7_init 15 = .ok (.aload_n 0, 1) := by decide +kernel
theorem dX7_init_16 : decode cX7_init 16 = .ok (.new 16, 3) := by decide +kernel
theorem dX7_init_19 : decode cX7_init 19 = .ok (.dup, 1) := by decide +kernel
theorem dX7_init_20 : decode cX7_init 20 = .ok (.invokespecial 18, 3) := by decide +kernel
theorem dX7_init_23 : decode cX7_init 23 = .ok (.putfield 19, 3) := by decide +kernel
theorem dX7_init_26 : decode cX7_init 26 = .ok (.aload_n 0, 1) := by decide +kernel
theorem dX7_init_27 : decode cX7_init 27 = .ok (.bipush 6, 2) := by decide +kernel
theorem dX7_init_29 : decode cX7_init 29 = .ok (.anewarray 23, 3) := by decide +kernel
theorem dX7_init_32 : decode cX7_init 32 = .ok (.putfield 25, 3) := by decide +kernel
theorem dX7_init_35 : decode cX7_init 35 = .ok (.aload_n 0, 1) := by decide +kernel
theorem dX7_init_36 : decode cX7_init 36 = .ok (.iconst 4, 1) := by decide +kernel
theorem dX7_init_37 : decode cX7_init 37 = .ok (.bipush 48, 2) := by decide +kernel
theorem dX7_init_39 : decode cX7_init 39 = .ok (.multianewarray 29 2, 4) := by decide +kernel
theorem dX7_init_43 : decode cX7_init 43 = .ok (.putfield 31, 3) := by decide +kernel
theorem dX7_init_46 : decode cX7_init 46 = .ok (.aload_n 0, 1) := by decide +kernel
theorem dX7_init_47 : decode cX7_init 47 = .ok (.iconst 0, 1) := by decide +kernel
theorem dX7_init_48 : decode cX7_init 48 = .ok (.putfield 34, 3) := by decide +kernel
theorem dX7_init_51 : decode cX7_init 51 = .ok (.aload_n 0, 1) := by decide +kernel
theorem dX7_init_52 : decode cX7_init 52 = .ok (.iconst 0, 1) := by decide +kernel
theorem dX7_init_53 : decode cX7_init 53 = .ok (.putfield 38, 3) := by decide +kernel
theorem dX7_init_56 : decode cX7_init 56 = .ok (.aload_n 0, 1) := by decide +kernel
theorem dX7_init_57 : decode cX7_init 57 = .ok (.iconst 4, 1) := by decide +kernel
theorem dX7_init_58 : decode cX7_init 58 = .ok (.bipush 48, 2) := by decide +kernel
theorem dX7_init_60 : decode cX7_init 60 = .ok (.multianewarray 29 2, 4) := by decide +kernel
theorem dX7_init_64 : decode cX7_init 64 = .ok (.putfield 41, 3) := by decide +kernel
theorem dX7_init_67 : decode cX7_init 67 = .ok (.aload_n 0, 1) := by decide +kernel
theorem dX7_init_68 : decode cX7_init 68 = .ok (.iconst 0, 1) := by decide +kernel
theorem dX7_init_69 : decode cX7_init 69 = .ok (.putfield 44, 3) := by decide +kernel
theorem dX7_init_72 : decode cX7_init 72 = .ok (.aload_n 0, 1) := by decide +kernel
theorem dX7_init_73 : decode cX7_init 73 = .ok (.bipush 48, 2) := by decide +kernel
theorem dX7_init_75 : decode cX7_init 75 = .ok (.newarray .int, 2) := by decide +kernel
theorem dX7_init_77 : decode cX7_init 77 = .ok (.putfield 47, 3) := by decide +kernel
theorem dX7_init_80 : decode cX7_init 80 = .ok (.aload_n 0, 1) := by decide +kernel
theorem dX7_init_81 : decode cX7_init 81 = .ok (.bipush 48, 2) := by decide +kernel
theorem dX7_init_83 : decode cX7_init 83 = .ok (.newarray .int, 2) := by decide +kernel
theorem dX7_init_85 : decode cX7_init 85 = .ok (.putfield 51, 3) := by decide +kernel
theorem dX7_init_88 : decode cX7_init 88 = .ok (.aload_n 0, 1) := by decide +kernel
theorem dX7_init_89 : decode cX7_init 89 = .ok (.bipush 48, 2) := by decide +kernel
theorem dX7_init_91 : decode cX7_init 91 = .ok (.newarray .int, 2) := by decide +kernel
theorem dX7_init_93 : decode cX7_init 93 = .ok (.putfield 54, 3) := by decide +kernel
theorem dX7_init_96 : decode cX7_init 96 = .ok (.return_, 1) := by decide +kernel
theorem dX7_open_0 : decode cX7_open 0 = .ok (.iload_n 2, 1) := by decide +kernel
theorem dX7_open_1 : decode cX7_open 1 = .ok (.invokestatic 57, 3) := by decide +kernel
theorem dX7_open_4 : decode cX7_open 4 = .ok (.ifCond .eq 27, 3) := by decide +kernel
theorem dX7_open_7 : decode cX7_open 7 = .ok (.iload_n 3, 1) := by decide +kernel
theorem dX7_open_8 : decode cX7_open 8 = .ok (.iconst 1, 1) := by decide +kernel
theorem dX7_open_9 : decode cX7_open 9 = .ok (.if_icmp .eq 8, 3) := by decide +kernel
theorem dX7_open_12 : decode cX7_open 12 = .ok (.iload_n 3, 1) := by decide +kernel
theorem dX7_open_13 : decode cX7_open 13 = .ok (.iconst 2, 1) := by decide +kernel
theorem dX7_open_14 : decode cX7_open 14 = .ok (.if_icmp .ne 17, 3) := by decide +kernel
theorem dX7_open_17 : decode cX7_open 17 = .ok (.iload 4, 2) := by decide +kernel
theorem dX7_open_19 : decode cX7_open 19 = .ok (.bipush 8, 2) := by decide +kernel
theorem dX7_open_21 : decode cX7_open 21 = .ok (.if_icmp .eq 20, 3) := by decide +kernel
theorem dX7_open_24 : decode cX7_open 24 = .ok (.iload 4, 2) := by decide +kernel
theorem dX7_open_26 : decode cX7_open 26 = .ok (.bipush 16, 2) := by decide +kernel
theorem dX7_open_28 : decode cX7_open 28 = .ok (.if_icmp .eq 13, 3) := by decide +kernel
theorem dX7_open_31 : decode cX7_open 31 = .ok (.new 61, 3) := by decide +kernel
theorem dX7_open_34 : decode cX7_open 34 = .ok (.dup, 1) := by decide +kernel
theorem dX7_open_35 : decode cX7_open 35 = .ok (.ldc 63, 2) := by decide +kernel
theorem dX7_open_37 : decode cX7_open 37 = .ok (.invokespecial 65, 3) := by decide +kernel
theorem dX7_open_40 : decode cX7_open 40 = .ok (.athrow, 1) := by decide +kernel
theorem dX7_open_41 : decode cX7_open 41 = .ok (.aload_n 0, 1) := by decide +kernel
theorem dX7_open_42 : decode cX7_open 42 = .ok (.invokevirtual 68, 3) := by decide +kernel
theorem dX7_open_45 : decode cX7_open 45 = .ok (.istore 5, 2) := by decide +kernel
theorem dX7_open_47 : decode cX7_open 47 = .ok (.iload 5, 2) := by decide +kernel
theorem dX7_open_49 : decode cX7_open 49 = .ok (.iconst (-1), 1) := by decide +kernel
theorem dX7_open_50 : decode cX7_open 50 = .ok (.if_icmp .ne 13, 3) := by decide +kernel
theorem dX7_open_53 : decode cX7_open 53 = .ok (.new 72, 3) := by decide +kernel
theorem dX7_open_56 : decode cX7_open 56 = .ok (.dup, 1) := by decide +kernel
theorem dX7_open_57 : decode cX7_open 57 = .ok (.ldc 74, 2) := by decide +kernel
theorem dX7_open_59 : decode cX7_open 59 = .ok (.invokespecial 76, 3) := by decide +kernel
theorem dX7_open_62 : decode cX7_open 62 = .ok (.athrow, 1) := by decide +kernel
theorem dX7_open_63 : decode cX7_open 63 = .ok (.aload_n 0, 1) := by decide +kernel
theorem dX7_open_64 : decode cX7_open 64 = .ok (.getfield 25, 3) := by decide +kernel
theorem dX7_open_67 : decode cX7_open 67 = .ok (.iload 5, 2) := by decide +kernel
theorem dX7_open_69 : decode cX7_open 69 = .ok (.iload_n 1, 1) := by decide +kernel
theorem dX7_open_70 : decode cX7_open 70 = .ok (.ifCond .eq 21, 3) := by decide +kernel
theorem dX7_open_73 : decode cX7_open 73 = .ok (.new 77, 3) := by decide +kernel
theorem dX7_open_76 : decode cX7_open 76 = .ok (.dup, 1) := by decide +kernel
theorem dX7_open_77 : decode cX7_open 77 = .ok (.aload_n 0, 1) := by decide +kernel
theorem dX7_open_78 : decode cX7_open 78 = .ok (.getfield 10, 3) := by decide +kernel
theorem dX7_open_81 : decode cX7_open 81 = .ok (.iload_n 2, 1) := by decide +kernel
theorem dX7_open_82 : decode cX7_open 82 = .ok (.iload_n 3, 1) := by decide +kernel
theorem dX7_open_83 : decode cX7_open 83 = .ok (.iload 4, 2) := by decide +kernel
theorem dX7_open_85 : decode cX7_open 85 = .ok (.invokespecial 79, 3) := by decide +kernel
theorem dX7_open_88 : decode cX7_open 88 = .ok (.goto 18, 3) := by decide +kernel
theorem dX7_open_91 : decode cX7_open 91 = .ok (.new 82, 3) := by decide +kernel
theorem dX7_open_94 : decode cX7_open 94 = .ok (.dup, 1) := by decide +kernel
theorem dX7_open_95 : decode cX7_open 95 = .ok (.aload_n 0, 1) := by decide +kernel
theorem dX7_open_96 : decode cX7_open 96 = .ok (.getfield 10, 3) := by decide +kernel
theorem dX7_open_99 : decode cX7_open 99 = .ok (.iload_n 2, 1) := by decide +kernel
theorem dX7_open_100 : decode cX7_open 100 = .ok (.iload_n 3, 1) := by decide +kernel
theorem dX7_open_101 : decode cX7_open 101 = .ok (.iload 4, 2) := by decide +kernel
theorem dX7_open_103 : decode cX7_open 103 = .ok (.invokespecial 84, 3) := by decide +kernel
theorem dX7_open_106 : decode cX7_open 106 = .ok (.aastore, 1) := by decide +kernel
theorem dX7_open_107 : decode cX7_open 107 = .ok (.iload 5, 2) := by decide +kernel
theorem dX7_open_109 : decode cX7_open 109 = .ok (.ireturn, 1) := by decide +kernel
theorem dX7_close_0 : decode cX7_close 0 = .ok (.aload_n 0, 1) := by decide +kernel
theorem dX7_close_1 : decode cX7_close 1 = .ok (.iload_n 1, 1) := by decide +kernel
theorem dX7_close_2 : decode cX7_close 2 = .ok (.invokevirtual 85, 3) := by decide +kernel
theorem dX7_close_5 : decode cX7_close 5 = .ok (.pop, 1) := by decide +kernel
theorem dX7_close_6 : decode cX7_close 6 = .ok (.aload_n 0, 1) := by decide +kernel
theorem dX7_close_7 : decode cX7_close 7 = .ok (.getfield 25, 3) := by decide +kernel
theorem dX7_close_10 : decode cX7_close 10 = .ok (.iload_n 1, 1) := by decide +kernel
theorem dX7_close_11 : decode cX7_close 11 = .ok (.aconst_null, 1) := by decide +kernel
theorem dX7_close_12 : decode cX7_close 12 = .ok (.aastore, 1) := by decide +kernel
theorem dX7_close_13 : decode cX7_close 13 = .ok (.return_, 1) := by decide +kernel
theorem dX7_gain_0 : decode cX7_gain 0 = .ok (.aload_n 0, 1) := by decide +kernel
theorem dX7_gain_1 : decode cX7_gain 1 = .ok (.iload_n 1, 1) := by decide +kernel
theorem dX7_gain_2 : decode cX7_gain 2 = .ok (.invokevirtual 89, 3) := by decide +kernel
theorem dX7_gain_5 : decode cX7_gain 5 = .ok (.astore 4, 2) := by decide +kernel
theorem dX7_gain_7 : decode cX7_gain 7 = .ok (.dload_n 2, 1) := by decide +kernel
theorem dX7_gain_8 : decode cX7_gain 8 = .ok (.dconst 0, 1) := by decide +kernel
theorem dX7_gain_9 : decode cX7_gain 9 = .ok (.dcmp .l, 1) := by decide +kernel
theorem dX7_gain_10 : decode cX7_gain 10 = .ok (.ifCond .lt 9, 3) := by decide +kernel
theorem dX7_gain_13 : decode cX7_gain 13 = .ok (.dload_n 2, 1) := by decide +kernel
theorem dX7_gain_14 : decode cX7_gain 14 = .ok (.dconst 1, 1) := by decide +kernel
theorem dX7_gain_15 : decode cX7_gain 15 = .ok (.dcmp .g, 1) := by decide +kernel
theorem dX7_gain_16 : decode cX7_gain 16 = .ok (.ifCond .le 13, 3) := by decide +kernel
theorem dX7_gain_19 : decode cX7_gain 19 = .ok (.new 61, 3) := by decide +kernel
theorem dX7_gain_22 : decode cX7_gain 22 = .ok (.dup, 1) := by decide +kernel
theorem dX7_gain_23 : decode cX7_gain 23 = .ok (.ldc 93, 2) := by decide +kernel
theorem dX7_gain_25 : decode cX7_gain 25 = .ok (.invokespecial 65, 3) := by decide +kernel
theorem dX7_gain_28 : decode cX7_gain 28 = .ok (.athrow, 1) := by decide +kernel
theorem dX7_gain_29 : decode cX7_gain 29 = .ok (.aload 4, 2) := by decide +kernel
theorem dX7_gain_31 : decode cX7_gain 31 = .ok (.dload_n 2, 1) := by decide +kernel
theorem dX7_gain_32 : decode cX7_gain 32 = .ok (.ldc2_w 95, 3) := by decide +kernel
theorem dX7_gain_35 : decode cX7_gain 35 = .ok (.dmul, 1) := by decide +kernel
theorem dX7_gain_36 : decode cX7_gain 36 = .ok (.d2i, 1) := by decide +kernel
theorem dX7_gain_37 : decode cX7_gain 37 = .ok (.putfield 97, 3) := by decide +kernel
theorem dX7_gain_40 : decode cX7_gain 40 = .ok (.return_, 1) := by decide +kernel
theorem dX7_start_0 : decode cX7_start 0 = .ok (.aload_n 0, 1) := by decide +kernel
theorem dX7_start_1 : decode cX7_start 1 = .ok (.iload_n 1, 1) := by decide +kernel
theorem dX7_start_2 : decode cX7_start 2 = .ok (.invokevirtual 85, 3) := by decide +kernel
theorem dX7_start_5 : decode cX7_start 5 = .ok (.astore_n 2, 1) := by decide +kernel
theorem dX7_start_6 : decode cX7_start 6 = .ok (.aload_n 2, 1) := by decide +kernel
theorem dX7_start_7 : decode cX7_start 7 = .ok (.getfield 100, 3) := by decide +kernel
theorem dX7_start_10 : decode cX7_start 10 = .ok (.ifCond .eq 21, 3) := by decide +kernel
theorem dX7_start_13 : decode cX7_start 13 = .ok (.aload_n 2, 1) := by decide +kernel
theorem dX7_start_14 : decode cX7_start 14 = .ok (.getfield 100, 3) := by decide +kernel
theorem dX7_start_17 : decode cX7_start 17 = .ok (.iconst 2, 1) := by decide +kernel
theorem dX7_start_18 : decode cX7_start 18 = .ok (.if_icmp .eq 13, 3) := by decide +kernel
theorem dX7_start_21 : decode cX7_start 21 = .ok (.new 72, 3) := by decide +kernel
theorem dX7_start_24 : decode cX7_start 24 = .ok (.dup, 1) := by decide +kernel
theorem dX7_start_25 : decode cX7_start 25 = .ok (.ldc 103, 2) := by decide +kernel
theorem dX7_start_27 : decode cX7_start 27 = .ok (.invokespecial 76, 3) := by decide +kernel
theorem dX7_start_30 : decode cX7_start 30 = .ok (.athrow, 1) := by decide +kernel
theorem dX7_start_31 : decode cX7_start 31 = .ok (.aload_n 2, 1) := by decide +kernel
theorem dX7_start_32 : decode cX7_start 32 = .ok (.iconst 1, 1) := by decide +kernel
theorem dX7_start_33 : decode cX7_start 33 = .ok (.putfield 100, 3) := by decide +kernel
theorem dX7_start_36 : decode cX7_start 36 = .ok (.return_, 1) := by decide +kernel
theorem dX7_pause_0 : decode cX7_pause 0 = .ok (.aload_n 0, 1) := by decide +kernel
theorem dX7_pause_1 : decode cX7_pause 1 = .ok (.iload_n 1, 1) := by decide +kernel
theorem dX7_pause_2 : decode cX7_pause 2 = .ok (.invokevirtual 85, 3) := by decide +kernel
theorem dX7_pause_5 : decode cX7_pause 5 = .ok (.astore_n 2, 1) := by decide +kernel
theorem dX7_pause_6 : decode cX7_pause 6 = .ok (.aload_n 2, 1) := by decide +kernel
theorem dX7_pause_7 : decode cX7_pause 7 = .ok (.invokestatic 105, 3) := by decide +kernel
theorem dX7_pause_10 : decode cX7_pause 10 = .ok (.aload_n 2, 1) := by decide +kernel
theorem dX7_pause_11 : decode cX7_pause 11 = .ok (.iconst 2, 1) := by decide +kernel
theorem dX7_pause_12 : decode cX7_pause 12 = .ok (.putfield 100, 3) := by decide +kernel
theorem dX7_pause_15 : decode cX7_pause 15 = .ok (.return_, 1) := by decide +kernel
theorem dX7_drain_0 : decode cX7_drain 0 = .ok (.aload_n 0, 1) := by decide +kernel
theorem dX7_drain_1 : decode cX7_drain 1 = .ok (.iload_n 1, 1) := by decide +kernel
theorem dX7_drain_2 : decode cX7_drain 2 = .ok (.invokevirtual 89, 3) := by decide +kernel
theorem dX7_drain_5 : decode cX7_drain 5 = .ok (.astore_n 2, 1) := by decide +kernel
theorem dX7_drain_6 : decode cX7_drain 6 = .ok (.aload_n 2, 1) := by decide +kernel
theorem dX7_drain_7 : decode cX7_drain 7 = .ok (.invokestatic 105, 3) := by decide +kernel
theorem dX7_drain_10 : decode cX7_drain 10 = .ok (.aload_n 2, 1) := by decide +kernel
theorem dX7_drain_11 : decode cX7_drain 11 = .ok (.iconst 3, 1) := by decide +kernel
theorem dX7_drain_12 : decode cX7_drain 12 = .ok (.putfield 109, 3) := by decide +kernel
theorem dX7_drain_15 : decode cX7_drain 15 = .ok (.aload_n 2, 1) := by decide +kernel
theorem dX7_drain_16 : decode cX7_drain 16 = .ok (.iconst 0, 1) := by decide +kernel
theorem dX7_drain_17 : decode cX7_drain 17 = .ok (.putfield 110, 3) := by decide +kernel
theorem dX7_drain_20 : decode cX7_drain 20 = .ok (.return_, 1) := by decide +kernel
theorem dX7_state_0 : decode cX7_state 0 = .ok (.aload_n 0, 1) := by decide +kernel
theorem dX7_state_1 : decode cX7_state 1 = .ok (.iload_n 1, 1) := by decide +kernel
theorem dX7_state_2 : decode cX7_state 2 = .ok (.invokevirtual 85, 3) := by decide +kernel
theorem dX7_state_5 : decode cX7_state 5 = .ok (.getfield 100, 3) := by decide +kernel
theorem dX7_state_8 : decode cX7_state 8 = .ok (.ireturn, 1) := by decide +kernel
theorem dX7_write_0 : decode cX7_write 0 = .ok (.aload_n 0, 1) := by decide +kernel
theorem dX7_write_1 : decode cX7_write 1 = .ok (.iload_n 1, 1) := by decide +kernel
theorem dX7_write_2 : decode cX7_write 2 = .ok (.invokevirtual 89, 3) := by decide +kernel
theorem dX7_write_5 : decode cX7_write 5 = .ok (.astore_n 3, 1) := by decide +kernel
theorem dX7_write_6 : decode cX7_write 6 = .ok (.aload_n 3, 1) := by decide +kernel
theorem dX7_write_7 : decode cX7_write 7 = .ok (.iload_n 2, 1) := by decide +kernel
theorem dX7_write_8 : decode cX7_write 8 = .ok (.invokevirtual 114, 3) := by decide +kernel
theorem dX7_write_11 : decode cX7_write 11 = .ok (.ifCond .ne 13, 3) := by decide +kernel
theorem dX7_write_14 : decode cX7_write 14 = .ok (.new 61, 3) := by decide +kernel
theorem dX7_write_17 : decode cX7_write 17 = .ok (.dup, 1) := by decide +kernel
theorem dX7_write_18 : decode cX7_write 18 = .ok (.ldc 117, 2) := by decide +kernel
theorem dX7_write_20 : decode cX7_write 20 = .ok (.invokespecial 65, 3) := by decide +kernel
theorem dX7_write_23 : decode cX7_write 23 = .ok (.athrow, 1) := by decide +kernel
theorem dX7_write_24 : decode cX7_write 24 = .ok (.aload_n 3, 1) := by decide +kernel
theorem dX7_write_25 : decode cX7_write 25 = .ok (.invokevirtual 119, 3) := by decide +kernel
theorem dX7_write_28 : decode cX7_write 28 = .ok (.ifCond .eq 13, 3) := by decide +kernel
theorem dX7_write_31 : decode cX7_write 31 = .ok (.new 72, 3) := by decide +kernel
theorem dX7_write_34 : decode cX7_write 34 = .ok (.dup, 1) := by decide +kernel
theorem dX7_write_35 : decode cX7_write 35 = .ok (.ldc 123, 2) := by decide +kernel
theorem dX7_write_37 : decode cX7_write 37 = .ok (.invokespecial 76, 3) := by decide +kernel
theorem dX7_write_40 : decode cX7_write 40 = .ok (.athrow, 1) := by decide +kernel
theorem dX7_write_41 : decode cX7_write 41 = .ok (.aload_n 3, 1) := by decide +kernel
theorem dX7_write_42 : decode cX7_write 42 = .ok (.iload_n 2, 1) := by decide +kernel
theorem dX7_write_43 : decode cX7_write 43 = .ok (.invokevirtual 125, 3) := by decide +kernel
theorem dX7_write_46 : decode cX7_write 46 = .ok (.ireturn, 1) := by decide +kernel
theorem dX7_read_0 : decode cX7_read 0 = .ok (.aload_n 0, 1) := by decide +kernel
theorem dX7_read_1 : decode cX7_read 1 = .ok (.iload_n 1, 1) := by decide +kernel
theorem dX7_read_2 : decode cX7_read 2 = .ok (.invokevirtual 128, 3) := by decide +kernel
theorem dX7_read_5 : decode cX7_read 5 = .ok (.astore_n 2, 1) := by decide +kernel
theorem dX7_read_6 : decode cX7_read 6 = .ok (.aload_n 2, 1) := by decide +kernel
theorem dX7_read_7 : decode cX7_read 7 = .ok (.invokevirtual 132, 3) := by decide +kernel
theorem dX7_read_10 : decode cX7_read 10 = .ok (.iconst 1, 1) := by decide +kernel
theorem dX7_read_11 : decode cX7_read 11 = .ok (.if_icmp .ge 13, 3) := by decide +kernel
theorem dX7_read_14 : decode cX7_read 14 = .ok (.new 72, 3) := by decide +kernel
theorem dX7_read_17 : decode cX7_read 17 = .ok (.dup, 1) := by decide +kernel
theorem dX7_read_18 : decode cX7_read 18 = .ok (.ldc 135, 2) := by decide +kernel
theorem dX7_read_20 : decode cX7_read 20 = .ok (.invokespecial 76, 3) := by decide +kernel
theorem dX7_read_23 : decode cX7_read 23 = .ok (.athrow, 1) := by decide +kernel
theorem dX7_read_24 : decode cX7_read 24 = .ok (.aload_n 2, 1) := by decide +kernel
theorem dX7_read_25 : decode cX7_read 25 = .ok (.invokevirtual 137, 3) := by decide +kernel
theorem dX7_read_28 : decode cX7_read 28 = .ok (.ireturn, 1) := by decide +kernel
theorem dX7_room_0 : decode cX7_room 0 = .ok (.aload_n 0, 1) := by decide +kernel
theorem dX7_room_1 : decode cX7_room 1 = .ok (.iload_n 1, 1) := by decide +kernel
theorem dX7_room_2 : decode cX7_room 2 = .ok (.invokevirtual 85, 3) := by decide +kernel
theorem dX7_room_5 : decode cX7_room 5 = .ok (.invokevirtual 140, 3) := by decide +kernel
theorem dX7_room_8 : decode cX7_room 8 = .ok (.ireturn, 1) := by decide +kernel
theorem dX7_ahead_0 : decode cX7_ahead 0 = .ok (.aload_n 0, 1) := by decide +kernel
theorem dX7_ahead_1 : decode cX7_ahead 1 = .ok (.iload_n 1, 1) := by decide +kernel
theorem dX7_ahead_2 : decode cX7_ahead 2 = .ok (.invokevirtual 89, 3) := by decide +kernel
theorem dX7_ahead_5 : decode cX7_ahead 5 = .ok (.invokevirtual 141, 3) := by decide +kernel
theorem dX7_ahead_8 : decode cX7_ahead 8 = .ok (.ireturn, 1) := by decide +kernel
theorem dX7_prepare_0 : decode cX7_prepare 0 = .ok (.aload_n 0, 1) := by decide +kernel
theorem dX7_prepare_1 : decode cX7_prepare 1 = .ok (.getfield 38, 3) := by decide +kernel
theorem dX7_prepare_4 : decode cX7_prepare 4 = .ok (.iconst 4, 1) := by decide +kernel
theorem dX7_prepare_5 : decode cX7_prepare 5 = .ok (.if_icmp .lt 5, 3) := by decide +kernel
theorem dX7_prepare_8 : decode cX7_prepare 8 = .ok (.iconst 0, 1) := by decide +kernel
theorem dX7_prepare_9 : decode cX7_prepare 9 = .ok (.ireturn, 1) := by decide +kernel
theorem dX7_prepare_10 : decode cX7_prepare 10 = .ok (.aload_n 0, 1) := by decide +kernel
theorem dX7_prepare_11 : decode cX7_prepare 11 = .ok (.getfield 34, 3) := by decide +kernel
theorem dX7_prepare_14 : decode cX7_prepare 14 = .ok (.aload_n 0, 1) := by decide +kernel
theorem dX7_prepare_15 : decode cX7_prepare 15 = .ok (.getfield 38, 3) := by decide +kernel
theorem dX7_prepare_18 : decode cX7_prepare 18 = .ok (.iadd, 1) := by decide +kernel
theorem dX7_prepare_19 : decode cX7_prepare 19 = .ok (.invokestatic 144, 3) := by decide +kernel
theorem dX7_prepare_22 : decode cX7_prepare 22 = .ok (.istore_n 1, 1) := by decide +kernel
theorem dX7_prepare_23 : decode cX7_prepare 23 = .ok (.aload_n 0, 1) := by decide +kernel
theorem dX7_prepare_24 : decode cX7_prepare 24 = .ok (.getfield 54, 3) := by decide +kernel
theorem dX7_prepare_27 : decode cX7_prepare 27 = .ok (.iconst 0, 1) := by decide +kernel
theorem dX7_prepare_28 : decode cX7_prepare 28 = .ok (.invokestatic 148, 3) := by decide +kernel
theorem dX7_prepare_31 : decode cX7_prepare 31 = .ok (.iconst 0, 1) := by decide +kernel
theorem dX7_prepare_32 : decode cX7_prepare 32 = .ok (.istore_n 2, 1) := by decide +kernel
theorem dX7_prepare_33 : decode cX7_prepare 33 = .ok (.iload_n 2, 1) := by decide +kernel
theorem dX7_prepare_34 : decode cX7_prepare 34 = .ok (.bipush 6, 2) := by decide +kernel
theorem dX7_prepare_36 : decode cX7_prepare 36 = .ok (.if_icmp .ge 52, 3) := by decide +kernel
theorem dX7_prepare_39 : decode cX7_prepare 39 = .ok (.aload_n 0, 1) := by decide +kernel
theorem dX7_prepare_40 : decode cX7_prepare 40 = .ok (.getfield 25, 3) := by decide +kernel
theorem dX7_prepare_43 : decode cX7_prepare 43 = .ok (.iload_n 2, 1) := by decide +kernel
theorem dX7_prepare_44 : decode cX7_prepare 44 = .ok (.aaload, 1) := by decide +kernel
theorem dX7_prepare_45 : decode cX7_prepare 45 = .ok (.astore 4, 2) := by decide +kernel
theorem dX7_prepare_47 : decode cX7_prepare 47 = .ok (.aload 4, 2) := by decide +kernel
theorem dX7_prepare_49 : decode cX7_prepare 49 = .ok (.instanceof 77, 3) := by decide +kernel
theorem dX7_prepare_52 : decode cX7_prepare 52 = .ok (.ifCond .eq 30, 3) := by decide +kernel
theorem dX7_prepare_55 : decode cX7_prepare 55 = .ok (.aload 4, 2) := by decide +kernel
theorem dX7_prepare_57 : decode cX7_prepare 57 = .ok (.checkcast 77, 3) := by decide +kernel
theorem dX7_prepare_60 : decode cX7_prepare 60 = .ok (.astore_n 3, 1) := by decide +kernel
theorem dX7_prepare_61 : decode cX7_prepare 61 = .ok (.aload_n 3, 1) := by decide +kernel
theorem dX7_prepare_62 : decode cX7_prepare 62 = .ok (.aload_n 0, 1) := by decide +kernel
theorem dX7_prepare_63 : decode cX7_prepare 63 = .ok (.getfield 51, 3) := by decide +kernel
theorem dX7_prepare_66 : decode cX7_prepare 66 = .ok (.iload_n 1, 1) := by decide +kernel
theorem dX7_prepare_67 : decode cX7_prepare 67 = .ok (.invokevirtual 154, 3) := by decide +kernel
theorem dX7_prepare_70 : decode cX7_prepare 70 = .ok (.aload_n 3, 1) := by decide +kernel
theorem dX7_prepare_71 : decode cX7_prepare 71 = .ok (.aload_n 0, 1) := by decide +kernel
theorem dX7_prepare_72 : decode cX7_prepare 72 = .ok (.getfield 51, 3) := by decide +kernel
theorem dX7_prepare_75 : decode cX7_prepare 75 = .ok (.aload_n 0, 1) := by decide +kernel
theorem dX7_prepare_76 : decode cX7_prepare 76 = .ok (.getfield 54, 3) := by decide +kernel
theorem dX7_prepare_79 : decode cX7_prepare 79 = .ok (.invokevirtual 157, 3) := by decide +kernel
theorem dX7_prepare_82 : decode cX7_prepare 82 = .ok (.iinc 2 1, 3) := by decide +kernel
theorem dX7_prepare_85 : decode cX7_prepare 85 = .ok (.goto (-52), 3) := by decide +kernel
theorem dX7_prepare_88 : decode cX7_prepare 88 = .ok (.aload_n 0, 1) := by decide +kernel
theorem dX7_prepare_89 : decode cX7_prepare 89 = .ok (.getfield 19, 3) := by decide +kernel
theorem dX7_prepare_92 : decode cX7_prepare 92 = .ok (.aload_n 0, 1) := by decide +kernel
theorem dX7_prepare_93 : decode cX7_prepare 93 = .ok (.getfield 54, 3) := by decide +kernel
theorem dX7_prepare_96 : decode cX7_prepare 96 = .ok (.aload_n 0, 1) := by decide +kernel
theorem dX7_prepare_97 : decode cX7_prepare 97 = .ok (.getfield 31, 3) := by decide +kernel
theorem dX7_prepare_100 : decode cX7_prepare 100 = .ok (.iload_n 1, 1) := by decide +kernel
theorem dX7_prepare_101 : decode cX7_prepare 101 = .ok (.aaload, 1) := by decide +kernel
theorem dX7_prepare_102 : decode cX7_prepare 102 = .ok (.invokevirtual 161, 3) := by decide +kernel
theorem dX7_prepare_105 : decode cX7_prepare 105 = .ok (.aload_n 0, 1) := by decide +kernel
theorem dX7_prepare_106 : decode cX7_prepare 106 = .ok (.dup, 1) := by decide +kernel
theorem dX7_prepare_107 : decode cX7_prepare 107 = .ok (.getfield 38, 3) := by decide +kernel
theorem dX7_prepare_110 : decode cX7_prepare 110 = .ok (.iconst 1, 1) := by decide +kernel
theorem dX7_prepare_111 : decode cX7_prepare 111 = .ok (.iadd, 1) := by decide +kernel
theorem dX7_prepare_112 : decode cX7_prepare 112 = .ok (.putfield 38, 3) := by decide +kernel
theorem dX7_prepare_115 : decode cX7_prepare 115 = .ok (.iconst 1, 1) := by decide +kernel
theorem dX7_prepare_116 : decode cX7_prepare 116 = .ok (.ireturn, 1) := by decide +kernel
theorem dX7_card_0 : decode cX7_card 0 = .ok (.aload_n 0, 1) := by decide +kernel
theorem dX7_card_1 : decode cX7_card 1 = .ok (.getfield 38, 3) := by decide +kernel
theorem dX7_card_4 : decode cX7_card 4 = .ok (.ifCond .le 7, 3) := by decide +kernel
theorem dX7_card_7 : decode cX7_card 7 = .ok (.iconst 1, 1) := by decide +kernel
theorem dX7_card_8 : decode cX7_card 8 = .ok (.goto 4, 3) := by decide +kernel
theorem dX7_card_11 : decode cX7_card 11 = .ok (.iconst 0, 1) := by decide +kernel
theorem dX7_card_12 : decode cX7_card 12 = .ok (.istore_n 1, 1) := by decide +kernel
theorem dX7_card_13 : decode cX7_card 13 = .ok (.aload_n 0, 1) := by decide +kernel
theorem dX7_card_14 : decode cX7_card 14 = .ok (.aload_n 0, 1) := by decide +kernel
theorem dX7_card_15 : decode cX7_card 15 = .ok (.getfield 44, 3) := by decide +kernel
theorem dX7_card_18 : decode cX7_card 18 = .ok (.iconst 1, 1) := by decide +kernel
theorem dX7_card_19 : decode cX7_card 19 = .ok (.iadd, 1) := by decide +kernel
theorem dX7_card_20 : decode cX7_card 20 = .ok (.invokestatic 144, 3) := by decide +kernel
theorem dX7_card_23 : decode cX7_card 23 = .ok (.putfield 44, 3) := by decide +kernel
theorem dX7_card_26 : decode cX7_card 26 = .ok (.iload_n 1, 1) := by decide +kernel
theorem dX7_card_27 : decode cX7_card 27 = .ok (.ifCond .eq 10, 3) := by decide +kernel
theorem dX7_card_30 : decode cX7_card 30 = .ok (.aload_n 0, 1) := by decide +kernel
theorem dX7_card_31 : decode cX7_card 31 = .ok (.invokevirtual 164, 3) := by decide +kernel
theorem dX7_card_34 : decode cX7_card 34 = .ok (.goto 16, 3) := by decide +kernel
theorem dX7_card_37 : decode cX7_card 37 = .ok (.aload_n 0, 1) := by decide +kernel
theorem dX7_card_38 : decode cX7_card 38 = .ok (.getfield 41, 3) := by decide +kernel
theorem dX7_card_41 : decode cX7_card 41 = .ok (.aload_n 0, 1) := by decide +kernel
theorem dX7_card_42 : decode cX7_card 42 = .ok (.getfield 44, 3) := by decide +kernel
theorem dX7_card_45 : decode cX7_card 45 = .ok (.aaload, 1) := by decide +kernel
theorem dX7_card_46 : decode cX7_card 46 = .ok (.iconst 0, 1) := by decide +kernel
theorem dX7_card_47 : decode cX7_card 47 = .ok (.invokestatic 148, 3) := by decide +kernel
theorem dX7_card_50 : decode cX7_card 50 = .ok (.aload_n 0, 1) := by decide +kernel
theorem dX7_card_51 : decode cX7_card 51 = .ok (.invokevirtual 167, 3) := by decide +kernel
theorem dX7_card_54 : decode cX7_card 54 = .ok (.iload_n 1, 1) := by decide +kernel
theorem dX7_card_55 : decode cX7_card 55 = .ok (.ireturn, 1) := by decide +kernel
theorem dX7_coming_0 : decode cX7_coming 0 = .ok (.iload_n 1, 1) := by decide +kernel
theorem dX7_coming_1 : decode cX7_coming 1 = .ok (.invokestatic 170, 3) := by decide +kernel
theorem dX7_coming_4 : decode cX7_coming 4 = .ok (.ifCond .eq 10, 3) := by decide +kernel
theorem dX7_coming_7 : decode cX7_coming 7 = .ok (.iload_n 3, 1) := by decide +kernel
theorem dX7_coming_8 : decode cX7_coming 8 = .ok (.invokestatic 173, 3) := by decide +kernel
theorem dX7_coming_11 : decode cX7_coming 11 = .ok (.ifCond .ne 13, 3) := by decide +kernel
theorem dX7_coming_14 : decode cX7_coming 14 = .ok (.new 61, 3) := by decide +kernel
theorem dX7_coming_17 : decode cX7_coming 17 = .ok (.dup, 1) := by decide +kernel
theorem dX7_coming_18 : decode cX7_coming 18 = .ok (.ldc 176, 2) := by decide +kernel
theorem dX7_coming_20 : decode cX7_coming 20 = .ok (.invokespecial 65, 3) := by decide +kernel
theorem dX7_coming_23 : decode cX7_coming 23 = .ok (.athrow, 1) := by decide +kernel
theorem dX7_coming_24 : decode cX7_coming 24 = .ok (.aload_n 0, 1) := by decide +kernel
theorem dX7_coming_25 : decode cX7_coming 25 = .ok (.getfield 47, 3) := by decide +kernel
theorem dX7_coming_28 : decode cX7_coming 28 = .ok (.iload_n 1, 1) := by decide +kernel
theorem dX7_coming_29 : decode cX7_coming 29 = .ok (.iload_n 2, 1) := by decide +kernel
theorem dX7_coming_30 : decode cX7_coming 30 = .ok (.invokestatic 178, 3) := by decide +kernel
theorem dX7_coming_33 : decode cX7_coming 33 = .ok (.iload_n 3, 1) := by decide +kernel
theorem dX7_coming_34 : decode cX7_coming 34 = .ok (.iastore, 1) := by decide +kernel
theorem dX7_coming_35 : decode cX7_coming 35 = .ok (.return_, 1) := by decide +kernel
theorem dX7_played_0 : decode cX7_played 0 = .ok (.iload_n 1, 1) := by decide +kernel
theorem dX7_played_1 : decode cX7_played 1 = .ok (.ifCond .lt 15, 3) := by decide +kernel
theorem dX7_played_4 : decode cX7_played 4 = .ok (.iload_n 1, 1) := by decide +kernel
theorem dX7_played_5 : decode cX7_played 5 = .ok (.iconst 4, 1) := by decide +kernel
theorem dX7_played_6 : decode cX7_played 6 = .ok (.if_icmp .ge 10, 3) := by decide +kernel
theorem dX7_played_9 : decode cX7_played 9 = .ok (.iload_n 2, 1) := by decide +kernel
theorem dX7_played_10 : decode cX7_played 10 = .ok (.invokestatic 170, 3) := by decide +kernel
theorem dX7_played_13 : decode cX7_played 13 = .ok (.ifCond .ne 13, 3) := by decide +kernel
theorem dX7_played_16 : decode cX7_played 16 = .ok (.new 61, 3) := by decide +kernel
theorem dX7_played_19 : decode cX7_played 19 = .ok (.dup, 1) := by decide +kernel
theorem dX7_played_20 : decode cX7_played 20 = .ok (.ldc 182, 2) := by decide +kernel
theorem dX7_played_22 : decode cX7_played 22 = .ok (.invokespecial 65, 3) := by decide +kernel
theorem dX7_played_25 : decode cX7_played 25 = .ok (.athrow, 1) := by decide +kernel
theorem dX7_played_26 : decode cX7_played 26 = .ok (.aload_n 0, 1) := by decide +kernel
theorem dX7_played_27 : decode cX7_played 27 = .ok (.getfield 41, 3) := by decide +kernel
theorem dX7_played_30 : decode cX7_played 30 = .ok (.aload_n 0, 1) := by decide +kernel
theorem dX7_played_31 : decode cX7_played 31 = .ok (.getfield 44, 3) := by decide +kernel
theorem dX7_played_34 : decode cX7_played 34 = .ok (.iload_n 1, 1) := by decide +kernel
theorem dX7_played_35 : decode cX7_played 35 = .ok (.isub, 1) := by decide +kernel
theorem dX7_played_36 : decode cX7_played 36 = .ok (.invokestatic 144, 3) := by decide +kernel
theorem dX7_played_39 : decode cX7_played 39 = .ok (.aaload, 1) := by decide +kernel
theorem dX7_played_40 : decode cX7_played 40 = .ok (.iload_n 2, 1) := by decide +kernel
theorem dX7_played_41 : decode cX7_played 41 = .ok (.iload_n 3, 1) := by decide +kernel
theorem dX7_played_42 : decode cX7_played 42 = .ok (.invokestatic 178, 3) := by decide +kernel
theorem dX7_played_45 : decode cX7_played 45 = .ok (.iaload, 1) := by decide +kernel
theorem dX7_played_46 : decode cX7_played 46 = .ok (.ireturn, 1) := by decide +kernel
theorem dX7_position_0 : decode cX7_position 0 = .ok (.aload_n 0, 1) := by decide +kernel
theorem dX7_position_1 : decode cX7_position 1 = .ok (.iload_n 1, 1) := by decide +kernel
theorem dX7_position_2 : decode cX7_position 2 = .ok (.invokevirtual 85, 3) := by decide +kernel
theorem dX7_position_5 : decode cX7_position 5 = .ok (.invokevirtual 184, 3) := by decide +kernel
theorem dX7_position_8 : decode cX7_position 8 = .ok (.l2i, 1) := by decide +kernel
theorem dX7_position_9 : decode cX7_position 9 = .ok (.ireturn, 1) := by decide +kernel
theorem dX7_late_0 : decode cX7_late 0 = .ok (.aload_n 0, 1) := by decide +kernel
theorem dX7_late_1 : decode cX7_late 1 = .ok (.iload_n 1, 1) := by decide +kernel
theorem dX7_late_2 : decode cX7_late 2 = .ok (.invokevirtual 85, 3) := by decide +kernel
theorem dX7_late_5 : decode cX7_late 5 = .ok (.getfield 188, 3) := by decide +kernel
theorem dX7_late_8 : decode cX7_late 8 = .ok (.ireturn, 1) := by decide +kernel
theorem dX7_level_0 : decode cX7_level 0 = .ok (.aload_n 0, 1) := by decide +kernel
theorem dX7_level_1 : decode cX7_level 1 = .ok (.iload_n 1, 1) := by decide +kernel
theorem dX7_level_2 : decode cX7_level 2 = .ok (.invokevirtual 89, 3) := by decide +kernel
theorem dX7_level_5 : decode cX7_level 5 = .ok (.getfield 191, 3) := by decide +kernel
theorem dX7_level_8 : decode cX7_level 8 = .ok (.l2d, 1) := by decide +kernel
theorem dX7_level_9 : decode cX7_level 9 = .ok (.ldc2_w 195, 3) := by decide +kernel
theorem dX7_level_12 : decode cX7_level 12 = .ok (.ddiv, 1) := by decide +kernel
theorem dX7_level_13 : decode cX7_level 13 = .ok (.dreturn, 1) := by decide +kernel
theorem dX7_clipped_0 : decode cX7_clipped 0 = .ok (.aload_n 0, 1) := by decide +kernel
theorem dX7_clipped_1 : decode cX7_clipped 1 = .ok (.getfield 19, 3) := by decide +kernel
theorem dX7_clipped_4 : decode cX7_clipped 4 = .ok (.getfield 197, 3) := by decide +kernel
theorem dX7_clipped_7 : decode cX7_clipped 7 = .ok (.ireturn, 1) := by decide +kernel
theorem dX7_limit_0 : decode cX7_limit 0 = .ok (.aload_n 0, 1) := by decide +kernel
theorem dX7_limit_1 : decode cX7_limit 1 = .ok (.getfield 19, 3) := by decide +kernel
theorem dX7_limit_4 : decode cX7_limit 4 = .ok (.getfield 200, 3) := by decide +kernel
theorem dX7_limit_7 : decode cX7_limit 7 = .ok (.istore_n 2, 1) := by decide +kernel
theorem dX7_limit_8 : decode cX7_limit 8 = .ok (.aload_n 0, 1) := by decide +kernel
theorem dX7_limit_9 : decode cX7_limit 9 = .ok (.getfield 19, 3) := by decide +kernel
theorem dX7_limit_12 : decode cX7_limit 12 = .ok (.iload_n 1, 1) := by decide +kernel
theorem dX7_limit_13 : decode cX7_limit 13 = .ok (.putfield 200, 3) := by decide +kernel
theorem dX7_limit_16 : decode cX7_limit 16 = .ok (.iload_n 2, 1) := by decide +kernel
theorem dX7_limit_17 : decode cX7_limit 17 = .ok (.ireturn, 1) := by decide +kernel
theorem dX7_value_0 : decode cX7_value 0 = .ok (.aload_n 0, 1) := by decide +kernel
theorem dX7_value_1 : decode cX7_value 1 = .ok (.getfield 19, 3) := by decide +kernel
theorem dX7_value_4 : decode cX7_value 4 = .ok (.getfield 203, 3) := by decide +kernel
theorem dX7_value_7 : decode cX7_value 7 = .ok (.ireturn, 1) := by decide +kernel
theorem dX7_tap_0 : decode cX7_tap 0 = .ok (.iload_n 1, 1) := by decide +kernel
theorem dX7_tap_1 : decode cX7_tap 1 = .ok (.ifCond .lt 19, 3) := by decide +kernel
theorem dX7_tap_4 : decode cX7_tap 4 = .ok (.iload_n 1, 1) := by decide +kernel
theorem dX7_tap_5 : decode cX7_tap 5 = .ok (.bipush 32, 2) := by decide +kernel
theorem dX7_tap_7 : decode cX7_tap 7 = .ok (.if_icmp .ge 13, 3) := by decide +kernel
theorem dX7_tap_10 : decode cX7_tap 10 = .ok (.iload_n 2, 1) := by decide +kernel
theorem dX7_tap_11 : decode cX7_tap 11 = .ok (.ifCond .lt 9, 3) := by decide +kernel
theorem dX7_tap_14 : decode cX7_tap 14 = .ok (.iload_n 2, 1) := by decide +kernel
theorem dX7_tap_15 : decode cX7_tap 15 = .ok (.bipush 16, 2) := by decide +kernel
theorem dX7_tap_17 : decode cX7_tap 17 = .ok (.if_icmp .lt 13, 3) := by decide +kernel
theorem dX7_tap_20 : decode cX7_tap 20 = .ok (.new 61, 3) := by decide +kernel
theorem dX7_tap_23 : decode cX7_tap 23 = .ok (.dup, 1) := by decide +kernel
theorem dX7_tap_24 : decode cX7_tap 24 = .ok (.ldc 206, 2) := by decide +kernel
theorem dX7_tap_26 : decode cX7_tap 26 = .ok (.invokespecial 65, 3) := by decide +kernel
theorem dX7_tap_29 : decode cX7_tap 29 = .ok (.athrow, 1) := by decide +kernel
theorem dX7_tap_30 : decode cX7_tap 30 = .ok (.aload_n 0, 1) := by decide +kernel
theorem dX7_tap_31 : decode cX7_tap 31 = .ok (.getfield 10, 3) := by decide +kernel
theorem dX7_tap_34 : decode cX7_tap 34 = .ok (.iload_n 1, 1) := by decide +kernel
theorem dX7_tap_35 : decode cX7_tap 35 = .ok (.iload_n 2, 1) := by decide +kernel
theorem dX7_tap_36 : decode cX7_tap 36 = .ok (.invokevirtual 208, 3) := by decide +kernel
theorem dX7_tap_39 : decode cX7_tap 39 = .ok (.ireturn, 1) := by decide +kernel
theorem dX7_requireClient_0 : decode cX7_requireClient 0 = .ok (.iload_n 1, 1) := by decide +kernel
theorem dX7_requireClient_1 : decode cX7_requireClient 1 = .ok (.ifCond .lt 18, 3) := by decide +kernel
theorem dX7_requireClient_4 : decode cX7_requireClient 4 = .ok (.iload_n 1, 1) := by decide +kernel
theorem dX7_requireClient_5 : decode cX7_requireClient 5 = .ok (.bipush 6, 2) := by decide +kernel
theorem dX7_requireClient_7 : decode cX7_requireClient 7 = .ok (.if_icmp .ge 12, 3) := by decide +kernel
theorem dX7_requireClient_10 : decode cX7_requireClient 10 = .ok (.aload_n 0, 1) := by decide +kernel
theorem dX7_requireClient_11 : decode cX7_requireClient 11 = .ok (.getfield 25, 3) := by decide +kernel
theorem dX7_requireClient_14 : decode cX7_requireClient 14 = .ok (.iload_n 1, 1) := by decide +kernel
theorem dX7_requireClient_15 : decode cX7_requireClient 15 = .ok (.aaload, 1) := by decide +kernel
theorem dX7_requireClient_16 : decode cX7_requireClient 16 = .ok (.ifnonnull 13, 3) := by decide +kernel
theorem dX7_requireClient_19 : decode cX7_requireClient 19 = .ok (.new 61, 3) := by decide +kernel
theorem dX7_requireClient_22 : decode cX7_requireClient 22 = .ok (.dup, 1) := by decide +kernel
theorem dX7_requireClient_23 : decode cX7_requireClient 23 = .ok (.ldc 212, 2) := by decide +kernel
theorem dX7_requireClient_25 : decode cX7_requireClient 25 = .ok (.invokespecial 65, 3) := by decide +kernel
theorem dX7_requireClient_28 : decode cX7_requireClient 28 = .ok (.athrow, 1) := by decide +kernel
theorem dX7_requireClient_29 : decode cX7_requireClient 29 = .ok (.aload_n 0, 1) := by decide +kernel
theorem dX7_requireClient_30 : decode cX7_requireClient 30 = .ok (.getfield 25, 3) := by decide +kernel
theorem dX7_requireClient_33 : decode cX7_requireClient 33 = .ok (.iload_n 1, 1) := by decide +kernel
theorem dX7_requireClient_34 : decode cX7_requireClient 34 = .ok (.aaload, 1) := by decide +kernel
theorem dX7_requireClient_35 : decode cX7_requireClient 35 = .ok (.areturn, 1) := by decide +kernel
theorem dX7_requirePlayer_0 : decode cX7_requirePlayer 0 = .ok (.aload_n 0, 1) := by decide +kernel
theorem dX7_requirePlayer_1 : decode cX7_requirePlayer 1 = .ok (.iload_n 1, 1) := by decide +kernel
theorem dX7_requirePlayer_2 : decode cX7_requirePlayer 2 = .ok (.invokevirtual 85, 3) := by decide +kernel
theorem dX7_requirePlayer_5 : decode cX7_requirePlayer 5 = .ok (.astore_n 3, 1) := by decide +kernel
theorem dX7_requirePlayer_6 : decode cX7_requirePlayer 6 = .ok (.aload_n 3, 1) := by decide +kernel
theorem dX7_requirePlayer_7 : decode cX7_requirePlayer 7 = .ok (.instanceof 77, 3) := by decide +kernel
theorem dX7_requirePlayer_10 : decode cX7_requirePlayer 10 = .ok (.ifCond .eq 10, 3) := by decide +kernel
theorem dX7_requirePlayer_13 : decode cX7_requirePlayer 13 = .ok (.aload_n 3, 1) := by decide +kernel
theorem dX7_requirePlayer_14 : decode cX7_requirePlayer 14 = .ok (.checkcast 77, 3) := by decide +kernel
theorem dX7_requirePlayer_17 : decode cX7_requirePlayer 17 = .ok (.astore_n 2, 1) := by decide +kernel
theorem dX7_requirePlayer_18 : decode cX7_requirePlayer 18 = .ok (.aload_n 2, 1) := by decide +kernel
theorem dX7_requirePlayer_19 : decode cX7_requirePlayer 19 = .ok (.areturn, 1) := by decide +kernel
theorem dX7_requirePlayer_20 : decode cX7_requirePlayer 20 = .ok (.new 61, 3) := by decide +kernel
theorem dX7_requirePlayer_23 : decode cX7_requirePlayer 23 = .ok (.dup, 1) := by decide +kernel
theorem dX7_requirePlayer_24 : decode cX7_requirePlayer 24 = .ok (.ldc 214, 2) := by decide +kernel
theorem dX7_requirePlayer_26 : decode cX7_requirePlayer 26 = .ok (.invokespecial 65, 3) := by decide +kernel
theorem dX7_requirePlayer_29 : decode cX7_requirePlayer 29 = .ok (.athrow, 1) := by decide +kernel
theorem dX7_requireListener_0 : decode cX7_requireListener 0 = .ok (.aload_n 0, 1) := by decide +kernel
theorem dX7_requireListener_1 : decode cX7_requireListener 1 = .ok (.iload_n 1, 1) := by decide +kernel
theorem dX7_requireListener_2 : decode cX7_requireListener 2 = .ok (.invokevirtual 85, 3) := by decide +kernel
theorem dX7_requireListener_5 : decode cX7_requireListener 5 = .ok (.astore_n 3, 1) := by decide +kernel
theorem dX7_requireListener_6 : decode cX7_requireListener 6 = .ok (.aload_n 3, 1) := by decide +kernel
theorem dX7_requireListener_7 : decode cX7_requireListener 7 = .ok (.instanceof 82, 3) := by decide +kernel
theorem dX7_requireListener_10 : decode cX7_requireListener 10 = .ok (.ifCond .eq 10, 3) := by decide +kernel
theorem dX7_requireListener_13 : decode cX7_requireListener 13 = .ok (.aload_n 3, 1) := by decide +kernel
theorem dX7_requireListener_14 : decode cX7_requireListener 14 = .ok (.checkcast 82, 3) := by decide +kernel
theorem dX7_requireListener_17 : decode cX7_requireListener 17 = .ok (.astore_n 2, 1) := by decide +kernel
theorem dX7_requireListener_18 : decode cX7_requireListener 18 = .ok (.aload_n 2, 1) := by decide +kernel
theorem dX7_requireListener_19 : decode cX7_requireListener 19 = .ok (.areturn, 1) := by decide +kernel
theorem dX7_requireListener_20 : decode cX7_requireListener 20 = .ok (.new 61, 3) := by decide +kernel
theorem dX7_requireListener_23 : decode cX7_requireListener 23 = .ok (.dup, 1) := by decide +kernel
theorem dX7_requireListener_24 : decode cX7_requireListener 24 = .ok (.ldc 216, 2) := by decide +kernel
theorem dX7_requireListener_26 : decode cX7_requireListener 26 = .ok (.invokespecial 65, 3) := by decide +kernel
theorem dX7_requireListener_29 : decode cX7_requireListener 29 = .ok (.athrow, 1) := by decide +kernel
theorem dX7_requireRunning_0 : decode cX7_requireRunning 0 = .ok (.aload_n 0, 1) := by decide +kernel
theorem dX7_requireRunning_1 : decode cX7_requireRunning 1 = .ok (.getfield 100, 3) := by decide +kernel
theorem dX7_requireRunning_4 : decode cX7_requireRunning 4 = .ok (.iconst 1, 1) := by decide +kernel
theorem dX7_requireRunning_5 : decode cX7_requireRunning 5 = .ok (.if_icmp .eq 13, 3) := by decide +kernel
theorem dX7_requireRunning_8 : decode cX7_requireRunning 8 = .ok (.new 72, 3) := by decide +kernel
theorem dX7_requireRunning_11 : decode cX7_requireRunning 11 = .ok (.dup, 1) := by decide +kernel
theorem dX7_requireRunning_12 : decode cX7_requireRunning 12 = .ok (.ldc 218, 2) := by decide +kernel
theorem dX7_requireRunning_14 : decode cX7_requireRunning 14 = .ok (.invokespecial 76, 3) := by decide +kernel
theorem dX7_requireRunning_17 : decode cX7_requireRunning 17 = .ok (.athrow, 1) := by decide +kernel
theorem dX7_requireRunning_18 : decode cX7_requireRunning 18 = .ok (.return_, 1) := by decide +kernel
theorem dX7_leastFree_0 : decode cX7_leastFree 0 = .ok (.iconst 0, 1) := by decide +kernel
theorem dX7_leastFree_1 : decode cX7_leastFree 1 = .ok (.istore_n 1, 1) := by decide +kernel
theorem dX7_leastFree_2 : decode cX7_leastFree 2 = .ok (.iload_n 1, 1) := by decide +kernel
theorem dX7_leastFree_3 : decode cX7_leastFree 3 = .ok (.bipush 6, 2) := by decide +kernel
theorem dX7_leastFree_5 : decode cX7_leastFree 5 = .ok (.if_icmp .ge 20, 3) := by decide +kernel
theorem dX7_leastFree_8 : decode cX7_leastFree 8 = .ok (.aload_n 0, 1) := by decide +kernel
theorem dX7_leastFree_9 : decode cX7_leastFree 9 = .ok (.getfield 25, 3) := by decide +kernel
theorem dX7_leastFree_12 : decode cX7_leastFree 12 = .ok (.iload_n 1, 1) := by decide +kernel
theorem dX7_leastFree_13 : decode cX7_leastFree 13 = .ok (.aaload, 1) := by decide +kernel
theorem dX7_leastFree_14 : decode cX7_leastFree 14 = .ok (.ifnonnull 5, 3) := by decide +kernel
theorem dX7_leastFree_17 : decode cX7_leastFree 17 = .ok (.iload_n 1, 1) := by decide +kernel
theorem dX7_leastFree_18 : decode cX7_leastFree 18 = .ok (.ireturn, 1) := by decide +kernel
theorem dX7_leastFree_19 : decode cX7_leastFree 19 = .ok (.iinc 1 1, 3) := by decide +kernel
theorem dX7_leastFree_22 : decode cX7_leastFree 22 = .ok (.goto (-20), 3) := by decide +kernel
theorem dX7_leastFree_25 : decode cX7_leastFree 25 = .ok (.iconst (-1), 1) := by decide +kernel
theorem dX7_leastFree_26 : decode cX7_leastFree 26 = .ok (.ireturn, 1) := by decide +kernel
theorem dX7_playOldest_0 : decode cX7_playOldest 0 = .ok (.aload_n 0, 1) := by decide +kernel
theorem dX7_playOldest_1 : decode cX7_playOldest 1 = .ok (.getfield 31, 3) := by decide +kernel
theorem dX7_playOldest_4 : decode cX7_playOldest 4 = .ok (.aload_n 0, 1) := by decide +kernel
theorem dX7_playOldest_5 : decode cX7_playOldest 5 = .ok (.getfield 34, 3) := by decide +kernel
theorem dX7_playOldest_8 : decode cX7_playOldest 8 = .ok (.aaload, 1) := by decide +kernel
theorem dX7_playOldest_9 : decode cX7_playOldest 9 = .ok (.iconst 0, 1) := by decide +kernel
theorem dX7_playOldest_10 : decode cX7_playOldest 10 = .ok (.aload_n 0, 1) := by decide +kernel
theorem dX7_playOldest_11 : decode cX7_playOldest 11 = .ok (.getfield 41, 3) := by decide +kernel
theorem dX7_playOldest_14 : decode cX7_playOldest 14 = .ok (.aload_n 0, 1) := by decide +kernel
theorem dX7_playOldest_15 : decode cX7_playOldest 15 = .ok (.getfield 44, 3) := by decide +kernel
theorem dX7_playOldest_18 : decode cX7_playOldest 18 = .ok (.aaload, 1) := by decide +kernel
theorem dX7_playOldest_19 : decode cX7_playOldest 19 = .ok (.iconst 0, 1) := by decide +kernel
theorem dX7_playOldest_20 : decode cX7_playOldest 20 = .ok (.bipush 48, 2) := by decide +kernel
theorem dX7_playOldest_22 : decode cX7_playOldest 22 = .ok (.invokestatic 220, 3) := by decide +kernel
theorem dX7_playOldest_25 : decode cX7_playOldest 25 = .ok (.iconst 0, 1) := by decide +kernel
theorem dX7_playOldest_26 : decode cX7_playOldest 26 = .ok (.istore_n 1, 1) := by decide +kernel
theorem dX7_playOldest_27 : decode cX7_playOldest 27 = .ok (.iload_n 1, 1) := by decide +kernel
theorem dX7_playOldest_28 : decode cX7_playOldest 28 = .ok (.bipush 6, 2) := by decide +kernel
theorem dX7_playOldest_30 : decode cX7_playOldest 30 = .ok (.if_icmp .ge 36, 3) := by decide +kernel
theorem dX7_playOldest_33 : decode cX7_playOldest 33 = .ok (.aload_n 0, 1) := by decide +kernel
theorem dX7_playOldest_34 : decode cX7_playOldest 34 = .ok (.getfield 25, 3) := by decide +kernel
theorem dX7_playOldest_37 : decode cX7_playOldest 37 = .ok (.iload_n 1, 1) := by decide +kernel
theorem dX7_playOldest_38 : decode cX7_playOldest 38 = .ok (.aaload, 1) := by decide +kernel
theorem dX7_playOldest_39 : decode cX7_playOldest 39 = .ok (.astore_n 3, 1) := by decide +kernel
theorem dX7_playOldest_40 : decode cX7_playOldest 40 = .ok (.aload_n 3, 1) := by decide +kernel
theorem dX7_playOldest_41 : decode cX7_playOldest 41 = .ok (.instanceof 77, 3) := by decide +kernel
theorem dX7_playOldest_44 : decode cX7_playOldest 44 = .ok (.ifCond .eq 16, 3) := by decide +kernel
theorem dX7_playOldest_47 : decode cX7_playOldest 47 = .ok (.aload_n 3, 1) := by decide +kernel
theorem dX7_playOldest_48 : decode cX7_playOldest 48 = .ok (.checkcast 77, 3) := by decide +kernel
theorem dX7_playOldest_51 : decode cX7_playOldest 51 = .ok (.astore_n 2, 1) := by decide +kernel
theorem dX7_playOldest_52 : decode cX7_playOldest 52 = .ok (.aload_n 2, 1) := by decide +kernel
theorem dX7_playOldest_53 : decode cX7_playOldest 53 = .ok (.aload_n 0, 1) := by decide +kernel
theorem dX7_playOldest_54 : decode cX7_playOldest 54 = .ok (.getfield 34, 3) := by decide +kernel
theorem dX7_playOldest_57 : decode cX7_playOldest 57 = .ok (.invokevirtual 226, 3) := by decide +kernel
theorem dX7_playOldest_60 : decode cX7_playOldest 60 = .ok (.iinc 1 1, 3) := by decide +kernel
theorem dX7_playOldest_63 : decode cX7_playOldest 63 = .ok (.goto (-36), 3) := by decide +kernel
theorem dX7_playOldest_66 : decode cX7_playOldest 66 = .ok (.aload_n 0, 1) := by decide +kernel
theorem dX7_playOldest_67 : decode cX7_playOldest 67 = .ok (.aload_n 0, 1) := by decide +kernel
theorem dX7_playOldest_68 : decode cX7_playOldest 68 = .ok (.getfield 34, 3) := by decide +kernel
theorem dX7_playOldest_71 : decode cX7_playOldest 71 = .ok (.iconst 1, 1) := by decide +kernel
theorem dX7_playOldest_72 : decode cX7_playOldest 72 = .ok (.iadd, 1) := by decide +kernel
theorem dX7_playOldest_73 : decode cX7_playOldest 73 = .ok (.invokestatic 144, 3) := by decide +kernel
theorem dX7_playOldest_76 : decode cX7_playOldest 76 = .ok (.putfield 34, 3) := by decide +kernel
theorem dX7_playOldest_79 : decode cX7_playOldest 79 = .ok (.aload_n 0, 1) := by decide +kernel
theorem dX7_playOldest_80 : decode cX7_playOldest 80 = .ok (.dup, 1) := by decide +kernel
theorem dX7_playOldest_81 : decode cX7_playOldest 81 = .ok (.getfield 38, 3) := by decide +kernel
theorem dX7_playOldest_84 : decode cX7_playOldest 84 = .ok (.iconst 1, 1) := by decide +kernel
theorem dX7_playOldest_85 : decode cX7_playOldest 85 = .ok (.isub, 1) := by decide +kernel
theorem dX7_playOldest_86 : decode cX7_playOldest 86 = .ok (.putfield 38, 3) := by decide +kernel
theorem dX7_playOldest_89 : decode cX7_playOldest 89 = .ok (.return_, 1) := by decide +kernel
theorem dX7_captureIncoming_0 : decode cX7_captureIncoming 0 = .ok (.iconst 0, 1) := by decide +kernel
theorem dX7_captureIncoming_1 : decode cX7_captureIncoming 1 = .ok (.istore_n 1, 1) := by decide +kernel
theorem dX7_captureIncoming_2 : decode cX7_captureIncoming 2 = .ok (.iload_n 1, 1) := by decide +kernel
theorem dX7_captureIncoming_3 : decode cX7_captureIncoming 3 = .ok (.bipush 6, 2) := by decide +kernel
theorem dX7_captureIncoming_5 : decode cX7_captureIncoming 5 = .ok (.if_icmp .ge 44, 3) := by decide +kernel
theorem dX7_captureIncoming_8 : decode cX7_captureIncoming 8 = .ok (.aload_n 0, 1) := by decide +kernel
theorem dX7_captureIncoming_9 : decode cX7_captureIncoming 9 = .ok (.getfield 25, 3) := by decide +kernel
theorem dX7_captureIncoming_12 : decode cX7_captureIncoming 12 = .ok (.iload_n 1, 1) := by decide +kernel
theorem dX7_captureIncoming_13 : decode cX7_captureIncoming 13 = .ok (.aaload, 1) := by decide +kernel
theorem dX7_captureIncoming_14 : decode cX7_captureIncoming 14 = .ok (.astore_n 3, 1) := by decide +kernel
theorem dX7_captureIncoming_15 : decode cX7_captureIncoming 15 = .ok (.aload_n 3, 1) := by decide +kernel
theorem dX7_captureIncoming_16 : decode cX7_captureIncoming 16 = .ok (.instanceof 82, 3) := by decide +kernel
theorem dX7_captureIncoming_19 : decode cX7_captureIncoming 19 = .ok (.ifCond .eq 24, 3) := by decide +kernel
theorem dX7_captureIncoming_22 : decode cX7_captureIncoming 22 = .ok (.aload_n 3, 1) := by decide +kernel
theorem dX7_captureIncoming_23 : decode cX7_captureIncoming 23 = .ok (.checkcast 82, 3) := by decide +kernel
theorem dX7_captureIncoming_26 : decode cX7_captureIncoming 26 = .ok (.astore_n 2, 1) := by decide +kernel
theorem dX7_captureIncoming_27 : decode cX7_captureIncoming 27 = .ok (.aload_n 2, 1) := by decide +kernel
theorem dX7_captureIncoming_28 : decode cX7_captureIncoming 28 = .ok (.getfield 230, 3) := by decide +kernel
theorem dX7_captureIncoming_31 : decode cX7_captureIncoming 31 = .ok (.iconst 1, 1) := by decide +kernel
theorem dX7_captureIncoming_32 : decode cX7_captureIncoming 32 = .ok (.if_icmp .ne 11, 3) := by decide +kernel
theorem dX7_captureIncoming_35 : decode cX7_captureIncoming 35 = .ok (.aload_n 2, 1) := by decide +kernel
theorem dX7_captureIncoming_36 : decode cX7_captureIncoming 36 = .ok (.aload_n 0, 1) := by decide +kernel
theorem dX7_captureIncoming_37 : decode cX7_captureIncoming 37 = .ok (.getfield 47, 3) := by decide +kernel
theorem dX7_captureIncoming_40 : decode cX7_captureIncoming 40 = .ok (.invokevirtual 231, 3) := by decide +kernel
theorem dX7_captureIncoming_43 : decode cX7_captureIncoming 43 = .ok (.iinc 1 1, 3) := by decide +kernel
theorem dX7_captureIncoming_46 : decode cX7_captureIncoming 46 = .ok (.goto (-44), 3) := by decide +kernel
theorem dX7_captureIncoming_49 : decode cX7_captureIncoming 49 = .ok (.aload_n 0, 1) := by decide +kernel
theorem dX7_captureIncoming_50 : decode cX7_captureIncoming 50 = .ok (.getfield 47, 3) := by decide +kernel
theorem dX7_captureIncoming_53 : decode cX7_captureIncoming 53 = .ok (.iconst 0, 1) := by decide +kernel
theorem dX7_captureIncoming_54 : decode cX7_captureIncoming 54 = .ok (.invokestatic 148, 3) := by decide +kernel
theorem dX7_captureIncoming_57 : decode cX7_captureIncoming 57 = .ok (.return_, 1) := by decide +kernel
theorem dX7_isRate_0 : decode cX7_isRate 0 = .ok (.getstatic 235, 3) := by decide +kernel
theorem dX7_isRate_3 : decode cX7_isRate 3 = .ok (.astore_n 1, 1) := by decide +kernel
theorem dX7_isRate_4 : decode cX7_isRate 4 = .ok (.aload_n 1, 1) := by decide +kernel
theorem dX7_isRate_5 : decode cX7_isRate 5 = .ok (.arraylength, 1) := by decide +kernel
theorem dX7_isRate_6 : decode cX7_isRate 6 = .ok (.istore_n 2, 1) := by decide +kernel
theorem dX7_isRate_7 : decode cX7_isRate 7 = .ok (.iconst 0, 1) := by decide +kernel
theorem dX7_isRate_8 : decode cX7_isRate 8 = .ok (.istore_n 3, 1) := by decide +kernel
theorem dX7_isRate_9 : decode cX7_isRate 9 = .ok (.iload_n 3, 1) := by decide +kernel
theorem dX7_isRate_10 : decode cX7_isRate 10 = .ok (.iload_n 2, 1) := by decide +kernel
theorem dX7_isRate_11 : decode cX7_isRate 11 = .ok (.if_icmp .ge 22, 3) := by decide +kernel
theorem dX7_isRate_14 : decode cX7_isRate 14 = .ok (.aload_n 1, 1) := by decide +kernel
theorem dX7_isRate_15 : decode cX7_isRate 15 = .ok (.iload_n 3, 1) := by decide +kernel
theorem dX7_isRate_16 : decode cX7_isRate 16 = .ok (.iaload, 1) := by decide +kernel
theorem dX7_isRate_17 : decode cX7_isRate 17 = .ok (.istore 4, 2) := by decide +kernel
theorem dX7_isRate_19 : decode cX7_isRate 19 = .ok (.iload 4, 2) := by decide +kernel
theorem dX7_isRate_21 : decode cX7_isRate 21 = .ok (.iload_n 0, 1) := by decide +kernel
theorem dX7_isRate_22 : decode cX7_isRate 22 = .ok (.if_icmp .ne 5, 3) := by decide +kernel
theorem dX7_isRate_25 : decode cX7_isRate 25 = .ok (.iconst 1, 1) := by decide +kernel
theorem dX7_isRate_26 : decode cX7_isRate 26 = .ok (.ireturn, 1) := by decide +kernel
theorem dX7_isRate_27 : decode cX7_isRate 27 = .ok (.iinc 3 1, 3) := by decide +kernel
theorem dX7_isRate_30 : decode cX7_isRate 30 = .ok (.goto (-21), 3) := by decide +kernel
theorem dX7_isRate_33 : decode cX7_isRate 33 = .ok (.iconst 0, 1) := by decide +kernel
theorem dX7_isRate_34 : decode cX7_isRate 34 = .ok (.ireturn, 1) := by decide +kernel
theorem dX7_isFrame_0 : decode cX7_isFrame 0 = .ok (.iload_n 0, 1) := by decide +kernel
theorem dX7_isFrame_1 : decode cX7_isFrame 1 = .ok (.ifCond .lt 13, 3) := by decide +kernel
theorem dX7_isFrame_4 : decode cX7_isFrame 4 = .ok (.iload_n 0, 1) := by decide +kernel
theorem dX7_isFrame_5 : decode cX7_isFrame 5 = .ok (.bipush 24, 2) := by decide +kernel
theorem dX7_isFrame_7 : decode cX7_isFrame 7 = .ok (.if_icmp .ge 7, 3) := by decide +kernel
theorem dX7_isFrame_10 : decode cX7_isFrame 10 = .ok (.iconst 1, 1) := by decide +kernel
theorem dX7_isFrame_11 : decode cX7_isFrame 11 = .ok (.goto 4, 3) := by decide +kernel
theorem dX7_isFrame_14 : decode cX7_isFrame 14 = .ok (.iconst 0, 1) := by decide +kernel
theorem dX7_isFrame_15 : decode cX7_isFrame 15 = .ok (.ireturn, 1) := by decide +kernel
theorem dX7_isSample_0 : decode cX7_isSample 0 = .ok (.iload_n 0, 1) := by decide +kernel
theorem dX7_isSample_1 : decode cX7_isSample 1 = .ok (.sipush (-32768), 3) := by decide +kernel
theorem dX7_isSample_4 : decode cX7_isSample 4 = .ok (.if_icmp .lt 14, 3) := by decide +kernel
theorem dX7_isSample_7 : decode cX7_isSample 7 = .ok (.iload_n 0, 1) := by decide +kernel
theorem dX7_isSample_8 : decode cX7_isSample 8 = .ok (.sipush 32767, 3) := by decide +kernel
theorem dX7_isSample_11 : decode cX7_isSample 11 = .ok (.if_icmp .gt 7, 3) := by decide +kernel
theorem dX7_isSample_14 : decode cX7_isSample 14 = .ok (.iconst 1, 1) := by decide +kernel
theorem dX7_isSample_15 : decode cX7_isSample 15 = .ok (.goto 4, 3) := by decide +kernel
theorem dX7_isSample_18 : decode cX7_isSample 18 = .ok (.iconst 0, 1) := by decide +kernel
theorem dX7_isSample_19 : decode cX7_isSample 19 = .ok (.ireturn, 1) := by decide +kernel
theorem dX7_sampleIndex_0 : decode cX7_sampleIndex 0 = .ok (.iconst 2, 1) := by decide +kernel
theorem dX7_sampleIndex_1 : decode cX7_sampleIndex 1 = .ok (.iload_n 0, 1) := by decide +kernel
theorem dX7_sampleIndex_2 : decode cX7_sampleIndex 2 = .ok (.imul, 1) := by decide +kernel
theorem dX7_sampleIndex_3 : decode cX7_sampleIndex 3 = .ok (.iload_n 1, 1) := by decide +kernel
theorem dX7_sampleIndex_4 : decode cX7_sampleIndex 4 = .ok (.ifCond .eq 7, 3) := by decide +kernel
theorem dX7_sampleIndex_7 : decode cX7_sampleIndex 7 = .ok (.iconst 1, 1) := by decide +kernel
theorem dX7_sampleIndex_8 : decode cX7_sampleIndex 8 = .ok (.goto 4, 3) := by decide +kernel
theorem dX7_sampleIndex_11 : decode cX7_sampleIndex 11 = .ok (.iconst 0, 1) := by decide +kernel
theorem dX7_sampleIndex_12 : decode cX7_sampleIndex 12 = .ok (.iadd, 1) := by decide +kernel
theorem dX7_sampleIndex_13 : decode cX7_sampleIndex 13 = .ok (.ireturn, 1) := by decide +kernel
theorem dX7_slotOf_0 : decode cX7_slotOf 0 = .ok (.iload_n 0, 1) := by decide +kernel
theorem dX7_slotOf_1 : decode cX7_slotOf 1 = .ok (.iconst 4, 1) := by decide +kernel
theorem dX7_slotOf_2 : decode cX7_slotOf 2 = .ok (.invokestatic 238, 3) := by decide +kernel
theorem dX7_slotOf_5 : decode cX7_slotOf 5 = .ok (.ireturn, 1) := by decide +kernel
theorem dX8_init_0 : decode cX8_init 0 = .ok (.aload_n 0, 1) := by decide +kernel
theorem dX8_init_1 : decode cX8_init 1 = .ok (.invokespecial 1, 3) := by decide +kernel
theorem dX8_init_4 : decode cX8_init 4 = .ok (.aload_n 0, 1) := by decide +kernel
theorem dX8_init_5 : decode cX8_init 5 = .ok (.sipush 512, 3) := by decide +kernel
theorem dX8_init_8 : decode cX8_init 8 = .ok (.newarray .int, 2) := by decide +kernel
theorem dX8_init_10 : decode cX8_init 10 = .ok (.putfield 7, 3) := by decide +kernel
theorem dX8_init_13 : decode cX8_init 13 = .ok (.aload_n 0, 1) := by decide +kernel
theorem dX8_init_14 : decode cX8_init 14 = .ok (.bipush 6, 2) := by decide +kernel
theorem dX8_init_16 : decode cX8_init 16 = .ok (.newarray .boolean, 2) := by decide +kernel
theorem dX8_init_18 : decode cX8_init 18 = .ok (.putfield 13, 3) := by decide +kernel
theorem dX8_init_21 : decode cX8_init 21 = .ok (.aload_n 0, 1) := by decide +kernel
theorem dX8_init_22 : decode cX8_init 22 = .ok (.bipush 6, 2) := by decide +kernel
theorem dX8_init_24 : decode cX8_init 24 = .ok (.newarray .boolean, 2) := by decide +kernel
theorem dX8_init_26 : decode cX8_init 26 = .ok (.putfield 17, 3) := by decide +kernel
theorem dX8_init_29 : decode cX8_init 29 = .ok (.aload_n 0, 1) := by decide +kernel
theorem dX8_init_30 : decode cX8_init 30 = .ok (.bipush 6, 2) := by decide +kernel
theorem dX8_init_32 : decode cX8_init 32 = .ok (.newarray .int, 2) := by decide +kernel
theorem dX8_init_34 : decode cX8_init 34 = .ok (.putfield 20, 3) := by decide +kernel
theorem dX8_init_37 : decode cX8_init 37 = .ok (.aload_n 0, 1) := by decide +kernel
theorem dX8_init_38 : decode cX8_init 38 = .ok (.bipush 6, 2) := by decide +kernel
theorem dX8_init_40 : decode cX8_init 40 = .ok (.newarray .int, 2) := by decide +kernel
theorem dX8_init_42 : decode cX8_init 42 = .ok (.putfield 23, 3) := by decide +kernel
theorem dX8_init_45 : decode cX8_init 45 = .ok (.aload_n 0, 1) := by decide +kernel
theorem dX8_init_46 : decode cX8_init 46 = .ok (.bipush 6, 2) := by decide +kernel
theorem dX8_init_48 : decode cX8_init 48 = .ok (.newarray .int, 2) := by decide +kernel
theorem dX8_init_50 : decode cX8_init 50 = .ok (.putfield 26, 3) := by decide +kernel
theorem dX8_init_53 : decode cX8_init 53 = .ok (.aload_n 0, 1) := by decide +kernel
theorem dX8_init_54 : decode cX8_init 54 = .ok (.bipush 6, 2) := by decide +kernel
theorem dX8_init_56 : decode cX8_init 56 = .ok (.newarray .int, 2) := by decide +kernel
theorem dX8_init_58 : decode cX8_init 58 = .ok (.putfield 29, 3) := by decide +kernel
theorem dX8_init_61 : decode cX8_init 61 = .ok (.aload_n 0, 1) := by decide +kernel
theorem dX8_init_62 : decode cX8_init 62 = .ok (.bipush 6, 2) := by decide +kernel
theorem dX8_init_64 : decode cX8_init 64 = .ok (.newarray .int, 2) := by decide +kernel
theorem dX8_init_66 : decode cX8_init 66 = .ok (.putfield 32, 3) := by decide +kernel
theorem dX8_init_69 : decode cX8_init 69 = .ok (.aload_n 0, 1) := by decide +kernel
theorem dX8_init_70 : decode cX8_init 70 = .ok (.bipush 6, 2) := by decide +kernel
theorem dX8_init_72 : decode cX8_init 72 = .ok (.newarray .int, 2) := by decide +kernel
theorem dX8_init_74 : decode cX8_init 74 = .ok (.putfield 35, 3) := by decide +kernel
theorem dX8_init_77 : decode cX8_init 77 = .ok (.aload_n 0, 1) := by decide +kernel
theorem dX8_init_78 : decode cX8_init 78 = .ok (.bipush 6, 2) := by decide +kernel
theorem dX8_init_80 : decode cX8_init 80 = .ok (.newarray .int, 2) := by decide +kernel
theorem dX8_init_82 : decode cX8_init 82 = .ok (.putfield 38, 3) := by decide +kernel
theorem dX8_init_85 : decode cX8_init 85 = .ok (.aload_n 0, 1) := by decide +kernel
theorem dX8_init_86 : decode cX8_init 86 = .ok (.ldc 41, 2) := by decide +kernel
theorem dX8_init_88 : decode cX8_init 88 = .ok (.newarray .int, 2) := by decide +kernel
theorem dX8_init_90 : decode cX8_init 90 = .ok (.putfield 42, 3) := by decide +kernel
theorem dX8_init_93 : decode cX8_init 93 = .ok (.aload_n 0, 1) := by decide +kernel
theorem dX8_init_94 : decode cX8_init 94 = .ok (.ldc 41, 2) := by decide +kernel
theorem dX8_init_96 : decode cX8_init 96 = .ok (.newarray .int, 2) := by decide +kernel
theorem dX8_init_98 : decode cX8_init 98 = .ok (.putfield 45, 3) := by decide +kernel
theorem dX8_init_101 : decode cX8_init 101 = .ok (.aload_n 0, 1) := by decide +kernel
theorem dX8_init_102 : decode cX8_init 102 = .ok (.bipush 6, 2) := by decide +kernel
theorem dX8_init_104 : decode cX8_init 104 = .ok (.newarray .boolean, 2) := by decide +kernel
theorem dX8_init_106 : decode cX8_init 106 = .ok (.putfield 48, 3) := by decide +kernel
theorem dX8_init_109 : decode cX8_init 109 = .ok (.aload_n 0, 1) := by decide +kernel
theorem dX8_init_110 : decode cX8_init 110 = .ok (.bipush 6, 2) := by decide +kernel
theorem dX8_init_112 : decode cX8_init 112 = .ok (.newarray .int, 2) := by decide +kernel
theorem dX8_init_114 : decode cX8_init 114 = .ok (.putfield 51, 3) := by decide +kernel
theorem dX8_init_117 : decode cX8_init 117 = .ok (.aload_n 0, 1) := by decide +kernel
theorem dX8_init_118 : decode cX8_init 118 = .ok (.bipush 6, 2) := by decide +kernel
theorem dX8_init_120 : decode cX8_init 120 = .ok (.newarray .int, 2) := by decide +kernel
theorem dX8_init_122 : decode cX8_init 122 = .ok (.putfield 54, 3) := by decide +kernel
theorem dX8_init_125 : decode cX8_init 125 = .ok (.aload_n 0, 1) := by decide +kernel
theorem dX8_init_126 : decode cX8_init 126 = .ok (.bipush 6, 2) := by decide +kernel
theorem dX8_init_128 : decode cX8_init 128 = .ok (.newarray .int, 2) := by decide +kernel
theorem dX8_init_130 : decode cX8_init 130 = .ok (.putfield 57, 3) := by decide +kernel
theorem dX8_init_133 : decode cX8_init 133 = .ok (.aload_n 0, 1) := by decide +kernel
theorem dX8_init_134 : decode cX8_init 134 = .ok (.bipush 6, 2) := by decide +kernel
theorem dX8_init_136 : decode cX8_init 136 = .ok (.newarray .int, 2) := by decide +kernel
theorem dX8_init_138 : decode cX8_init 138 = .ok (.putfield 60, 3) := by decide +kernel
theorem dX8_init_141 : decode cX8_init 141 = .ok (.aload_n 0, 1) := by decide +kernel
theorem dX8_init_142 : decode cX8_init 142 = .ok (.bipush 6, 2) := by decide +kernel
theorem dX8_init_144 : decode cX8_init 144 = .ok (.newarray .int, 2) := by decide +kernel
theorem dX8_init_146 : decode cX8_init 146 = .ok (.putfield 63, 3) := by decide +kernel
theorem dX8_init_149 : decode cX8_init 149 = .ok (.aload_n 0, 1) := by decide +kernel
theorem dX8_init_150 : decode cX8_init 150 = .ok (.bipush 6, 2) := by decide +kernel
theorem dX8_init_152 : decode cX8_init 152 = .ok (.newarray .double, 2) := by decide +kernel
theorem dX8_init_154 : decode cX8_init 154 = .ok (.putfield 66, 3) := by decide +kernel
theorem dX8_init_157 : decode cX8_init 157 = .ok (.aload_n 0, 1) := by decide +kernel
theorem dX8_init_158 : decode cX8_init 158 = .ok (.bipush 6, 2) := by decide +kernel
theorem dX8_init_160 : decode cX8_init 160 = .ok (.newarray .int, 2) := by decide +kernel
theorem dX8_init_162 : decode cX8_init 162 = .ok (.putfield 70, 3) := by decide +kernel
theorem dX8_init_165 : decode cX8_init 165 = .ok (.aload_n 0, 1) := by decide +kernel
theorem dX8_init_166 : decode cX8_init 166 = .ok (.bipush 6, 2) := by decide +kernel
theorem dX8_init_168 : decode cX8_init 168 = .ok (.newarray .int, 2) := by decide +kernel
theorem dX8_init_170 : decode cX8_init 170 = .ok (.putfield 73, 3) := by decide +kernel
theorem dX8_init_173 : decode cX8_init 173 = .ok (.aload_n 0, 1) := by decide +kernel
theorem dX8_init_174 : decode cX8_init 174 = .ok (.ldc 41, 2) := by decide +kernel
theorem dX8_init_176 : decode cX8_init 176 = .ok (.newarray .int, 2) := by decide +kernel
theorem dX8_init_178 : decode cX8_init 178 = .ok (.putfield 76, 3) := by decide +kernel
theorem dX8_init_181 : decode cX8_init 181 = .ok (.aload_n 0, 1) := by decide +kernel
theorem dX8_init_182 : decode cX8_init 182 = .ok (.bipush 6, 2) := by decide +kernel
theorem dX8_init_184 : decode cX8_init 184 = .ok (.newarray .int, 2) := by decide +kernel
theorem dX8_init_186 : decode cX8_init 186 = .ok (.putfield 79, 3) := by decide +kernel
theorem dX8_init_189 : decode cX8_init 189 = .ok (.aload_n 0, 1) := by decide +kernel
theorem dX8_init_190 : decode cX8_init 190 = .ok (.bipush 96, 2) := by decide +kernel
theorem dX8_init_192 : decode cX8_init 192 = .ok (.newarray .int, 2) := by decide +kernel
theorem dX8_init_194 : decode cX8_init 194 = .ok (.putfield 82, 3) := by decide +kernel
theorem dX8_init_197 : decode cX8_init 197 = .ok (.aload_n 0, 1) := by decide +kernel
theorem dX8_init_198 : decode cX8_init 198 = .ok (.bipush 96, 2) := by decide +kernel
theorem dX8_init_200 : decode cX8_init 200 = .ok (.newarray .int, 2) := by decide +kernel
theorem dX8_init_202 : decode cX8_init 202 = .ok (.putfield 85, 3) := by decide +kernel
theorem dX8_init_205 : decode cX8_init 205 = .ok (.aload_n 0, 1) := by decide +kernel
theorem dX8_init_206 : decode cX8_init 206 = .ok (.bipush 24, 2) := by decide +kernel
theorem dX8_init_208 : decode cX8_init 208 = .ok (.newarray .int, 2) := by decide +kernel
theorem dX8_init_210 : decode cX8_init 210 = .ok (.putfield 88, 3) := by decide +kernel
theorem dX8_init_213 : decode cX8_init 213 = .ok (.aload_n 0, 1) := by decide +kernel
theorem dX8_init_214 : decode cX8_init 214 = .ok (.bipush 96, 2) := by decide +kernel
theorem dX8_init_216 : decode cX8_init 216 = .ok (.newarray .int, 2) := by decide +kernel
theorem dX8_init_218 : decode cX8_init 218 = .ok (.putfield 91, 3) := by decide +kernel
theorem dX8_init_221 : decode cX8_init 221 = .ok (.aload_n 0, 1) := by decide +kernel
theorem dX8_init_222 : decode cX8_init 222 = .ok (.bipush 96, 2) := by decide +kernel
theorem dX8_init_224 : decode cX8_init 224 = .ok (.newarray .int, 2) := by decide +kernel
theorem dX8_init_226 : decode cX8_init 226 = .ok (.putfield 94, 3) := by decide +kernel
theorem dX8_init_229 : decode cX8_init 229 = .ok (.aload_n 0, 1) := by decide +kernel
theorem dX8_init_230 : decode cX8_init 230 = .ok (.bipush 24, 2) := by decide +kernel
theorem dX8_init_232 : decode cX8_init 232 = .ok (.newarray .int, 2) := by decide +kernel
theorem dX8_init_234 : decode cX8_init 234 = .ok (.putfield 97, 3) := by decide +kernel
theorem dX8_init_237 : decode cX8_init 237 = .ok (.aload_n 0, 1) := by decide +kernel
theorem dX8_init_238 : decode cX8_init 238 = .ok (.bipush 24, 2) := by decide +kernel
theorem dX8_init_240 : decode cX8_init 240 = .ok (.newarray .int, 2) := by decide +kernel
theorem dX8_init_242 : decode cX8_init 242 = .ok (.putfield 100, 3) := by decide +kernel
theorem dX8_init_245 : decode cX8_init 245 = .ok (.aload_n 0, 1) := by decide +kernel
theorem dX8_init_246 : decode cX8_init 246 = .ok (.iconst 1, 1) := by decide +kernel
theorem dX8_init_247 : decode cX8_init 247 = .ok (.putfield 103, 3) := by decide +kernel
theorem dX8_init_250 : decode cX8_init 250 = .ok (.aload_n 0, 1) := by decide +kernel
theorem dX8_init_251 : decode cX8_init 251 = .ok (.sipush 4096, 3) := by decide +kernel
theorem dX8_init_254 : decode cX8_init 254 = .ok (.putfield 107, 3) := by decide +kernel
theorem dX8_init_257 : decode cX8_init 257 = .ok (.aload_n 0, 1) := by decide +kernel
theorem dX8_init_258 : decode cX8_init 258 = .ok (.bipush 24, 2) := by decide +kernel
theorem dX8_init_260 : decode cX8_init 260 = .ok (.newarray .int, 2) := by decide +kernel
theorem dX8_init_262 : decode cX8_init 262 = .ok (.putfield 111, 3) := by decide +kernel
theorem dX8_init_265 : decode cX8_init 265 = .ok (.aload_n 0, 1) := by decide +kernel
theorem dX8_init_266 : decode cX8_init 266 = .ok (.bipush 24, 2) := by decide +kernel
theorem dX8_init_268 : decode cX8_init 268 = .ok (.newarray .int, 2) := by decide +kernel
theorem dX8_init_270 : decode cX8_init 270 = .ok (.putfield 114, 3) := by decide +kernel
theorem dX8_init_273 : decode cX8_init 273 = .ok (.aload_n 0, 1) := by decide +kernel
theorem dX8_init_274 : decode cX8_init 274 = .ok (.bipush 24, 2) := by decide +kernel
theorem dX8_init_276 : decode cX8_init 276 = .ok (.newarray .int, 2) := by decide +kernel
theorem dX8_init_278 : decode cX8_init 278 = .ok (.putfield 117, 3) := by decide +kernel
theorem dX8_init_281 : decode cX8_init 281 = .ok (.aload_n 0, 1) := by decide +kernel
theorem dX8_init_282 : decode cX8_init 282 = .ok (.bipush 24, 2) := by decide +kernel
theorem dX8_init_284 : decode cX8_init 284 = .ok (.newarray .int, 2) := by decide +kernel
theorem dX8_init_286 : decode cX8_init 286 = .ok (.putfield 120, 3) := by decide +kernel
theorem dX8_init_289 : decode cX8_init 289 = .ok (.iconst 0, 1) := by decide +kernel
theorem dX8_init_290 : decode cX8_init 290 = .ok (.istore_n 1, 1) := by decide +kernel
theorem dX8_init_291 : decode cX8_init 291 = .ok (.iload_n 1, 1) := by decide +kernel
theorem dX8_init_292 : decode cX8_init 292 = .ok (.bipush 32, 2) := by decide +kernel
theorem dX8_init_294 : decode cX8_init 294 = .ok (.if_icmp .ge 135, 3) := by decide +kernel
theorem dX8_init_297 : decode cX8_init 297 = .ok (.iconst 0, 1) := by decide +kernel
theorem dX8_init_298 : decode cX8_init 298 = .ok (.istore_n 2, 1) := by decide +kernel
theorem dX8_init_299 : decode cX8_init 299 = .ok (.iconst 0, 1) := by decide +kernel
theorem dX8_init_300 : decode cX8_init 300 = .ok (.istore_n 3, 1) := by decide +kernel
theorem dX8_init_301 : decode cX8_init 301 = .ok (.iload_n 3, 1) := by decide +kernel
theorem dX8_init_302 : decode cX8_init 302 = .ok (.bipush 16, 2) := by decide +kernel
theorem dX8_init_304 : decode cX8_init 304 = .ok (.if_icmp .ge 17, 3) := by decide +kernel
theorem dX8_init_307 : decode cX8_init 307 = .ok (.iload_n 2, 1) := by decide +kernel
theorem dX8_init_308 : decode cX8_init 308 = .ok (.iload_n 1, 1) := by decide +kernel
theorem dX8_init_309 : decode cX8_init 309 = .ok (.iload_n 3, 1) := by decide +kernel
theorem dX8_init_310 : decode cX8_init 310 = .ok (.invokestatic 123, 3) := by decide +kernel
theorem dX8_init_313 : decode cX8_init 313 = .ok (.iadd, 1) := by decide +kernel
theorem dX8_init_314 : decode cX8_init 314 = .ok (.istore_n 2, 1) := by decide +kernel
theorem dX8_init_315 : decode cX8_init 315 = .ok (.iinc 3 1, 3) := by decide +kernel
theorem dX8_init_318 : decode cX8_init 318 = .ok (.goto (-17), 3) := by decide +kernel
theorem dX8_init_321 : decode cX8_init 321 = .ok (.iconst 0, 1) := by decide +kernel
theorem dX8_init_322 : decode cX8_init 322 = .ok (.istore_n 3, 1) := by decide +kernel
theorem dX8_init_323 : decode cX8_init 323 = .ok (.iconst 0, 1) := by decide +kernel
theorem dX8_init_324 : decode cX8_init 324 = .ok (.istore 4, 2) := by decide +kernel
theorem dX8_init_326 : decode cX8_init 326 = .ok (.iload 4, 2) := by decide +kernel
theorem dX8_init_328 : decode cX8_init 328 = .ok (.bipush 16, 2) := by decide +kernel
theorem dX8_init_330 : decode cX8_init 330 = .ok (.if_icmp .ge 48, 3) := by decide +kernel
theorem dX8_init_333 : decode cX8_init 333 = .ok (.aload_n 0, 1) := by decide +kernel
theorem dX8_init_334 : decode cX8_init 334 = .ok (.getfield 7, 3) := by decide +kernel
theorem dX8_init_337 : decode cX8_init 337 = .ok (.bipush 16, 2) := by decide +kernel
theorem dX8_init_339 : decode cX8_init 339 = .ok (.iload_n 1, 1) := by decide +kernel
theorem dX8_init_340 : decode cX8_init 340 = .ok (.imul, 1) := by decide +kernel
theorem dX8_init_341 : decode cX8_init 341 = .ok (.iload 4, 2) := by decide +kernel
theorem dX8_init_343 : decode cX8_init 343 = .ok (.iadd, 1) := by decide +kernel
theorem dX8_init_344 : decode cX8_init 344 = .ok (.sipush 16384, 3) := by decide +kernel
theorem dX8_init_347 : decode cX8_init 347 = .ok (.iload_n 1, 1) := by decide +kernel
theorem dX8_init_348 : decode cX8_init 348 = .ok (.iload 4, 2) := by decide +kernel
theorem dX8_init_350 : decode cX8_init 350 = .ok (.invokestatic 123, 3) := by decide +kernel
theorem dX8_init_353 : decode cX8_init 353 = .ok (.imul, 1) := by decide +kernel
theorem dX8_init_354 : decode cX8_init 354 = .ok (.iload_n 2, 1) := by decide +kernel
theorem dX8_init_355 : decode cX8_init 355 = .ok (.idiv, 1) := by decide +kernel
theorem dX8_init_356 : decode cX8_init 356 = .ok (.iastore, 1) := by decide +kernel
theorem dX8_init_357 : decode cX8_init 357 = .ok (.iload_n 3, 1) := by decide +kernel
theorem dX8_init_358 : decode cX8_init 358 = .ok (.aload_n 0, 1) := by decide +kernel
theorem dX8_init_359 : decode cX8_init 359 = .ok (.getfield 7, 3) := by decide +kernel
theorem dX8_init_362 : decode cX8_init 362 = .ok (.bipush 16, 2) := by decide +kernel
theorem dX8_init_364 : decode cX8_init 364 = .ok (.iload_n 1, 1) := by decide +kernel
theorem dX8_init_365 : decode cX8_init 365 = .ok (.imul, 1) := by decide +kernel
theorem dX8_init_366 : decode cX8_init 366 = .ok (.iload 4, 2) := by decide +kernel
theorem dX8_init_368 : decode cX8_init 368 = .ok (.iadd, 1) := by decide +kernel
theorem dX8_init_369 : decode cX8_init 369 = .ok (.iaload, 1) := by decide +kernel
theorem dX8_init_370 : decode cX8_init 370 = .ok (.iadd, 1) := by decide +kernel
theorem dX8_init_371 : decode cX8_init 371 = .ok (.istore_n 3, 1) := by decide +kernel
theorem dX8_init_372 : decode cX8_init 372 = .ok (.iinc 4 1, 3) := by decide +kernel
theorem dX8_init_375 : decode cX8_init 375 = .ok (.goto (-49), 3) := by decide +kernel
theorem dX8_init_378 : decode cX8_init 378 = .ok (.iload_n 1, 1) := by decide +kernel
theorem dX8_init_379 : decode cX8_init 379 = .ok (.bipush 16, 2) := by decide +kernel
theorem dX8_init_381 : decode cX8_init 381 = .ok (.if_icmp .le 8, 3) := by decide +kernel
theorem dX8_init_384 : decode cX8_init 384 = .ok (.bipush 8, 2) := by decide +kernel
theorem dX8_init_386 : decode cX8_init 386 = .ok (.goto 5, 3) := by decide +kernel
theorem dX8_init_389 : decode cX8_init 389 = .ok (.bipush 7, 2) := by decide +kernel
theorem dX8_init_391 : decode cX8_init 391 = .ok (.istore 4, 2) := by decide +kernel
theorem dX8_init_393 : decode cX8_init 393 = .ok (.aload_n 0, 1) := by decide +kernel
theorem dX8_init_394 : decode cX8_init 394 = .ok (.getfield 7, 3) := by decide +kernel
theorem dX8_init_397 : decode cX8_init 397 = .ok (.bipush 16, 2) := by decide +kernel
theorem dX8_init_399 : decode cX8_init 399 = .ok (.iload_n 1, 1) := by decide +kernel
theorem dX8_init_400 : decode cX8_init 400 = .ok (.imul, 1) := by decide +kernel
theorem dX8_init_401 : decode cX8_init 401 = .ok (.iload 4, 2) := by decide +kernel
theorem dX8_init_403 : decode cX8_init 403 = .ok (.iadd, 1) := by decide +kernel
theorem dX8_init_404 : decode cX8_init 404 = .ok (.aload_n 0, 1) := by decide +kernel
theorem dX8_init_405 : decode cX8_init 405 = .ok (.getfield 7, 3) := by decide +kernel
theorem dX8_init_408 : decode cX8_init 408 = .ok (.bipush 16, 2) := by decide +kernel
theorem dX8_init_410 : decode cX8_init 410 = .ok (.iload_n 1, 1) := by decide +kernel
theorem dX8_init_411 : decode cX8_init 411 = .ok (.imul, 1) := by decide +kernel
theorem dX8_init_412 : decode cX8_init 412 = .ok (.iload 4, 2) := by decide +kernel
theorem dX8_init_414 : decode cX8_init 414 = .ok (.iadd, 1) := by decide +kernel
theorem dX8_init_415 : decode cX8_init 415 = .ok (.iaload, 1) := by decide +kernel
theorem dX8_init_416 : decode cX8_init 416 = .ok (.sipush 16384, 3) := by decide +kernel
theorem dX8_init_419 : decode cX8_init 419 = .ok (.iadd, 1) := by decide +kernel
theorem dX8_init_420 : decode cX8_init 420 = .ok (.iload_n 3, 1) := by decide +kernel
theorem dX8_init_421 : decode cX8_init 421 = .ok (.isub, 1) := by decide +kernel
theorem dX8_init_422 : decode cX8_init 422 = .ok (.iastore, 1) := by decide +kernel
theorem dX8_init_423 : decode cX8_init 423 = .ok (.iinc 1 1, 3) := by decide +kernel
theorem dX8_init_426 : decode cX8_init 426 = .ok (.goto (-135), 3) := by decide +kernel
theorem dX8_init_429 : decode cX8_init 429 = .ok (.return_, 1) := by decide +kernel
theorem dX8_weight_0 : decode cX8_weight 0 = .ok (.bipush 32, 2) := by decide +kernel
theorem dX8_weight_2 : decode cX8_weight 2 = .ok (.iload_n 1, 1) := by decide +kernel
theorem dX8_weight_3 : decode cX8_weight 3 = .ok (.bipush 7, 2) := by decide +kernel
theorem dX8_weight_5 : decode cX8_weight 5 = .ok (.isub, 1) := by decide +kernel
theorem dX8_weight_6 : decode cX8_weight 6 = .ok (.imul, 1) := by decide +kernel
theorem dX8_weight_7 : decode cX8_weight 7 = .ok (.iload_n 0, 1) := by decide +kernel
theorem dX8_weight_8 : decode cX8_weight 8 = .ok (.isub, 1) := by decide +kernel
theorem dX8_weight_9 : decode cX8_weight 9 = .ok (.istore_n 2, 1) := by decide +kernel
theorem dX8_weight_10 : decode cX8_weight 10 = .ok (.iload_n 2, 1) := by decide +kernel
theorem dX8_weight_11 : decode cX8_weight 11 = .ok (.ifCond .ge 8, 3) := by decide +kernel
theorem dX8_weight_14 : decode cX8_weight 14 = .ok (.iload_n 2, 1) := by decide +kernel
theorem dX8_weight_15 : decode cX8_weight 15 = .ok (.ineg, 1) := by decide +kernel
theorem dX8_weight_16 : decode cX8_weight 16 = .ok (.goto 4, 3) := by decide +kernel
theorem dX8_weight_19 : decode cX8_weight 19 = .ok (.iload_n 2, 1) := by decide +kernel
theorem dX8_weight_20 : decode cX8_weight 20 = .ok (.istore_n 2, 1) := by decide +kernel
theorem dX8_weight_21 : decode cX8_weight 21 = .ok (.iload_n 2, 1) := by decide +kernel
theorem dX8_weight_22 : decode cX8_weight 22 = .ok (.sipush 256, 3) := by decide +kernel
theorem dX8_weight_25 : decode cX8_weight 25 = .ok (.if_icmp .le 7, 3) := by decide +kernel
theorem dX8_weight_28 : decode cX8_weight 28 = .ok (.iconst 0, 1) := by decide +kernel
theorem dX8_weight_29 : decode cX8_weight 29 = .ok (.goto 14, 3) := by decide +kernel
theorem dX8_weight_32 : decode cX8_weight 32 = .ok (.sipush 256, 3) := by decide +kernel
theorem dX8_weight_35 : decode cX8_weight 35 = .ok (.iload_n 2, 1) := by decide +kernel
theorem dX8_weight_36 : decode cX8_weight 36 = .ok (.isub, 1) := by decide +kernel
theorem dX8_weight_37 : decode cX8_weight 37 = .ok (.sipush 256, 3) := by decide +kernel
theorem dX8_weight_40 : decode cX8_weight 40 = .ok (.iload_n 2, 1) := by decide +kernel
theorem dX8_weight_41 : decode cX8_weight 41 = .ok (.isub, 1) := by decide +kernel
theorem dX8_weight_42 : decode cX8_weight 42 = .ok (.imul, 1) := by decide +kernel
theorem dX8_weight_43 : decode cX8_weight 43 = .ok (.ireturn, 1) := by decide +kernel
theorem dX8_thrown_0 : decode cX8_thrown 0 = .ok (.aload_n 0, 1) := by decide +kernel
theorem dX8_thrown_1 : decode cX8_thrown 1 = .ok (.getfield 127, 3) := by decide +kernel
theorem dX8_thrown_4 : decode cX8_thrown 4 = .ok (.ireturn, 1) := by decide +kernel
theorem dX8_refused_0 : decode cX8_refused 0 = .ok (.aload_n 0, 1) := by decide +kernel
theorem dX8_refused_1 : decode cX8_refused 1 = .ok (.iload_n 1, 1) := by decide +kernel
theorem dX8_refused_2 : decode cX8_refused 2 = .ok (.putfield 127, 3) := by decide +kernel
theorem dX8_refused_5 : decode cX8_refused 5 = .ok (.iload_n 1, 1) := by decide +kernel
theorem dX8_refused_6 : decode cX8_refused 6 = .ok (.ifCond .le 7, 3) := by decide +kernel
theorem dX8_refused_9 : decode cX8_refused 9 = .ok (.iconst 1, 1) := by decide +kernel
theorem dX8_refused_10 : decode cX8_refused 10 = .ok (.goto 4, 3) := by decide +kernel
theorem dX8_refused_13 : decode cX8_refused 13 = .ok (.iconst 0, 1) := by decide +kernel
theorem dX8_refused_14 : decode cX8_refused 14 = .ok (.ireturn, 1) := by decide +kernel
theorem dX8_isIn_0 : decode cX8_isIn 0 = .ok (.iload_n 0, 1) := by decide +kernel
theorem dX8_isIn_1 : decode cX8_isIn 1 = .ok (.iload_n 1, 1) := by decide +kernel
theorem dX8_isIn_2 : decode cX8_isIn 2 = .ok (.if_icmp .lt 12, 3) := by decide +kernel
theorem dX8_isIn_5 : decode cX8_isIn 5 = .ok (.iload_n 0, 1) := by decide +kernel
theorem dX8_isIn_6 : decode cX8_isIn 6 = .ok (.iload_n 2, 1) := by decide +kernel
theorem dX8_isIn_7 : decode cX8_isIn 7 = .ok (.if_icmp .gt 7, 3) := by decide +kernel
theorem dX8_isIn_10 : decode cX8_isIn 10 = .ok (.iconst 1, 1) := by decide +kernel
theorem dX8_isIn_11 : decode cX8_isIn 11 = .ok (.goto 4, 3) := by decide +kernel
theorem dX8_isIn_14 : decode cX8_isIn 14 = .ok (.iconst 0, 1) := by decide +kernel
theorem dX8_isIn_15 : decode cX8_isIn 15 = .ok (.ireturn, 1) := by decide +kernel
theorem dX8_isClient_0 : decode cX8_isClient 0 = .ok (.iload_n 1, 1) := by decide +kernel
theorem dX8_isClient_1 : decode cX8_isClient 1 = .ok (.iconst 0, 1) := by decide +kernel
theorem dX8_isClient_2 : decode cX8_isClient 2 = .ok (.iconst 5, 1) := by decide +kernel
theorem dX8_isClient_3 : decode cX8_isClient 3 = .ok (.invokestatic 130, 3) := by decide +kernel
theorem dX8_isClient_6 : decode cX8_isClient 6 = .ok (.ifCond .eq 16, 3) := by decide +kernel
theorem dX8_isClient_9 : decode cX8_isClient 9 = .ok (.aload_n 0, 1) := by decide +kernel
theorem dX8_isClient_10 : decode cX8_isClient 10 = .ok (.getfield 13, 3) := by decide +kernel
theorem dX8_isClient_13 : decode cX8_isClient 13 = .ok (.iload_n 1, 1) := by decide +kernel
theorem dX8_isClient_14 : decode cX8_isClient 14 = .ok (.baload, 1) := by decide +kernel
theorem dX8_isClient_15 : decode cX8_isClient 15 = .ok (.ifCond .eq 7, 3) := by decide +kernel
theorem dX8_isClient_18 : decode cX8_isClient 18 = .ok (.iconst 1, 1) := by decide +kernel
theorem dX8_isClient_19 : decode cX8_isClient 19 = .ok (.goto 4, 3) := by decide +kernel
theorem dX8_isClient_22 : decode cX8_isClient 22 = .ok (.iconst 0, 1) := by decide +kernel
theorem dX8_isClient_23 : decode cX8_isClient 23 = .ok (.ireturn, 1) := by decide +kernel
theorem dX8_down_0 : decode cX8_down 0 = .ok (.lload_n 0, 1) := by decide +kernel
theorem dX8_down_1 : decode cX8_down 1 = .ok (.lload_n 2, 1) := by decide +kernel
theorem dX8_down_2 : decode cX8_down 2 = .ok (.ldiv, 1) := by decide +kernel
theorem dX8_down_3 : decode cX8_down 3 = .ok (.lstore 4, 2) := by decide +kernel
theorem dX8_down_5 : decode cX8_down 5 = .ok (.lload_n 0, 1) := by decide +kernel
theorem dX8_down_6 : decode cX8_down 6 = .ok (.lload_n 2, 1) := by decide +kernel
theorem dX8_down_7 : decode cX8_down 7 = .ok (.lrem, 1) := by decide +kernel
theorem dX8_down_8 : decode cX8_down 8 = .ok (.lconst 0, 1) := by decide +kernel
theorem dX8_down_9 : decode cX8_down 9 = .ok (.lcmp, 1) := by decide +kernel
theorem dX8_down_10 : decode cX8_down 10 = .ok (.ifCond .ge 10, 3) := by decide +kernel
theorem dX8_down_13 : decode cX8_down 13 = .ok (.lload 4, 2) := by decide +kernel
theorem dX8_down_15 : decode cX8_down 15 = .ok (.lconst 1, 1) := by decide +kernel
theorem dX8_down_16 : decode cX8_down 16 = .ok (.lsub, 1) := by decide +kernel
theorem dX8_down_17 : decode cX8_down 17 = .ok (.goto 5, 3) := by decide +kernel
theorem dX8_down_20 : decode cX8_down 20 = .ok (.lload 4, 2) := by decide +kernel
theorem dX8_down_22 : decode cX8_down 22 = .ok (.lreturn, 1) := by decide +kernel
theorem dX8_downBy_0 : decode cX8_downBy 0 = .ok (.iload_n 0, 1) := by decide +kernel
theorem dX8_downBy_1 : decode cX8_downBy 1 = .ok (.i2l, 1) := by decide +kernel
theorem dX8_downBy_2 : decode cX8_downBy 2 = .ok (.iload_n 1, 1) := by decide +kernel
theorem dX8_downBy_3 : decode cX8_downBy 3 = .ok (.i2l, 1) := by decide +kernel
theorem dX8_downBy_4 : decode cX8_downBy 4 = .ok (.invokestatic 134, 3) := by decide +kernel
theorem dX8_downBy_7 : decode cX8_downBy 7 = .ok (.l2i, 1) := by decide +kernel
theorem dX8_downBy_8 : decode cX8_downBy 8 = .ok (.ireturn, 1) := by decide +kernel
theorem dX8_isRate_0 : decode cX8_isRate 0 = .ok (.iload_n 0, 1) := by decide +kernel
theorem dX8_isRate_1 : decode cX8_isRate 1 = .ok (.sipush 8000, 3) := by decide +kernel
theorem dX8_isRate_4 : decode cX8_isRate 4 = .ok (.if_icmp .eq 43, 3) := by decide +kernel
theorem dX8_isRate_7 : decode cX8_isRate 7 = .ok (.iload_n 0, 1) := by decide +kernel
theorem dX8_isRate_8 : decode cX8_isRate 8 = .ok (.sipush 11025, 3) := by decide +kernel
theorem dX8_isRate_11 : decode cX8_isRate 11 = .ok (.if_icmp .eq 36, 3) := by decide +kernel
theorem dX8_isRate_14 : decode cX8_isRate 14 = .ok (.iload_n 0, 1) := by decide +kernel
theorem dX8_isRate_15 : decode cX8_isRate 15 = .ok (.sipush 16000, 3) := by decide +kernel
theorem dX8_isRate_18 : decode cX8_isRate 18 = .ok (.if_icmp .eq 29, 3) := by decide +kernel
theorem dX8_isRate_21 : decode cX8_isRate 21 = .ok (.iload_n 0, 1) := by decide +kernel
theorem dX8_isRate_22 : decode cX8_isRate 22 = .ok (.sipush 22050, 3) := by decide +kernel
theorem dX8_isRate_25 : decode cX8_isRate 25 = .ok (.if_icmp .eq 22, 3) := by decide +kernel
theorem dX8_isRate_28 : decode cX8_isRate 28 = .ok (.iload_n 0, 1) := by decide +kernel
theorem dX8_isRate_29 : decode cX8_isRate 29 = .ok (.sipush 32000, 3) := by decide +kernel
theorem dX8_isRate_32 : decode cX8_isRate 32 = .ok (.if_icmp .eq 15, 3) := by decide +kernel
theorem dX8_isRate_35 : decode cX8_isRate 35 = .ok (.iload_n 0, 1) := by decide +kernel
theorem dX8_isRate_36 : decode cX8_isRate 36 = .ok (.ldc 138, 2) := by decide +kernel
theorem dX8_isRate_38 : decode cX8_isRate 38 = .ok (.if_icmp .eq 9, 3) := by decide +kernel
theorem dX8_isRate_41 : decode cX8_isRate 41 = .ok (.iload_n 0, 1) := by decide +kernel
theorem dX8_isRate_42 : decode cX8_isRate 42 = .ok (.ldc 139, 2) := by decide +kernel
theorem dX8_isRate_44 : decode cX8_isRate 44 = .ok (.if_icmp .ne 7, 3) := by decide +kernel
theorem dX8_isRate_47 : decode cX8_isRate 47 = .ok (.iconst 1, 1) := by decide +kernel
theorem dX8_isRate_48 : decode cX8_isRate 48 = .ok (.goto 4, 3) := by decide +kernel
theorem dX8_isRate_51 : decode cX8_isRate 51 = .ok (.iconst 0, 1) := by decide +kernel
theorem dX8_isRate_52 : decode cX8_isRate 52 = .ok (.ireturn, 1) := by decide +kernel
theorem dX8_open_0 : decode cX8_open 0 = .ok (.iload_n 2, 1) := by decide +kernel
theorem dX8_open_1 : decode cX8_open 1 = .ok (.invokestatic 140, 3) := by decide +kernel
theorem dX8_open_4 : decode cX8_open 4 = .ok (.ifCond .eq 30, 3) := by decide +kernel
theorem dX8_open_7 : decode cX8_open 7 = .ok (.iload_n 3, 1) := by decide +kernel
theorem dX8_open_8 : decode cX8_open 8 = .ok (.iconst 1, 1) := by decide +kernel
theorem dX8_open_9 : decode cX8_open 9 = .ok (.iconst 2, 1) := by decide +kernel
theorem dX8_open_10 : decode cX8_open 10 = .ok (.invokestatic 130, 3) := by decide +kernel
theorem dX8_open_13 : decode cX8_open 13 = .ok (.ifCond .eq 21, 3) := by decide +kernel
theorem dX8_open_16 : decode cX8_open 16 = .ok (.iload 4, 2) := by decide +kernel
theorem dX8_open_18 : decode cX8_open 18 = .ok (.bipush 8, 2) := by decide +kernel
theorem dX8_open_20 : decode cX8_open 20 = .ok (.if_icmp .eq 10, 3) := by decide +kernel
theorem dX8_open_23 : decode cX8_open 23 = .ok (.iload 4, 2) := by decide +kernel
theorem dX8_open_25 : decode cX8_open 25 = .ok (.bipush 16, 2) := by decide +kernel
theorem dX8_open_27 : decode cX8_open 27 = .ok (.if_icmp .ne 7, 3) := by decide +kernel
theorem dX8_open_30 : decode cX8_open 30 = .ok (.iconst 1, 1) := by decide +kernel
theorem dX8_open_31 : decode cX8_open 31 = .ok (.goto 4, 3) := by decide +kernel
theorem dX8_open_34 : decode cX8_open 34 = .ok (.iconst 0, 1) := by decide +kernel
theorem dX8_open_35 : decode cX8_open 35 = .ok (.istore 5, 2) := by decide +kernel
theorem dX8_open_37 : decode cX8_open 37 = .ok (.iconst 0, 1) := by decide +kernel
theorem dX8_open_38 : decode cX8_open 38 = .ok (.istore 6, 2) := by decide +kernel
theorem dX8_open_40 : decode cX8_open 40 = .ok (.iload 6, 2) := by decide +kernel
theorem dX8_open_42 : decode cX8_open 42 = .ok (.bipush 6, 2) := by decide +kernel
theorem dX8_open_44 : decode cX8_open 44 = .ok (.if_icmp .ge 19, 3) := by decide +kernel
theorem dX8_open_47 : decode cX8_open 47 = .ok (.aload_n 0, 1) := by decide +kernel
theorem dX8_open_48 : decode cX8_open 48 = .ok (.getfield 13, 3) := by decide +kernel
theorem dX8_open_51 : decode cX8_open 51 = .ok (.iload 6, 2) := by decide +kernel
theorem dX8_open_53 : decode cX8_open 53 = .ok (.baload, 1) := by decide +kernel
theorem dX8_open_54 : decode cX8_open 54 = .ok (.ifCond .eq 9, 3) := by decide +kernel
theorem dX8_open_57 : decode cX8_open 57 = .ok (.iinc 6 1, 3) := by decide +kernel
theorem dX8_open_60 : decode cX8_open 60 = .ok (.goto (-20), 3) := by decide +kernel
theorem dX8_open_63 : decode cX8_open 63 = .ok (.aload_n 0, 1) := by decide +kernel
theorem dX8_open_64 : decode cX8_open 64 = .ok (.iload 5, 2) := by decide +kernel
theorem dX8_open_66 : decode cX8_open 66 = .ok (.ifCond .ne 7, 3) := by decide +kernel
theorem dX8_open_69 : decode cX8_open 69 = .ok (.iconst 1, 1) := by decide +kernel
theorem dX8_open_70 : decode cX8_open 70 = .ok (.goto 15, 3) := by decide +kernel
theorem dX8_open_73 : decode cX8_open 73 = .ok (.iload 6, 2) := by decide +kernel
theorem dX8_open_75 : decode cX8_open 75 = .ok (.bipush 6, 2) := by decide +kernel
theorem dX8_open_77 : decode cX8_open 77 = .ok (.if_icmp .ne 7, 3) := by decide +kernel
theorem dX8_open_80 : decode cX8_open 80 = .ok (.iconst 2, 1) := by decide +kernel
theorem dX8_open_81 : decode cX8_open 81 = .ok (.goto 4, 3) := by decide +kernel
theorem dX8_open_84 : decode cX8_open 84 = .ok (.iconst 0, 1) := by decide +kernel
theorem dX8_open_85 : decode cX8_open 85 = .ok (.invokevirtual 144, 3) := by decide +kernel
theorem dX8_open_88 : decode cX8_open 88 = .ok (.ifCond .eq 5, 3) := by decide +kernel
theorem dX8_open_91 : decode cX8_open 91 = .ok (.iconst 0, 1) := by decide +kernel
theorem dX8_open_92 : decode cX8_open 92 = .ok (.ireturn, 1) := by decide +kernel
theorem dX8_open_93 : decode cX8_open 93 = .ok (.aload_n 0, 1) := by decide +kernel
theorem dX8_open_94 : decode cX8_open 94 = .ok (.getfield 13, 3) := by decide +kernel
theorem dX8_open_97 : decode cX8_open 97 = .ok (.iload 6, 2) := by decide +kernel
theorem dX8_open_99 : decode cX8_open 99 = .ok (.iconst 1, 1) := by decide +kernel
theorem dX8_open_100 : decode cX8_open 100 = .ok (.bastore, 1) := by decide +kernel
theorem dX8_open_101 : decode cX8_open 101 = .ok (.aload_n 0, 1) := by decide +kernel
theorem dX8_open_102 : decode cX8_open 102 = .ok (.getfield 17, 3) := by decide +kernel
theorem dX8_open_105 : decode cX8_open 105 = .ok (.iload 6, 2) := by decide +kernel
theorem dX8_open_107 : decode cX8_open 107 = .ok (.iload_n 1, 1) := by decide +kernel
theorem dX8_open_108 : decode cX8_open 108 = .ok (.bastore, 1) := by decide +kernel
theorem dX8_open_109 : decode cX8_open 109 = .ok (.aload_n 0, 1) := by decide +kernel
theorem dX8_open_110 : decode cX8_open 110 = .ok (.getfield 20, 3) := by decide +kernel
theorem dX8_open_113 : decode cX8_open 113 = .ok (.iload 6, 2) := by decide +kernel
theorem dX8_open_115 : decode cX8_open 115 = .ok (.iload_n 2, 1) := by decide +kernel
theorem dX8_open_116 : decode cX8_open 116 = .ok (.iastore, 1) := by decide +kernel
theorem dX8_open_117 : decode cX8_open 117 = .ok (.aload_n 0, 1) := by decide +kernel
theorem dX8_open_118 : decode cX8_open 118 = .ok (.getfield 23, 3) := by decide +kernel
theorem dX8_open_121 : decode cX8_open 121 = .ok (.iload 6, 2) := by decide +kernel
theorem dX8_open_123 : decode cX8_open 123 = .ok (.iload_n 3, 1) := by decide +kernel
theorem dX8_open_124 : decode cX8_open 124 = .ok (.iastore, 1) := by decide +kernel
theorem dX8_open_125 : decode cX8_open 125 = .ok (.aload_n 0, 1) := by decide +kernel
theorem dX8_open_126 : decode cX8_open 126 = .ok (.getfield 26, 3) := by decide +kernel
theorem dX8_open_129 : decode cX8_open 129 = .ok (.iload 6, 2) := by decide +kernel
theorem dX8_open_131 : decode cX8_open 131 = .ok (.iload 4, 2) := by decide +kernel
theorem dX8_open_133 : decode cX8_open 133 = .ok (.iastore, 1) := by decide +kernel
theorem dX8_open_134 : decode cX8_open 134 = .ok (.aload_n 0, 1) := by decide +kernel
theorem dX8_open_135 : decode cX8_open 135 = .ok (.getfield 29, 3) := by decide +kernel
theorem dX8_open_138 : decode cX8_open 138 = .ok (.iload 6, 2) := by decide +kernel
theorem dX8_open_140 : decode cX8_open 140 = .ok (.sipush 256, 3) := by decide +kernel
theorem dX8_open_143 : decode cX8_open 143 = .ok (.iastore, 1) := by decide +kernel
theorem dX8_open_144 : decode cX8_open 144 = .ok (.aload_n 0, 1) := by decide +kernel
theorem dX8_open_145 : decode cX8_open 145 = .ok (.getfield 32, 3) := by decide +kernel
theorem dX8_open_148 : decode cX8_open 148 = .ok (.iload 6, 2) := by decide +kernel
theorem dX8_open_150 : decode cX8_open 150 = .ok (.iconst 0, 1) := by decide +kernel
theorem dX8_open_151 : decode cX8_open 151 = .ok (.iastore, 1) := by decide +kernel
theorem dX8_open_152 : decode cX8_open 152 = .ok (.aload_n 0, 1) := by decide +kernel
theorem dX8_open_153 : decode cX8_open 153 = .ok (.getfield 35, 3) := by decide +kernel
theorem dX8_open_156 : decode cX8_open 156 = .ok (.iload 6, 2) := by decide +kernel
theorem dX8_open_158 : decode cX8_open 158 = .ok (.iconst 0, 1) := by decide +kernel
theorem dX8_open_159 : decode cX8_open 159 = .ok (.iastore, 1) := by decide +kernel
theorem dX8_open_160 : decode cX8_open 160 = .ok (.aload_n 0, 1) := by decide +kernel
theorem dX8_open_161 : decode cX8_open 161 = .ok (.getfield 38, 3) := by decide +kernel
theorem dX8_open_164 : decode cX8_open 164 = .ok (.iload 6, 2) := by decide +kernel
theorem dX8_open_166 : decode cX8_open 166 = .ok (.iconst 0, 1) := by decide +kernel
theorem dX8_open_167 : decode cX8_open 167 = .ok (.iastore, 1) := by decide +kernel
theorem dX8_open_168 : decode cX8_open 168 = .ok (.aload_n 0, 1) := by decide +kernel
theorem dX8_open_169 : decode cX8_open 169 = .ok (.getfield 48, 3) := by decide +kernel
theorem dX8_open_172 : decode cX8_open 172 = .ok (.iload 6, 2) := by decide +kernel
theorem dX8_open_174 : decode cX8_open 174 = .ok (.iconst 0, 1) := by decide +kernel
theorem dX8_open_175 : decode cX8_open 175 = .ok (.bastore, 1) := by decide +kernel
theorem dX8_open_176 : decode cX8_open 176 = .ok (.aload_n 0, 1) := by decide +kernel
theorem dX8_open_177 : decode cX8_open 177 = .ok (.getfield 54, 3) := by decide +kernel
theorem dX8_open_180 : decode cX8_open 180 = .ok (.iload 6, 2) := by decide +kernel
theorem dX8_open_182 : decode cX8_open 182 = .ok (.iconst 0, 1) := by decide +kernel
theorem dX8_open_183 : decode cX8_open 183 = .ok (.iastore, 1) := by decide +kernel
theorem dX8_open_184 : decode cX8_open 184 = .ok (.aload_n 0, 1) := by decide +kernel
theorem dX8_open_185 : decode cX8_open 185 = .ok (.getfield 57, 3) := by decide +kernel
theorem dX8_open_188 : decode cX8_open 188 = .ok (.iload 6, 2) := by decide +kernel
theorem dX8_open_190 : decode cX8_open 190 = .ok (.iconst 0, 1) := by decide +kernel
theorem dX8_open_191 : decode cX8_open 191 = .ok (.iastore, 1) := by decide +kernel
theorem dX8_open_192 : decode cX8_open 192 = .ok (.aload_n 0, 1) := by decide +kernel
theorem dX8_open_193 : decode cX8_open 193 = .ok (.getfield 60, 3) := by decide +kernel
theorem dX8_open_196 : decode cX8_open 196 = .ok (.iload 6, 2) := by decide +kernel
theorem dX8_open_198 : decode cX8_open 198 = .ok (.iconst 0, 1) := by decide +kernel
theorem dX8_open_199 : decode cX8_open 199 = .ok (.iastore, 1) := by decide +kernel
theorem dX8_open_200 : decode cX8_open 200 = .ok (.aload_n 0, 1) := by decide +kernel
theorem dX8_open_201 : decode cX8_open 201 = .ok (.getfield 63, 3) := by decide +kernel
theorem dX8_open_204 : decode cX8_open 204 = .ok (.iload 6, 2) := by decide +kernel
theorem dX8_open_206 : decode cX8_open 206 = .ok (.iconst 0, 1) := by decide +kernel
theorem dX8_open_207 : decode cX8_open 207 = .ok (.iastore, 1) := by decide +kernel
theorem dX8_open_208 : decode cX8_open 208 = .ok (.aload_n 0, 1) := by decide +kernel
theorem dX8_open_209 : decode cX8_open 209 = .ok (.getfield 66, 3) := by decide +kernel
theorem dX8_open_212 : decode cX8_open 212 = .ok (.iload 6, 2) := by decide +kernel
theorem dX8_open_214 : decode cX8_open 214 = .ok (.dconst 0, 1) := by decide +kernel
theorem dX8_open_215 : decode cX8_open 215 = .ok (.dastore, 1) := by decide +kernel
theorem dX8_open_216 : decode cX8_open 216 = .ok (.aload_n 0, 1) := by decide +kernel
theorem dX8_open_217 : decode cX8_open 217 = .ok (.getfield 70, 3) := by decide +kernel
theorem dX8_open_220 : decode cX8_open 220 = .ok (.iload 6, 2) := by decide +kernel
theorem dX8_open_222 : decode cX8_open 222 = .ok (.iconst 0, 1) := by decide +kernel
theorem dX8_open_223 : decode cX8_open 223 = .ok (.iastore, 1) := by decide +kernel
theorem dX8_open_224 : decode cX8_open 224 = .ok (.aload_n 0, 1) := by decide +kernel
theorem dX8_open_225 : decode cX8_open 225 = .ok (.getfield 73, 3) := by decide +kernel
theorem dX8_open_228 : decode cX8_open 228 = .ok (.iload 6, 2) := by decide +kernel
theorem dX8_open_230 : decode cX8_open 230 = .ok (.iconst 0, 1) := by decide +kernel
theorem dX8_open_231 : decode cX8_open 231 = .ok (.iastore, 1) := by decide +kernel
theorem dX8_open_232 : decode cX8_open 232 = .ok (.aload_n 0, 1) := by decide +kernel
theorem dX8_open_233 : decode cX8_open 233 = .ok (.getfield 79, 3) := by decide +kernel
theorem dX8_open_236 : decode cX8_open 236 = .ok (.iload 6, 2) := by decide +kernel
theorem dX8_open_238 : decode cX8_open 238 = .ok (.iconst 0, 1) := by decide +kernel
theorem dX8_open_239 : decode cX8_open 239 = .ok (.iastore, 1) := by decide +kernel
theorem dX8_open_240 : decode cX8_open 240 = .ok (.iload 6, 2) := by decide +kernel
theorem dX8_open_242 : decode cX8_open 242 = .ok (.ireturn, 1) := by decide +kernel
theorem dX8_close_0 : decode cX8_close 0 = .ok (.aload_n 0, 1) := by decide +kernel
theorem dX8_close_1 : decode cX8_close 1 = .ok (.aload_n 0, 1) := by decide +kernel
theorem dX8_close_2 : decode cX8_close 2 = .ok (.iload_n 1, 1) := by decide +kernel
theorem dX8_close_3 : decode cX8_close 3 = .ok (.invokevirtual 147, 3) := by decide +kernel
theorem dX8_close_6 : decode cX8_close 6 = .ok (.ifCond .eq 7, 3) := by decide +kernel
theorem dX8_close_9 : decode cX8_close 9 = .ok (.iconst 0, 1) := by decide +kernel
theorem dX8_close_10 : decode cX8_close 10 = .ok (.goto 4, 3) := by decide +kernel
theorem dX8_close_13 : decode cX8_close 13 = .ok (.iconst 1, 1) := by decide +kernel
theorem dX8_close_14 : decode cX8_close 14 = .ok (.invokevirtual 144, 3) := by decide +kernel
theorem dX8_close_17 : decode cX8_close 17 = .ok (.ifCond .eq 4, 3) := by decide +kernel
theorem dX8_close_20 : decode cX8_close 20 = .ok (.return_, 1) := by decide +kernel
theorem dX8_close_21 : decode cX8_close 21 = .ok (.aload_n 0, 1) := by decide +kernel
theorem dX8_close_22 : decode cX8_close 22 = .ok (.getfield 13, 3) := by decide +kernel
theorem dX8_close_25 : decode cX8_close 25 = .ok (.iload_n 1, 1) := by decide +kernel
theorem dX8_close_26 : decode cX8_close 26 = .ok (.iconst 0, 1) := by decide +kernel
theorem dX8_close_27 : decode cX8_close 27 = .ok (.bastore, 1) := by decide +kernel
theorem dX8_close_28 : decode cX8_close 28 = .ok (.iconst 0, 1) := by decide +kernel
theorem dX8_close_29 : decode cX8_close 29 = .ok (.istore_n 2, 1) := by decide +kernel
theorem dX8_close_30 : decode cX8_close 30 = .ok (.iload_n 2, 1) := by decide +kernel
theorem dX8_close_31 : decode cX8_close 31 = .ok (.iconst 4, 1) := by decide +kernel
theorem dX8_close_32 : decode cX8_close 32 = .ok (.if_icmp .ge 21, 3) := by decide +kernel
theorem dX8_close_35 : decode cX8_close 35 = .ok (.aload_n 0, 1) := by decide +kernel
theorem dX8_close_36 : decode cX8_close 36 = .ok (.getfield 88, 3) := by decide +kernel
theorem dX8_close_39 : decode cX8_close 39 = .ok (.bipush 6, 2) := by decide +kernel
theorem dX8_close_41 : decode cX8_close 41 = .ok (.iload_n 2, 1) := by decide +kernel
theorem dX8_close_42 : decode cX8_close 42 = .ok (.imul, 1) := by decide +kernel
theorem dX8_close_43 : decode cX8_close 43 = .ok (.iload_n 1, 1) := by decide +kernel
theorem dX8_close_44 : decode cX8_close 44 = .ok (.iadd, 1) := by decide +kernel
theorem dX8_close_45 : decode cX8_close 45 = .ok (.iconst 0, 1) := by decide +kernel
theorem dX8_close_46 : decode cX8_close 46 = .ok (.iastore, 1) := by decide +kernel
theorem dX8_close_47 : decode cX8_close 47 = .ok (.iinc 2 1, 3) := by decide +kernel
theorem dX8_close_50 : decode cX8_close 50 = .ok (.goto (-20), 3) := by decide +kernel
theorem dX8_close_53 : decode cX8_close 53 = .ok (.return_, 1) := by decide +kernel
theorem dX8_gain_0 : decode cX8_gain 0 = .ok (.aload_n 0, 1) := by decide +kernel
theorem dX8_gain_1 : decode cX8_gain 1 = .ok (.iload_n 1, 1) := by decide +kernel
theorem dX8_gain_2 : decode cX8_gain 2 = .ok (.invokevirtual 147, 3) := by decide +kernel
theorem dX8_gain_5 : decode cX8_gain 5 = .ok (.ifCond .eq 28, 3) := by decide +kernel
theorem dX8_gain_8 : decode cX8_gain 8 = .ok (.aload_n 0, 1) := by decide +kernel
theorem dX8_gain_9 : decode cX8_gain 9 = .ok (.getfield 17, 3) := by decide +kernel
theorem dX8_gain_12 : decode cX8_gain 12 = .ok (.iload_n 1, 1) := by decide +kernel
theorem dX8_gain_13 : decode cX8_gain 13 = .ok (.baload, 1) := by decide +kernel
theorem dX8_gain_14 : decode cX8_gain 14 = .ok (.ifCond .eq 19, 3) := by decide +kernel
theorem dX8_gain_17 : decode cX8_gain 17 = .ok (.dload_n 2, 1) := by decide +kernel
theorem dX8_gain_18 : decode cX8_gain 18 = .ok (.dconst 0, 1) := by decide +kernel
theorem dX8_gain_19 : decode cX8_gain 19 = .ok (.dcmp .l, 1) := by decide +kernel
theorem dX8_gain_20 : decode cX8_gain 20 = .ok (.ifCond .lt 13, 3) := by decide +kernel
theorem dX8_gain_23 : decode cX8_gain 23 = .ok (.dload_n 2, 1) := by decide +kernel
theorem dX8_gain_24 : decode cX8_gain 24 = .ok (.dconst 1, 1) := by decide +kernel
theorem dX8_gain_25 : decode cX8_gain 25 = .ok (.dcmp .g, 1) := by decide +kernel
theorem dX8_gain_26 : decode cX8_gain 26 = .ok (.ifCond .gt 7, 3) := by decide +kernel
theorem dX8_gain_29 : decode cX8_gain 29 = .ok (.iconst 1, 1) := by decide +kernel
theorem dX8_gain_30 : decode cX8_gain 30 = .ok (.goto 4, 3) := by decide +kernel
theorem dX8_gain_33 : decode cX8_gain 33 = .ok (.iconst 0, 1) := by decide +kernel
theorem dX8_gain_34 : decode cX8_gain 34 = .ok (.istore 4, 2) := by decide +kernel
theorem dX8_gain_36 : decode cX8_gain 36 = .ok (.aload_n 0, 1) := by decide +kernel
theorem dX8_gain_37 : decode cX8_gain 37 = .ok (.iload 4, 2) := by decide +kernel
theorem dX8_gain_39 : decode cX8_gain 39 = .ok (.ifCond .eq 7, 3) := by decide +kernel
theorem dX8_gain_42 : decode cX8_gain 42 = .ok (.iconst 0, 1) := by decide +kernel
theorem dX8_gain_43 : decode cX8_gain 43 = .ok (.goto 4, 3) := by decide +kernel
theorem dX8_gain_46 : decode cX8_gain 46 = .ok (.iconst 1, 1) := by decide +kernel
theorem dX8_gain_47 : decode cX8_gain 47 = .ok (.invokevirtual 144, 3) := by decide +kernel
theorem dX8_gain_50 : decode cX8_gain 50 = .ok (.ifCond .ne 15, 3) := by decide +kernel
theorem dX8_gain_53 : decode cX8_gain 53 = .ok (.aload_n 0, 1) := by decide +kernel
theorem dX8_gain_54 : decode cX8_gain 54 = .ok (.getfield 29, 3) := by decide +kernel
theorem dX8_gain_57 : decode cX8_gain 57 = .ok (.iload_n 1, 1) := by decide +kernel
theorem dX8_gain_58 : decode cX8_gain 58 = .ok (.dload_n 2, 1) := by decide +kernel
theorem dX8_gain_59 : decode cX8_gain 59 = .ok (.ldc2_w 150, 3) := by decide +kernel
theorem dX8_gain_62 : decode cX8_gain 62 = .ok (.dmul, 1) := by decide +kernel
theorem dX8_gain_63 : decode cX8_gain 63 = .ok (.d2i, 1) := by decide +kernel
theorem dX8_gain_64 : decode cX8_gain 64 = .ok (.iastore, 1) := by decide +kernel
theorem dX8_gain_65 : decode cX8_gain 65 = .ok (.return_, 1) := by decide +kernel
theorem dX8_start_0 : decode cX8_start 0 = .ok (.aload_n 0, 1) := by decide +kernel
theorem dX8_start_1 : decode cX8_start 1 = .ok (.aload_n 0, 1) := by decide +kernel
theorem dX8_start_2 : decode cX8_start 2 = .ok (.iload_n 1, 1) := by decide +kernel
theorem dX8_start_3 : decode cX8_start 3 = .ok (.invokevirtual 147, 3) := by decide +kernel
theorem dX8_start_6 : decode cX8_start 6 = .ok (.ifCond .ne 7, 3) := by decide +kernel
theorem dX8_start_9 : decode cX8_start 9 = .ok (.iconst 1, 1) := by decide +kernel
theorem dX8_start_10 : decode cX8_start 10 = .ok (.goto 27, 3) := by decide +kernel
theorem dX8_start_13 : decode cX8_start 13 = .ok (.aload_n 0, 1) := by decide +kernel
theorem dX8_start_14 : decode cX8_start 14 = .ok (.getfield 32, 3) := by decide +kernel
theorem dX8_start_17 : decode cX8_start 17 = .ok (.iload_n 1, 1) := by decide +kernel
theorem dX8_start_18 : decode cX8_start 18 = .ok (.iaload, 1) := by decide +kernel
theorem dX8_start_19 : decode cX8_start 19 = .ok (.ifCond .eq 17, 3) := by decide +kernel
theorem dX8_start_22 : decode cX8_start 22 = .ok (.aload_n 0, 1) := by decide +kernel
theorem dX8_start_23 : decode cX8_start 23 = .ok (.getfield 32, 3) := by decide +kernel
theorem dX8_start_26 : decode cX8_start 26 = .ok (.iload_n 1, 1) := by decide +kernel
theorem dX8_start_27 : decode cX8_start 27 = .ok (.iaload, 1) := by decide +kernel
theorem dX8_start_28 : decode cX8_start 28 = .ok (.iconst 2, 1) := by decide +kernel
theorem dX8_start_29 : decode cX8_start 29 = .ok (.if_icmp .eq 7, 3) := by decide +kernel
theorem dX8_start_32 : decode cX8_start 32 = .ok (.iconst 2, 1) := by decide +kernel
theorem dX8_start_33 : decode cX8_start 33 = .ok (.goto 4, 3) := by decide +kernel
theorem dX8_start_36 : decode cX8_start 36 = .ok (.iconst 0, 1) := by decide +kernel
theorem dX8_start_37 : decode cX8_start 37 = .ok (.invokevirtual 144, 3) := by decide +kernel
theorem dX8_start_40 : decode cX8_start 40 = .ok (.ifCond .ne 10, 3) := by decide +kernel
theorem dX8_start_43 : decode cX8_start 43 = .ok (.aload_n 0, 1) := by decide +kernel
theorem dX8_start_44 : decode cX8_start 44 = .ok (.getfield 32, 3) := by decide +kernel
theorem dX8_start_47 : decode cX8_start 47 = .ok (.iload_n 1, 1) := by decide +kernel
theorem dX8_start_48 : decode cX8_start 48 = .ok (.iconst 1, 1) := by decide +kernel
theorem dX8_start_49 : decode cX8_start 49 = .ok (.iastore, 1) := by decide +kernel
theorem dX8_start_50 : decode cX8_start 50 = .ok (.return_, 1) := by decide +kernel
theorem dX8_pause_0 : decode cX8_pause 0 = .ok (.aload_n 0, 1) := by decide +kernel
theorem dX8_pause_1 : decode cX8_pause 1 = .ok (.aload_n 0, 1) := by decide +kernel
theorem dX8_pause_2 : decode cX8_pause 2 = .ok (.iload_n 1, 1) := by decide +kernel
theorem dX8_pause_3 : decode cX8_pause 3 = .ok (.invokevirtual 147, 3) := by decide +kernel
theorem dX8_pause_6 : decode cX8_pause 6 = .ok (.ifCond .ne 7, 3) := by decide +kernel
theorem dX8_pause_9 : decode cX8_pause 9 = .ok (.iconst 1, 1) := by decide +kernel
theorem dX8_pause_10 : decode cX8_pause 10 = .ok (.goto 18, 3) := by decide +kernel
theorem dX8_pause_13 : decode cX8_pause 13 = .ok (.aload_n 0, 1) := by decide +kernel
theorem dX8_pause_14 : decode cX8_pause 14 = .ok (.getfield 32, 3) := by decide +kernel
theorem dX8_pause_17 : decode cX8_pause 17 = .ok (.iload_n 1, 1) := by decide +kernel
theorem dX8_pause_18 : decode cX8_pause 18 = .ok (.iaload, 1) := by decide +kernel
theorem dX8_pause_19 : decode cX8_pause 19 = .ok (.iconst 1, 1) := by decide +kernel
theorem dX8_pause_20 : decode cX8_pause 20 = .ok (.if_icmp .eq 7, 3) := by decide +kernel
theorem dX8_pause_23 : decode cX8_pause 23 = .ok (.iconst 2, 1) := by decide +kernel
theorem dX8_pause_24 : decode cX8_pause 24 = .ok (.goto 4, 3) := by decide +kernel
theorem dX8_pause_27 : decode cX8_pause 27 = .ok (.iconst 0, 1) := by decide +kernel
theorem dX8_pause_28 : decode cX8_pause 28 = .ok (.invokevirtual 144, 3) := by decide +kernel
theorem dX8_pause_31 : decode cX8_pause 31 = .ok (.ifCond .ne 10, 3) := by decide +kernel
theorem dX8_pause_34 : decode cX8_pause 34 = .ok (.aload_n 0, 1) := by decide +kernel
theorem dX8_pause_35 : decode cX8_pause 35 = .ok (.getfield 32, 3) := by decide +kernel
theorem dX8_pause_38 : decode cX8_pause 38 = .ok (.iload_n 1, 1) := by decide +kernel
theorem dX8_pause_39 : decode cX8_pause 39 = .ok (.iconst 2, 1) := by decide +kernel
theorem dX8_pause_40 : decode cX8_pause 40 = .ok (.iastore, 1) := by decide +kernel
theorem dX8_pause_41 : decode cX8_pause 41 = .ok (.return_, 1) := by decide +kernel
theorem dX8_drain_0 : decode cX8_drain 0 = .ok (.aload_n 0, 1) := by decide +kernel
theorem dX8_drain_1 : decode cX8_drain 1 = .ok (.aload_n 0, 1) := by decide +kernel
theorem dX8_drain_2 : decode cX8_drain 2 = .ok (.iload_n 1, 1) := by decide +kernel
theorem dX8_drain_3 : decode cX8_drain 3 = .ok (.invokevirtual 147, 3) := by decide +kernel
theorem dX8_drain_6 : decode cX8_drain 6 = .ok (.ifCond .eq 12, 3) := by decide +kernel
theorem dX8_drain_9 : decode cX8_drain 9 = .ok (.aload_n 0, 1) := by decide +kernel
theorem dX8_drain_10 : decode cX8_drain 10 = .ok (.getfield 17, 3) := by decide +kernel
theorem dX8_drain_13 : decode cX8_drain 13 = .ok (.iload_n 1, 1) := by decide +kernel
theorem dX8_drain_14 : decode cX8_drain 14 = .ok (.baload, 1) := by decide +kernel
theorem dX8_drain_15 : decode cX8_drain 15 = .ok (.ifCond .ne 7, 3) := by decide +kernel
theorem dX8_drain_18 : decode cX8_drain 18 = .ok (.iconst 1, 1) := by decide +kernel
theorem dX8_drain_19 : decode cX8_drain 19 = .ok (.goto 18, 3) := by decide +kernel
theorem dX8_drain_22 : decode cX8_drain 22 = .ok (.aload_n 0, 1) := by decide +kernel
theorem dX8_drain_23 : decode cX8_drain 23 = .ok (.getfield 32, 3) := by decide +kernel
theorem dX8_drain_26 : decode cX8_drain 26 = .ok (.iload_n 1, 1) := by decide +kernel
theorem dX8_drain_27 : decode cX8_drain 27 = .ok (.iaload, 1) := by decide +kernel
theorem dX8_drain_28 : decode cX8_drain 28 = .ok (.iconst 1, 1) := by decide +kernel
theorem dX8_drain_29 : decode cX8_drain 29 = .ok (.if_icmp .eq 7, 3) := by decide +kernel
theorem dX8_drain_32 : decode cX8_drain 32 = .ok (.iconst 2, 1) := by decide +kernel
theorem dX8_drain_33 : decode cX8_drain 33 = .ok (.goto 4, 3) := by decide +kernel
theorem dX8_drain_36 : decode cX8_drain 36 = .ok (.iconst 0, 1) := by decide +kernel
theorem dX8_drain_37 : decode cX8_drain 37 = .ok (.invokevirtual 144, 3) := by decide +kernel
theorem dX8_drain_40 : decode cX8_drain 40 = .ok (.ifCond .ne 17, 3) := by decide +kernel
theorem dX8_drain_43 : decode cX8_drain 43 = .ok (.aload_n 0, 1) := by decide +kernel
theorem dX8_drain_44 : decode cX8_drain 44 = .ok (.getfield 32, 3) := by decide +kernel
theorem dX8_drain_47 : decode cX8_drain 47 = .ok (.iload_n 1, 1) := by decide +kernel
theorem dX8_drain_48 : decode cX8_drain 48 = .ok (.iconst 3, 1) := by decide +kernel
theorem dX8_drain_49 : decode cX8_drain 49 = .ok (.iastore, 1) := by decide +kernel
theorem dX8_drain_50 : decode cX8_drain 50 = .ok (.aload_n 0, 1) := by decide +kernel
theorem dX8_drain_51 : decode cX8_drain 51 = .ok (.getfield 48, 3) := by decide +kernel
theorem dX8_drain_54 : decode cX8_drain 54 = .ok (.iload_n 1, 1) := by decide +kernel
theorem dX8_drain_55 : decode cX8_drain 55 = .ok (.iconst 0, 1) := by decide +kernel
theorem dX8_drain_56 : decode cX8_drain 56 = .ok (.bastore, 1) := by decide +kernel
theorem dX8_drain_57 : decode cX8_drain 57 = .ok (.return_, 1) := by decide +kernel
theorem dX8_state_0 : decode cX8_state 0 = .ok (.aload_n 0, 1) := by decide +kernel
theorem dX8_state_1 : decode cX8_state 1 = .ok (.aload_n 0, 1) := by decide +kernel
theorem dX8_state_2 : decode cX8_state 2 = .ok (.iload_n 1, 1) := by decide +kernel
theorem dX8_state_3 : decode cX8_state 3 = .ok (.invokevirtual 147, 3) := by decide +kernel
theorem dX8_state_6 : decode cX8_state 6 = .ok (.ifCond .eq 7, 3) := by decide +kernel
theorem dX8_state_9 : decode cX8_state 9 = .ok (.iconst 0, 1) := by decide +kernel
theorem dX8_state_10 : decode cX8_state 10 = .ok (.goto 4, 3) := by decide +kernel
theorem dX8_state_13 : decode cX8_state 13 = .ok (.iconst 1, 1) := by decide +kernel
theorem dX8_state_14 : decode cX8_state 14 = .ok (.invokevirtual 144, 3) := by decide +kernel
theorem dX8_state_17 : decode cX8_state 17 = .ok (.ifCond .eq 7, 3) := by decide +kernel
theorem dX8_state_20 : decode cX8_state 20 = .ok (.iconst 0, 1) := by decide +kernel
theorem dX8_state_21 : decode cX8_state 21 = .ok (.goto 9, 3) := by decide +kernel
theorem dX8_state_24 : decode cX8_state 24 = .ok (.aload_n 0, 1) := by decide +kernel
theorem dX8_state_25 : decode cX8_state 25 = .ok (.getfield 32, 3) := by decide +kernel
theorem dX8_state_28 : decode cX8_state 28 = .ok (.iload_n 1, 1) := by decide +kernel
theorem dX8_state_29 : decode cX8_state 29 = .ok (.iaload, 1) := by decide +kernel
theorem dX8_state_30 : decode cX8_state 30 = .ok (.ireturn, 1) := by decide +kernel
theorem dX8_placeOf_0 : decode cX8_placeOf 0 = .ok (.iload_n 0, 1) := by decide +kernel
theorem dX8_placeOf_1 : decode cX8_placeOf 1 = .ok (.i2l, 1) := by decide +kernel
theorem dX8_placeOf_2 : decode cX8_placeOf 2 = .ok (.iload_n 1, 1) := by decide +kernel
theorem dX8_placeOf_3 : decode cX8_placeOf 3 = .ok (.i2l, 1) := by decide +kernel
theorem dX8_placeOf_4 : decode cX8_placeOf 4 = .ok (.lmul, 1) := by decide +kernel
theorem dX8_placeOf_5 : decode cX8_placeOf 5 = .ok (.iload_n 2, 1) := by decide +kernel
theorem dX8_placeOf_6 : decode cX8_placeOf 6 = .ok (.i2l, 1) := by decide +kernel
theorem dX8_placeOf_7 : decode cX8_placeOf 7 = .ok (.ldiv, 1) := by decide +kernel
theorem dX8_placeOf_8 : decode cX8_placeOf 8 = .ok (.l2i, 1) := by decide +kernel
theorem dX8_placeOf_9 : decode cX8_placeOf 9 = .ok (.ireturn, 1) := by decide +kernel
theorem dX8_phaseOf_0 : decode cX8_phaseOf 0 = .ok (.iload_n 0, 1) := by decide +kernel
theorem dX8_phaseOf_1 : decode cX8_phaseOf 1 = .ok (.i2l, 1) := by decide +kernel
theorem dX8_phaseOf_2 : decode cX8_phaseOf 2 = .ok (.iload_n 1, 1) := by decide +kernel
theorem dX8_phaseOf_3 : decode cX8_phaseOf 3 = .ok (.i2l, 1) := by decide +kernel
theorem dX8_phaseOf_4 : decode cX8_phaseOf 4 = .ok (.lmul, 1) := by decide +kernel
theorem dX8_phaseOf_5 : decode cX8_phaseOf 5 = .ok (.iload_n 2, 1) := by decide +kernel
theorem dX8_phaseOf_6 : decode cX8_phaseOf 6 = .ok (.i2l, 1) := by decide +kernel
theorem dX8_phaseOf_7 : decode cX8_phaseOf 7 = .ok (.lrem, 1) := by decide +kernel
theorem dX8_phaseOf_8 : decode cX8_phaseOf 8 = .ok (.ldc2_w 152, 3) := by decide +kernel
theorem dX8_phaseOf_11 : decode cX8_phaseOf 11 = .ok (.lmul, 1) := by decide +kernel
theorem dX8_phaseOf_12 : decode cX8_phaseOf 12 = .ok (.iload_n 2, 1) := by decide +kernel
theorem dX8_phaseOf_13 : decode cX8_phaseOf 13 = .ok (.i2l, 1) := by decide +kernel
theorem dX8_phaseOf_14 : decode cX8_phaseOf 14 = .ok (.ldiv, 1) := by decide +kernel
theorem dX8_phaseOf_15 : decode cX8_phaseOf 15 = .ok (.l2i, 1) := by decide +kernel
theorem dX8_phaseOf_16 : decode cX8_phaseOf 16 = .ok (.ireturn, 1) := by decide +kernel
theorem dX8_sampleAt_0 : decode cX8_sampleAt 0 = .ok (.iload_n 2, 1) := by decide +kernel
theorem dX8_sampleAt_1 : decode cX8_sampleAt 1 = .ok (.ifCond .lt 13, 3) := by decide +kernel
theorem dX8_sampleAt_4 : decode cX8_sampleAt 4 = .ok (.iload_n 2, 1) := by decide +kernel
theorem dX8_sampleAt_5 : decode cX8_sampleAt 5 = .ok (.aload_n 0, 1) := by decide +kernel
theorem dX8_sampleAt_6 : decode cX8_sampleAt 6 = .ok (.getfield 38, 3) := by decide +kernel
theorem dX8_sampleAt_9 : decode cX8_sampleAt 9 = .ok (.iload_n 1, 1) := by decide +kernel
theorem dX8_sampleAt_10 : decode cX8_sampleAt 10 = .ok (.iaload, 1) := by decide +kernel
theorem dX8_sampleAt_11 : decode cX8_sampleAt 11 = .ok (.if_icmp .lt 7, 3) := by decide +kernel
theorem dX8_sampleAt_14 : decode cX8_sampleAt 14 = .ok (.iconst 0, 1) := by decide +kernel
theorem dX8_sampleAt_15 : decode cX8_sampleAt 15 = .ok (.goto 34, 3) := by decide +kernel
theorem dX8_sampleAt_18 : decode cX8_sampleAt 18 = .ok (.iload_n 3, 1) := by decide +kernel
theorem dX8_sampleAt_19 : decode cX8_sampleAt 19 = .ok (.ifCond .eq 18, 3) := by decide +kernel
theorem dX8_sampleAt_22 : decode cX8_sampleAt 22 = .ok (.aload_n 0, 1) := by decide +kernel
theorem dX8_sampleAt_23 : decode cX8_sampleAt 23 = .ok (.getfield 45, 3) := by decide +kernel
theorem dX8_sampleAt_26 : decode cX8_sampleAt 26 = .ok (.sipush 12800, 3) := by decide +kernel
theorem dX8_sampleAt_29 : decode cX8_sampleAt 29 = .ok (.iload_n 1, 1) := by decide +kernel
theorem dX8_sampleAt_30 : decode cX8_sampleAt 30 = .ok (.imul, 1) := by decide +kernel
theorem dX8_sampleAt_31 : decode cX8_sampleAt 31 = .ok (.iload_n 2, 1) := by decide +kernel
theorem dX8_sampleAt_32 : decode cX8_sampleAt 32 = .ok (.iadd, 1) := by decide +kernel
theorem dX8_sampleAt_33 : decode cX8_sampleAt 33 = .ok (.iaload, 1) := by decide +kernel
theorem dX8_sampleAt_34 : decode cX8_sampleAt 34 = .ok (.goto 15, 3) := by decide +kernel
theorem dX8_sampleAt_37 : decode cX8_sampleAt 37 = .ok (.aload_n 0, 1) := by decide +kernel
theorem dX8_sampleAt_38 : decode cX8_sampleAt 38 = .ok (.getfield 42, 3) := by decide +kernel
theorem dX8_sampleAt_41 : decode cX8_sampleAt 41 = .ok (.sipush 12800, 3) := by decide +kernel
theorem dX8_sampleAt_44 : decode cX8_sampleAt 44 = .ok (.iload_n 1, 1) := by decide +kernel
theorem dX8_sampleAt_45 : decode cX8_sampleAt 45 = .ok (.imul, 1) := by decide +kernel
theorem dX8_sampleAt_46 : decode cX8_sampleAt 46 = .ok (.iload_n 2, 1) := by decide +kernel
theorem dX8_sampleAt_47 : decode cX8_sampleAt 47 = .ok (.iadd, 1) := by decide +kernel
theorem dX8_sampleAt_48 : decode cX8_sampleAt 48 = .ok (.iaload, 1) := by decide +kernel
theorem dX8_sampleAt_49 : decode cX8_sampleAt 49 = .ok (.ireturn, 1) := by decide +kernel
theorem dX8_between_0 : decode cX8_between 0 = .ok (.iload_n 2, 1) := by decide +kernel
theorem dX8_between_1 : decode cX8_between 1 = .ok (.iload_n 3, 1) := by decide +kernel
theorem dX8_between_2 : decode cX8_between 2 = .ok (.iload 4, 2) := by decide +kernel
theorem dX8_between_4 : decode cX8_between 4 = .ok (.invokestatic 154, 3) := by decide +kernel
theorem dX8_between_7 : decode cX8_between 7 = .ok (.istore 6, 2) := by decide +kernel
theorem dX8_between_9 : decode cX8_between 9 = .ok (.iload_n 3, 1) := by decide +kernel
theorem dX8_between_10 : decode cX8_between 10 = .ok (.iload 4, 2) := by decide +kernel
theorem dX8_between_12 : decode cX8_between 12 = .ok (.if_icmp .ne 13, 3) := by decide +kernel
theorem dX8_between_15 : decode cX8_between 15 = .ok (.aload_n 0, 1) := by decide +kernel
theorem dX8_between_16 : decode cX8_between 16 = .ok (.iload_n 1, 1) := by decide +kernel
theorem dX8_between_17 : decode cX8_between 17 = .ok (.iload 6, 2) := by decide +kernel
theorem dX8_between_19 : decode cX8_between 19 = .ok (.iload 5, 2) := by decide +kernel
theorem dX8_between_21 : decode cX8_between 21 = .ok (.invokevirtual 158, 3) := by decide +kernel
theorem dX8_between_24 : decode cX8_between 24 = .ok (.ireturn, 1) := by decide +kernel
theorem dX8_between_25 : decode cX8_between 25 = .ok (.iload_n 2, 1) := by decide +kernel
theorem dX8_between_26 : decode cX8_between 26 = .ok (.iload_n 3, 1) := by decide +kernel
theorem dX8_between_27 : decode cX8_between 27 = .ok (.iload 4, 2) := by decide +kernel
theorem dX8_between_29 : decode cX8_between 29 = .ok (.invokestatic 162, 3) := by decide +kernel
theorem dX8_between_32 : decode cX8_between 32 = .ok (.istore 7, 2) := by decide +kernel
theorem dX8_between_34 : decode cX8_between 34 = .ok (.lconst 0, 1) := by decide +kernel
theorem dX8_between_35 : decode cX8_between 35 = .ok (.lstore 8, 2) := by decide +kernel
theorem dX8_between_37 : decode cX8_between 37 = .ok (.iconst 0, 1) := by decide +kernel
theorem dX8_between_38 : decode cX8_between 38 = .ok (.istore 10, 2) := by decide +kernel
theorem dX8_between_40 : decode cX8_between 40 = .ok (.iload 10, 2) := by decide +kernel
theorem dX8_between_42 : decode cX8_between 42 = .ok (.bipush 16, 2) := by decide +kernel
theorem dX8_between_44 : decode cX8_between 44 = .ok (.if_icmp .ge 45, 3) := by decide +kernel
theorem dX8_between_47 : decode cX8_between 47 = .ok (.lload 8, 2) := by decide +kernel
theorem dX8_between_49 : decode cX8_between 49 = .ok (.aload_n 0, 1) := by decide +kernel
theorem dX8_between_50 : decode cX8_between 50 = .ok (.getfield 7, 3) := by decide +kernel
theorem dX8_between_53 : decode cX8_between 53 = .ok (.bipush 16, 2) := by decide +kernel
theorem dX8_between_55 : decode cX8_between 55 = .ok (.iload 7, 2) := by decide +kernel
theorem dX8_between_57 : decode cX8_between 57 = .ok (.imul, 1) := by decide +kernel
theorem dX8_between_58 : decode cX8_between 58 = .ok (.iload 10, 2) := by decide +kernel
theorem dX8_between_60 : decode cX8_between 60 = .ok (.iadd, 1) := by decide +kernel
theorem dX8_between_61 : decode cX8_between 61 = .ok (.iaload, 1) := by decide +kernel
theorem dX8_between_62 : decode cX8_between 62 = .ok (.i2l, 1) := by decide +kernel
theorem dX8_between_63 : decode cX8_between 63 = .ok (.aload_n 0, 1) := by decide +kernel
theorem dX8_between_64 : decode cX8_between 64 = .ok (.iload_n 1, 1) := by decide +kernel
theorem dX8_between_65 : decode cX8_between 65 = .ok (.iload 6, 2) := by decide +kernel
theorem dX8_between_67 : decode cX8_between 67 = .ok (.iload 10, 2) := by decide +kernel
theorem dX8_between_69 : decode cX8_between 69 = .ok (.iadd, 1) := by decide +kernel
theorem dX8_between_70 : decode cX8_between 70 = .ok (.bipush 7, 2) := by decide +kernel
theorem dX8_between_72 : decode cX8_between 72 = .ok (.isub, 1) := by decide +kernel
theorem dX8_between_73 : decode cX8_between 73 = .ok (.iload 5, 2) := by decide +kernel
theorem dX8_between_75 : decode cX8_between 75 = .ok (.invokevirtual 158, 3) := by decide +kernel
theorem dX8_between_78 : decode cX8_between 78 = .ok (.i2l, 1) := by decide +kernel
theorem dX8_between_79 : decode cX8_between 79 = .ok (.lmul, 1) := by decide +kernel
theorem dX8_between_80 : decode cX8_between 80 = .ok (.ladd, 1) := by decide +kernel
theorem dX8_between_81 : decode cX8_between 81 = .ok (.lstore 8, 2) := by decide +kernel
theorem dX8_between_83 : decode cX8_between 83 = .ok (.iinc 10 1, 3) := by decide +kernel
theorem dX8_between_86 : decode cX8_between 86 = .ok (.goto (-46), 3) := by decide +kernel
theorem dX8_between_89 : decode cX8_between 89 = .ok (.lload 8, 2) := by decide +kernel
theorem dX8_between_91 : decode cX8_between 91 = .ok (.ldc2_w 165, 3) := by decide +kernel
theorem dX8_between_94 : decode cX8_between 94 = .ok (.invokestatic 134, 3) := by decide +kernel
theorem dX8_between_97 : decode cX8_between 97 = .ok (.l2i, 1) := by decide +kernel
theorem dX8_between_98 : decode cX8_between 98 = .ok (.ireturn, 1) := by decide +kernel
theorem dX8_isBacked_0 : decode cX8_isBacked 0 = .ok (.iload_n 2, 1) := by decide +kernel
theorem dX8_isBacked_1 : decode cX8_isBacked 1 = .ok (.iload_n 3, 1) := by decide +kernel
theorem dX8_isBacked_2 : decode cX8_isBacked 2 = .ok (.iload 4, 2) := by decide +kernel
theorem dX8_isBacked_4 : decode cX8_isBacked 4 = .ok (.invokestatic 154, 3) := by decide +kernel
theorem dX8_isBacked_7 : decode cX8_isBacked 7 = .ok (.iload_n 3, 1) := by decide +kernel
theorem dX8_isBacked_8 : decode cX8_isBacked 8 = .ok (.iload 4, 2) := by decide +kernel
theorem dX8_isBacked_10 : decode cX8_isBacked 10 = .ok (.if_icmp .ne 7, 3) := by decide +kernel
theorem dX8_isBacked_13 : decode cX8_isBacked 13 = .ok (.iconst 0, 1) := by decide +kernel
theorem dX8_isBacked_14 : decode cX8_isBacked 14 = .ok (.goto 5, 3) := by decide +kernel
theorem dX8_isBacked_17 : decode cX8_isBacked 17 = .ok (.bipush 8, 2) := by decide +kernel
theorem dX8_isBacked_19 : decode cX8_isBacked 19 = .ok (.iadd, 1) := by decide +kernel
theorem dX8_isBacked_20 : decode cX8_isBacked 20 = .ok (.aload_n 0, 1) := by decide +kernel
theorem dX8_isBacked_21 : decode cX8_isBacked 21 = .ok (.getfield 38, 3) := by decide +kernel
theorem dX8_isBacked_24 : decode cX8_isBacked 24 = .ok (.iload_n 1, 1) := by decide +kernel
theorem dX8_isBacked_25 : decode cX8_isBacked 25 = .ok (.iaload, 1) := by decide +kernel
theorem dX8_isBacked_26 : decode cX8_isBacked 26 = .ok (.if_icmp .ge 7, 3) := by decide +kernel
theorem dX8_isBacked_29 : decode cX8_isBacked 29 = .ok (.iconst 1, 1) := by decide +kernel
theorem dX8_isBacked_30 : decode cX8_isBacked 30 = .ok (.goto 4, 3) := by decide +kernel
theorem dX8_isBacked_33 : decode cX8_isBacked 33 = .ok (.iconst 0, 1) := by decide +kernel
theorem dX8_isBacked_34 : decode cX8_isBacked 34 = .ok (.ireturn, 1) := by decide +kernel
