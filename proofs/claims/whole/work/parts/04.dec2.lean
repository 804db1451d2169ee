theorem dX8_place_0 : decode cX8_place 0 = .ok (.aload_n 0, 1) := by decide +kernel
theorem dX8_place_1 : decode cX8_place 1 = .ok (.getfield 54, 3) := by decide +kernel
theorem dX8_place_4 : decode cX8_place 4 = .ok (.iload_n 1, 1) := by decide +kernel
theorem dX8_place_5 : decode cX8_place 5 = .ok (.iaload, 1) := by decide +kernel
theorem dX8_place_6 : decode cX8_place 6 = .ok (.aload_n 0, 1) := by decide +kernel
theorem dX8_place_7 : decode cX8_place 7 = .ok (.getfield 20, 3) := by decide +kernel
theorem dX8_place_10 : decode cX8_place 10 = .ok (.iload_n 1, 1) := by decide +kernel
theorem dX8_place_11 : decode cX8_place 11 = .ok (.iaload, 1) := by decide +kernel
theorem dX8_place_12 : decode cX8_place 12 = .ok (.ldc 139, 2) := by decide +kernel
theorem dX8_place_14 : decode cX8_place 14 = .ok (.invokestatic 154, 3) := by decide +kernel
theorem dX8_place_17 : decode cX8_place 17 = .ok (.ireturn, 1) := by decide +kernel
theorem dX8_toSample_0 : decode cX8_toSample 0 = .ok (.aload_n 0, 1) := by decide +kernel
theorem dX8_toSample_1 : decode cX8_toSample 1 = .ok (.getfield 26, 3) := by decide +kernel
theorem dX8_toSample_4 : decode cX8_toSample 4 = .ok (.iload_n 1, 1) := by decide +kernel
theorem dX8_toSample_5 : decode cX8_toSample 5 = .ok (.iaload, 1) := by decide +kernel
theorem dX8_toSample_6 : decode cX8_toSample 6 = .ok (.bipush 8, 2) := by decide +kernel
theorem dX8_toSample_8 : decode cX8_toSample 8 = .ok (.if_icmp .ne 15, 3) := by decide +kernel
theorem dX8_toSample_11 : decode cX8_toSample 11 = .ok (.iload_n 2, 1) := by decide +kernel
theorem dX8_toSample_12 : decode cX8_toSample 12 = .ok (.sipush 128, 3) := by decide +kernel
theorem dX8_toSample_15 : decode cX8_toSample 15 = .ok (.isub, 1) := by decide +kernel
theorem dX8_toSample_16 : decode cX8_toSample 16 = .ok (.sipush 256, 3) := by decide +kernel
theorem dX8_toSample_19 : decode cX8_toSample 19 = .ok (.imul, 1) := by decide +kernel
theorem dX8_toSample_20 : decode cX8_toSample 20 = .ok (.goto 4, 3) := by decide +kernel
theorem dX8_toSample_23 : decode cX8_toSample 23 = .ok (.iload_n 2, 1) := by decide +kernel
theorem dX8_toSample_24 : decode cX8_toSample 24 = .ok (.ireturn, 1) := by decide +kernel
theorem dX8_isNumber_0 : decode cX8_isNumber 0 = .ok (.aload_n 0, 1) := by decide +kernel
theorem dX8_isNumber_1 : decode cX8_isNumber 1 = .ok (.getfield 26, 3) := by decide +kernel
theorem dX8_isNumber_4 : decode cX8_isNumber 4 = .ok (.iload_n 1, 1) := by decide +kernel
theorem dX8_isNumber_5 : decode cX8_isNumber 5 = .ok (.iaload, 1) := by decide +kernel
theorem dX8_isNumber_6 : decode cX8_isNumber 6 = .ok (.bipush 8, 2) := by decide +kernel
theorem dX8_isNumber_8 : decode cX8_isNumber 8 = .ok (.if_icmp .ne 14, 3) := by decide +kernel
theorem dX8_isNumber_11 : decode cX8_isNumber 11 = .ok (.iload_n 2, 1) := by decide +kernel
theorem dX8_isNumber_12 : decode cX8_isNumber 12 = .ok (.iconst 0, 1) := by decide +kernel
theorem dX8_isNumber_13 : decode cX8_isNumber 13 = .ok (.sipush 255, 3) := by decide +kernel
theorem dX8_isNumber_16 : decode cX8_isNumber 16 = .ok (.invokestatic 130, 3) := by decide +kernel
theorem dX8_isNumber_19 : decode cX8_isNumber 19 = .ok (.goto 13, 3) := by decide +kernel
theorem dX8_isNumber_22 : decode cX8_isNumber 22 = .ok (.iload_n 2, 1) := by decide +kernel
theorem dX8_isNumber_23 : decode cX8_isNumber 23 = .ok (.sipush (-32768), 3) := by decide +kernel
theorem dX8_isNumber_26 : decode cX8_isNumber 26 = .ok (.sipush 32767, 3) := by decide +kernel
theorem dX8_isNumber_29 : decode cX8_isNumber 29 = .ok (.invokestatic 130, 3) := by decide +kernel
theorem dX8_isNumber_32 : decode cX8_isNumber 32 = .ok (.ireturn, 1) := by decide +kernel
theorem dX8_spare_0 : decode cX8_spare 0 = .ok (.sipush 200, 3) := by decide +kernel
theorem dX8_spare_3 : decode cX8_spare 3 = .ok (.aload_n 0, 1) := by decide +kernel
theorem dX8_spare_4 : decode cX8_spare 4 = .ok (.getfield 38, 3) := by decide +kernel
theorem dX8_spare_7 : decode cX8_spare 7 = .ok (.iload_n 1, 1) := by decide +kernel
theorem dX8_spare_8 : decode cX8_spare 8 = .ok (.iaload, 1) := by decide +kernel
theorem dX8_spare_9 : decode cX8_spare 9 = .ok (.aload_n 0, 1) := by decide +kernel
theorem dX8_spare_10 : decode cX8_spare 10 = .ok (.iload_n 1, 1) := by decide +kernel
theorem dX8_spare_11 : decode cX8_spare 11 = .ok (.invokevirtual 167, 3) := by decide +kernel
theorem dX8_spare_14 : decode cX8_spare 14 = .ok (.isub, 1) := by decide +kernel
theorem dX8_spare_15 : decode cX8_spare 15 = .ok (.isub, 1) := by decide +kernel
theorem dX8_spare_16 : decode cX8_spare 16 = .ok (.ireturn, 1) := by decide +kernel
theorem dX8_add_0 : decode cX8_add 0 = .ok (.aload_n 0, 1) := by decide +kernel
theorem dX8_add_1 : decode cX8_add 1 = .ok (.getfield 42, 3) := by decide +kernel
theorem dX8_add_4 : decode cX8_add 4 = .ok (.sipush 12800, 3) := by decide +kernel
theorem dX8_add_7 : decode cX8_add 7 = .ok (.iload_n 1, 1) := by decide +kernel
theorem dX8_add_8 : decode cX8_add 8 = .ok (.imul, 1) := by decide +kernel
theorem dX8_add_9 : decode cX8_add 9 = .ok (.aload_n 0, 1) := by decide +kernel
theorem dX8_add_10 : decode cX8_add 10 = .ok (.getfield 38, 3) := by decide +kernel
theorem dX8_add_13 : decode cX8_add 13 = .ok (.iload_n 1, 1) := by decide +kernel
theorem dX8_add_14 : decode cX8_add 14 = .ok (.iaload, 1) := by decide +kernel
theorem dX8_add_15 : decode cX8_add 15 = .ok (.iadd, 1) := by decide +kernel
theorem dX8_add_16 : decode cX8_add 16 = .ok (.iload_n 2, 1) := by decide +kernel
theorem dX8_add_17 : decode cX8_add 17 = .ok (.iastore, 1) := by decide +kernel
theorem dX8_add_18 : decode cX8_add 18 = .ok (.aload_n 0, 1) := by decide +kernel
theorem dX8_add_19 : decode cX8_add 19 = .ok (.getfield 45, 3) := by decide +kernel
theorem dX8_add_22 : decode cX8_add 22 = .ok (.sipush 12800, 3) := by decide +kernel
theorem dX8_add_25 : decode cX8_add 25 = .ok (.iload_n 1, 1) := by decide +kernel
theorem dX8_add_26 : decode cX8_add 26 = .ok (.imul, 1) := by decide +kernel
theorem dX8_add_27 : decode cX8_add 27 = .ok (.aload_n 0, 1) := by decide +kernel
theorem dX8_add_28 : decode cX8_add 28 = .ok (.getfield 38, 3) := by decide +kernel
theorem dX8_add_31 : decode cX8_add 31 = .ok (.iload_n 1, 1) := by decide +kernel
theorem dX8_add_32 : decode cX8_add 32 = .ok (.iaload, 1) := by decide +kernel
theorem dX8_add_33 : decode cX8_add 33 = .ok (.iadd, 1) := by decide +kernel
theorem dX8_add_34 : decode cX8_add 34 = .ok (.iload_n 3, 1) := by decide +kernel
theorem dX8_add_35 : decode cX8_add 35 = .ok (.iastore, 1) := by decide +kernel
theorem dX8_add_36 : decode cX8_add 36 = .ok (.aload_n 0, 1) := by decide +kernel
theorem dX8_add_37 : decode cX8_add 37 = .ok (.getfield 38, 3) := by decide +kernel
theorem dX8_add_40 : decode cX8_add 40 = .ok (.iload_n 1, 1) := by decide +kernel
theorem dX8_add_41 : decode cX8_add 41 = .ok (.dup2, 1) := by decide +kernel
theorem dX8_add_42 : decode cX8_add 42 = .ok (.iaload, 1) := by decide +kernel
theorem dX8_add_43 : decode cX8_add 43 = .ok (.iconst 1, 1) := by decide +kernel
theorem dX8_add_44 : decode cX8_add 44 = .ok (.iadd, 1) := by decide +kernel
theorem dX8_add_45 : decode cX8_add 45 = .ok (.iastore, 1) := by decide +kernel
theorem dX8_add_46 : decode cX8_add 46 = .ok (.return_, 1) := by decide +kernel
theorem dX8_write_0 : decode cX8_write 0 = .ok (.aload_n 0, 1) := by decide +kernel
theorem dX8_write_1 : decode cX8_write 1 = .ok (.iload_n 1, 1) := by decide +kernel
theorem dX8_write_2 : decode cX8_write 2 = .ok (.invokevirtual 147, 3) := by decide +kernel
theorem dX8_write_5 : decode cX8_write 5 = .ok (.ifCond .eq 25, 3) := by decide +kernel
theorem dX8_write_8 : decode cX8_write 8 = .ok (.aload_n 0, 1) := by decide +kernel
theorem dX8_write_9 : decode cX8_write 9 = .ok (.getfield 17, 3) := by decide +kernel
theorem dX8_write_12 : decode cX8_write 12 = .ok (.iload_n 1, 1) := by decide +kernel
theorem dX8_write_13 : decode cX8_write 13 = .ok (.baload, 1) := by decide +kernel
theorem dX8_write_14 : decode cX8_write 14 = .ok (.ifCond .eq 16, 3) := by decide +kernel
theorem dX8_write_17 : decode cX8_write 17 = .ok (.aload_n 0, 1) := by decide +kernel
theorem dX8_write_18 : decode cX8_write 18 = .ok (.iload_n 1, 1) := by decide +kernel
theorem dX8_write_19 : decode cX8_write 19 = .ok (.iload_n 2, 1) := by decide +kernel
theorem dX8_write_20 : decode cX8_write 20 = .ok (.invokevirtual 171, 3) := by decide +kernel
theorem dX8_write_23 : decode cX8_write 23 = .ok (.ifCond .eq 7, 3) := by decide +kernel
theorem dX8_write_26 : decode cX8_write 26 = .ok (.iconst 1, 1) := by decide +kernel
theorem dX8_write_27 : decode cX8_write 27 = .ok (.goto 4, 3) := by decide +kernel
theorem dX8_write_30 : decode cX8_write 30 = .ok (.iconst 0, 1) := by decide +kernel
theorem dX8_write_31 : decode cX8_write 31 = .ok (.istore_n 3, 1) := by decide +kernel
theorem dX8_write_32 : decode cX8_write 32 = .ok (.aload_n 0, 1) := by decide +kernel
theorem dX8_write_33 : decode cX8_write 33 = .ok (.iload_n 3, 1) := by decide +kernel
theorem dX8_write_34 : decode cX8_write 34 = .ok (.ifCond .ne 7, 3) := by decide +kernel
theorem dX8_write_37 : decode cX8_write 37 = .ok (.iconst 1, 1) := by decide +kernel
theorem dX8_write_38 : decode cX8_write 38 = .ok (.goto 18, 3) := by decide +kernel
theorem dX8_write_41 : decode cX8_write 41 = .ok (.aload_n 0, 1) := by decide +kernel
theorem dX8_write_42 : decode cX8_write 42 = .ok (.getfield 32, 3) := by decide +kernel
theorem dX8_write_45 : decode cX8_write 45 = .ok (.iload_n 1, 1) := by decide +kernel
theorem dX8_write_46 : decode cX8_write 46 = .ok (.iaload, 1) := by decide +kernel
theorem dX8_write_47 : decode cX8_write 47 = .ok (.iconst 2, 1) := by decide +kernel
theorem dX8_write_48 : decode cX8_write 48 = .ok (.if_icmp .le 7, 3) := by decide +kernel
theorem dX8_write_51 : decode cX8_write 51 = .ok (.iconst 2, 1) := by decide +kernel
theorem dX8_write_52 : decode cX8_write 52 = .ok (.goto 4, 3) := by decide +kernel
theorem dX8_write_55 : decode cX8_write 55 = .ok (.iconst 0, 1) := by decide +kernel
theorem dX8_write_56 : decode cX8_write 56 = .ok (.invokevirtual 144, 3) := by decide +kernel
theorem dX8_write_59 : decode cX8_write 59 = .ok (.ifCond .eq 5, 3) := by decide +kernel
theorem dX8_write_62 : decode cX8_write 62 = .ok (.iconst 0, 1) := by decide +kernel
theorem dX8_write_63 : decode cX8_write 63 = .ok (.ireturn, 1) := by decide +kernel
theorem dX8_write_64 : decode cX8_write 64 = .ok (.aload_n 0, 1) := by decide +kernel
theorem dX8_write_65 : decode cX8_write 65 = .ok (.iload_n 1, 1) := by decide +kernel
theorem dX8_write_66 : decode cX8_write 66 = .ok (.invokevirtual 175, 3) := by decide +kernel
theorem dX8_write_69 : decode cX8_write 69 = .ok (.ifCond .gt 5, 3) := by decide +kernel
theorem dX8_write_72 : decode cX8_write 72 = .ok (.iconst 0, 1) := by decide +kernel
theorem dX8_write_73 : decode cX8_write 73 = .ok (.ireturn, 1) := by decide +kernel
theorem dX8_write_74 : decode cX8_write 74 = .ok (.aload_n 0, 1) := by decide +kernel
theorem dX8_write_75 : decode cX8_write 75 = .ok (.iload_n 1, 1) := by decide +kernel
theorem dX8_write_76 : decode cX8_write 76 = .ok (.iload_n 2, 1) := by decide +kernel
theorem dX8_write_77 : decode cX8_write 77 = .ok (.invokevirtual 178, 3) := by decide +kernel
theorem dX8_write_80 : decode cX8_write 80 = .ok (.istore 4, 2) := by decide +kernel
theorem dX8_write_82 : decode cX8_write 82 = .ok (.aload_n 0, 1) := by decide +kernel
theorem dX8_write_83 : decode cX8_write 83 = .ok (.getfield 23, 3) := by decide +kernel
theorem dX8_write_86 : decode cX8_write 86 = .ok (.iload_n 1, 1) := by decide +kernel
theorem dX8_write_87 : decode cX8_write 87 = .ok (.iaload, 1) := by decide +kernel
theorem dX8_write_88 : decode cX8_write 88 = .ok (.iconst 1, 1) := by decide +kernel
theorem dX8_write_89 : decode cX8_write 89 = .ok (.if_icmp .ne 15, 3) := by decide +kernel
theorem dX8_write_92 : decode cX8_write 92 = .ok (.aload_n 0, 1) := by decide +kernel
theorem dX8_write_93 : decode cX8_write 93 = .ok (.iload_n 1, 1) := by decide +kernel
theorem dX8_write_94 : decode cX8_write 94 = .ok (.iload 4, 2) := by decide +kernel
theorem dX8_write_96 : decode cX8_write 96 = .ok (.iload 4, 2) := by decide +kernel
theorem dX8_write_98 : decode cX8_write 98 = .ok (.invokevirtual 181, 3) := by decide +kernel
theorem dX8_write_101 : decode cX8_write 101 = .ok (.goto 50, 3) := by decide +kernel
theorem dX8_write_104 : decode cX8_write 104 = .ok (.aload_n 0, 1) := by decide +kernel
theorem dX8_write_105 : decode cX8_write 105 = .ok (.getfield 48, 3) := by decide +kernel
theorem dX8_write_108 : decode cX8_write 108 = .ok (.iload_n 1, 1) := by decide +kernel
theorem dX8_write_109 : decode cX8_write 109 = .ok (.baload, 1) := by decide +kernel
theorem dX8_write_110 : decode cX8_write 110 = .ok (.ifCond .eq 26, 3) := by decide +kernel
theorem dX8_write_113 : decode cX8_write 113 = .ok (.aload_n 0, 1) := by decide +kernel
theorem dX8_write_114 : decode cX8_write 114 = .ok (.iload_n 1, 1) := by decide +kernel
theorem dX8_write_115 : decode cX8_write 115 = .ok (.aload_n 0, 1) := by decide +kernel
theorem dX8_write_116 : decode cX8_write 116 = .ok (.getfield 51, 3) := by decide +kernel
theorem dX8_write_119 : decode cX8_write 119 = .ok (.iload_n 1, 1) := by decide +kernel
theorem dX8_write_120 : decode cX8_write 120 = .ok (.iaload, 1) := by decide +kernel
theorem dX8_write_121 : decode cX8_write 121 = .ok (.iload 4, 2) := by decide +kernel
theorem dX8_write_123 : decode cX8_write 123 = .ok (.invokevirtual 181, 3) := by decide +kernel
theorem dX8_write_126 : decode cX8_write 126 = .ok (.aload_n 0, 1) := by decide +kernel
theorem dX8_write_127 : decode cX8_write 127 = .ok (.getfield 48, 3) := by decide +kernel
theorem dX8_write_130 : decode cX8_write 130 = .ok (.iload_n 1, 1) := by decide +kernel
theorem dX8_write_131 : decode cX8_write 131 = .ok (.iconst 0, 1) := by decide +kernel
theorem dX8_write_132 : decode cX8_write 132 = .ok (.bastore, 1) := by decide +kernel
theorem dX8_write_133 : decode cX8_write 133 = .ok (.goto 18, 3) := by decide +kernel
theorem dX8_write_136 : decode cX8_write 136 = .ok (.aload_n 0, 1) := by decide +kernel
theorem dX8_write_137 : decode cX8_write 137 = .ok (.getfield 51, 3) := by decide +kernel
theorem dX8_write_140 : decode cX8_write 140 = .ok (.iload_n 1, 1) := by decide +kernel
theorem dX8_write_141 : decode cX8_write 141 = .ok (.iload 4, 2) := by decide +kernel
theorem dX8_write_143 : decode cX8_write 143 = .ok (.iastore, 1) := by decide +kernel
theorem dX8_write_144 : decode cX8_write 144 = .ok (.aload_n 0, 1) := by decide +kernel
theorem dX8_write_145 : decode cX8_write 145 = .ok (.getfield 48, 3) := by decide +kernel
theorem dX8_write_148 : decode cX8_write 148 = .ok (.iload_n 1, 1) := by decide +kernel
theorem dX8_write_149 : decode cX8_write 149 = .ok (.iconst 1, 1) := by decide +kernel
theorem dX8_write_150 : decode cX8_write 150 = .ok (.bastore, 1) := by decide +kernel
theorem dX8_write_151 : decode cX8_write 151 = .ok (.iconst 1, 1) := by decide +kernel
theorem dX8_write_152 : decode cX8_write 152 = .ok (.ireturn, 1) := by decide +kernel
theorem dX8_toNumber_0 : decode cX8_toNumber 0 = .ok (.aload_n 0, 1) := by decide +kernel
theorem dX8_toNumber_1 : decode cX8_toNumber 1 = .ok (.getfield 26, 3) := by decide +kernel
theorem dX8_toNumber_4 : decode cX8_toNumber 4 = .ok (.iload_n 1, 1) := by decide +kernel
theorem dX8_toNumber_5 : decode cX8_toNumber 5 = .ok (.iaload, 1) := by decide +kernel
theorem dX8_toNumber_6 : decode cX8_toNumber 6 = .ok (.bipush 8, 2) := by decide +kernel
theorem dX8_toNumber_8 : decode cX8_toNumber 8 = .ok (.if_icmp .ne 17, 3) := by decide +kernel
theorem dX8_toNumber_11 : decode cX8_toNumber 11 = .ok (.iload_n 2, 1) := by decide +kernel
theorem dX8_toNumber_12 : decode cX8_toNumber 12 = .ok (.sipush 256, 3) := by decide +kernel
theorem dX8_toNumber_15 : decode cX8_toNumber 15 = .ok (.invokestatic 185, 3) := by decide +kernel
theorem dX8_toNumber_18 : decode cX8_toNumber 18 = .ok (.sipush 128, 3) := by decide +kernel
theorem dX8_toNumber_21 : decode cX8_toNumber 21 = .ok (.iadd, 1) := by decide +kernel
theorem dX8_toNumber_22 : decode cX8_toNumber 22 = .ok (.goto 4, 3) := by decide +kernel
theorem dX8_toNumber_25 : decode cX8_toNumber 25 = .ok (.iload_n 2, 1) := by decide +kernel
theorem dX8_toNumber_26 : decode cX8_toNumber 26 = .ok (.ireturn, 1) := by decide +kernel
theorem dX8_read_0 : decode cX8_read 0 = .ok (.aload_n 0, 1) := by decide +kernel
theorem dX8_read_1 : decode cX8_read 1 = .ok (.iload_n 1, 1) := by decide +kernel
theorem dX8_read_2 : decode cX8_read 2 = .ok (.invokevirtual 147, 3) := by decide +kernel
theorem dX8_read_5 : decode cX8_read 5 = .ok (.ifCond .eq 16, 3) := by decide +kernel
theorem dX8_read_8 : decode cX8_read 8 = .ok (.aload_n 0, 1) := by decide +kernel
theorem dX8_read_9 : decode cX8_read 9 = .ok (.getfield 17, 3) := by decide +kernel
theorem dX8_read_12 : decode cX8_read 12 = .ok (.iload_n 1, 1) := by decide +kernel
theorem dX8_read_13 : decode cX8_read 13 = .ok (.baload, 1) := by decide +kernel
theorem dX8_read_14 : decode cX8_read 14 = .ok (.ifCond .ne 7, 3) := by decide +kernel
theorem dX8_read_17 : decode cX8_read 17 = .ok (.iconst 1, 1) := by decide +kernel
theorem dX8_read_18 : decode cX8_read 18 = .ok (.goto 4, 3) := by decide +kernel
theorem dX8_read_21 : decode cX8_read 21 = .ok (.iconst 0, 1) := by decide +kernel
theorem dX8_read_22 : decode cX8_read 22 = .ok (.istore_n 2, 1) := by decide +kernel
theorem dX8_read_23 : decode cX8_read 23 = .ok (.aload_n 0, 1) := by decide +kernel
theorem dX8_read_24 : decode cX8_read 24 = .ok (.iload_n 2, 1) := by decide +kernel
theorem dX8_read_25 : decode cX8_read 25 = .ok (.ifCond .ne 7, 3) := by decide +kernel
theorem dX8_read_28 : decode cX8_read 28 = .ok (.iconst 1, 1) := by decide +kernel
theorem dX8_read_29 : decode cX8_read 29 = .ok (.goto 17, 3) := by decide +kernel
theorem dX8_read_32 : decode cX8_read 32 = .ok (.aload_n 0, 1) := by decide +kernel
theorem dX8_read_33 : decode cX8_read 33 = .ok (.getfield 73, 3) := by decide +kernel
theorem dX8_read_36 : decode cX8_read 36 = .ok (.iload_n 1, 1) := by decide +kernel
theorem dX8_read_37 : decode cX8_read 37 = .ok (.iaload, 1) := by decide +kernel
theorem dX8_read_38 : decode cX8_read 38 = .ok (.ifCond .ne 7, 3) := by decide +kernel
theorem dX8_read_41 : decode cX8_read 41 = .ok (.iconst 2, 1) := by decide +kernel
theorem dX8_read_42 : decode cX8_read 42 = .ok (.goto 4, 3) := by decide +kernel
theorem dX8_read_45 : decode cX8_read 45 = .ok (.iconst 0, 1) := by decide +kernel
theorem dX8_read_46 : decode cX8_read 46 = .ok (.invokevirtual 144, 3) := by decide +kernel
theorem dX8_read_49 : decode cX8_read 49 = .ok (.ifCond .eq 5, 3) := by decide +kernel
theorem dX8_read_52 : decode cX8_read 52 = .ok (.iconst 0, 1) := by decide +kernel
theorem dX8_read_53 : decode cX8_read 53 = .ok (.ireturn, 1) := by decide +kernel
theorem dX8_read_54 : decode cX8_read 54 = .ok (.aload_n 0, 1) := by decide +kernel
theorem dX8_read_55 : decode cX8_read 55 = .ok (.getfield 76, 3) := by decide +kernel
theorem dX8_read_58 : decode cX8_read 58 = .ok (.sipush 12800, 3) := by decide +kernel
theorem dX8_read_61 : decode cX8_read 61 = .ok (.iload_n 1, 1) := by decide +kernel
theorem dX8_read_62 : decode cX8_read 62 = .ok (.imul, 1) := by decide +kernel
theorem dX8_read_63 : decode cX8_read 63 = .ok (.iaload, 1) := by decide +kernel
theorem dX8_read_64 : decode cX8_read 64 = .ok (.istore_n 3, 1) := by decide +kernel
theorem dX8_read_65 : decode cX8_read 65 = .ok (.aload_n 0, 1) := by decide +kernel
theorem dX8_read_66 : decode cX8_read 66 = .ok (.iload_n 1, 1) := by decide +kernel
theorem dX8_read_67 : decode cX8_read 67 = .ok (.iload_n 3, 1) := by decide +kernel
theorem dX8_read_68 : decode cX8_read 68 = .ok (.ldc 139, 2) := by decide +kernel
theorem dX8_read_70 : decode cX8_read 70 = .ok (.aload_n 0, 1) := by decide +kernel
theorem dX8_read_71 : decode cX8_read 71 = .ok (.getfield 20, 3) := by decide +kernel
theorem dX8_read_74 : decode cX8_read 74 = .ok (.iload_n 1, 1) := by decide +kernel
theorem dX8_read_75 : decode cX8_read 75 = .ok (.iaload, 1) := by decide +kernel
theorem dX8_read_76 : decode cX8_read 76 = .ok (.iconst 0, 1) := by decide +kernel
theorem dX8_read_77 : decode cX8_read 77 = .ok (.invokevirtual 188, 3) := by decide +kernel
theorem dX8_read_80 : decode cX8_read 80 = .ok (.istore 4, 2) := by decide +kernel
theorem dX8_read_82 : decode cX8_read 82 = .ok (.aload_n 0, 1) := by decide +kernel
theorem dX8_read_83 : decode cX8_read 83 = .ok (.iload_n 1, 1) := by decide +kernel
theorem dX8_read_84 : decode cX8_read 84 = .ok (.iload_n 3, 1) := by decide +kernel
theorem dX8_read_85 : decode cX8_read 85 = .ok (.ldc 139, 2) := by decide +kernel
theorem dX8_read_87 : decode cX8_read 87 = .ok (.aload_n 0, 1) := by decide +kernel
theorem dX8_read_88 : decode cX8_read 88 = .ok (.getfield 20, 3) := by decide +kernel
theorem dX8_read_91 : decode cX8_read 91 = .ok (.iload_n 1, 1) := by decide +kernel
theorem dX8_read_92 : decode cX8_read 92 = .ok (.iaload, 1) := by decide +kernel
theorem dX8_read_93 : decode cX8_read 93 = .ok (.iconst 1, 1) := by decide +kernel
theorem dX8_read_94 : decode cX8_read 94 = .ok (.invokevirtual 188, 3) := by decide +kernel
theorem dX8_read_97 : decode cX8_read 97 = .ok (.istore 5, 2) := by decide +kernel
theorem dX8_read_99 : decode cX8_read 99 = .ok (.aload_n 0, 1) := by decide +kernel
theorem dX8_read_100 : decode cX8_read 100 = .ok (.getfield 23, 3) := by decide +kernel
theorem dX8_read_103 : decode cX8_read 103 = .ok (.iload_n 1, 1) := by decide +kernel
theorem dX8_read_104 : decode cX8_read 104 = .ok (.iaload, 1) := by decide +kernel
theorem dX8_read_105 : decode cX8_read 105 = .ok (.iconst 2, 1) := by decide +kernel
theorem dX8_read_106 : decode cX8_read 106 = .ok (.if_icmp .ne 27, 3) := by decide +kernel
theorem dX8_read_109 : decode cX8_read 109 = .ok (.aload_n 0, 1) := by decide +kernel
theorem dX8_read_110 : decode cX8_read 110 = .ok (.getfield 48, 3) := by decide +kernel
theorem dX8_read_113 : decode cX8_read 113 = .ok (.iload_n 1, 1) := by decide +kernel
theorem dX8_read_114 : decode cX8_read 114 = .ok (.baload, 1) := by decide +kernel
theorem dX8_read_115 : decode cX8_read 115 = .ok (.ifCond .ne 18, 3) := by decide +kernel
theorem dX8_read_118 : decode cX8_read 118 = .ok (.aload_n 0, 1) := by decide +kernel
theorem dX8_read_119 : decode cX8_read 119 = .ok (.getfield 48, 3) := by decide +kernel
theorem dX8_read_122 : decode cX8_read 122 = .ok (.iload_n 1, 1) := by decide +kernel
theorem dX8_read_123 : decode cX8_read 123 = .ok (.iconst 1, 1) := by decide +kernel
theorem dX8_read_124 : decode cX8_read 124 = .ok (.bastore, 1) := by decide +kernel
theorem dX8_read_125 : decode cX8_read 125 = .ok (.aload_n 0, 1) := by decide +kernel
theorem dX8_read_126 : decode cX8_read 126 = .ok (.iload_n 1, 1) := by decide +kernel
theorem dX8_read_127 : decode cX8_read 127 = .ok (.iload 4, 2) := by decide +kernel
theorem dX8_read_129 : decode cX8_read 129 = .ok (.invokevirtual 192, 3) := by decide +kernel
theorem dX8_read_132 : decode cX8_read 132 = .ok (.ireturn, 1) := by decide +kernel
theorem dX8_read_133 : decode cX8_read 133 = .ok (.aload_n 0, 1) := by decide +kernel
theorem dX8_read_134 : decode cX8_read 134 = .ok (.getfield 48, 3) := by decide +kernel
theorem dX8_read_137 : decode cX8_read 137 = .ok (.iload_n 1, 1) := by decide +kernel
theorem dX8_read_138 : decode cX8_read 138 = .ok (.iconst 0, 1) := by decide +kernel
theorem dX8_read_139 : decode cX8_read 139 = .ok (.bastore, 1) := by decide +kernel
theorem dX8_read_140 : decode cX8_read 140 = .ok (.aload_n 0, 1) := by decide +kernel
theorem dX8_read_141 : decode cX8_read 141 = .ok (.getfield 73, 3) := by decide +kernel
theorem dX8_read_144 : decode cX8_read 144 = .ok (.iload_n 1, 1) := by decide +kernel
theorem dX8_read_145 : decode cX8_read 145 = .ok (.dup2, 1) := by decide +kernel
theorem dX8_read_146 : decode cX8_read 146 = .ok (.iaload, 1) := by decide +kernel
theorem dX8_read_147 : decode cX8_read 147 = .ok (.iconst 1, 1) := by decide +kernel
theorem dX8_read_148 : decode cX8_read 148 = .ok (.isub, 1) := by decide +kernel
theorem dX8_read_149 : decode cX8_read 149 = .ok (.iastore, 1) := by decide +kernel
theorem dX8_read_150 : decode cX8_read 150 = .ok (.iconst 0, 1) := by decide +kernel
theorem dX8_read_151 : decode cX8_read 151 = .ok (.istore 6, 2) := by decide +kernel
theorem dX8_read_153 : decode cX8_read 153 = .ok (.iload 6, 2) := by decide +kernel
theorem dX8_read_155 : decode cX8_read 155 = .ok (.aload_n 0, 1) := by decide +kernel
theorem dX8_read_156 : decode cX8_read 156 = .ok (.getfield 73, 3) := by decide +kernel
theorem dX8_read_159 : decode cX8_read 159 = .ok (.iload_n 1, 1) := by decide +kernel
theorem dX8_read_160 : decode cX8_read 160 = .ok (.iaload, 1) := by decide +kernel
theorem dX8_read_161 : decode cX8_read 161 = .ok (.if_icmp .ge 37, 3) := by decide +kernel
theorem dX8_read_164 : decode cX8_read 164 = .ok (.aload_n 0, 1) := by decide +kernel
theorem dX8_read_165 : decode cX8_read 165 = .ok (.getfield 76, 3) := by decide +kernel
theorem dX8_read_168 : decode cX8_read 168 = .ok (.sipush 12800, 3) := by decide +kernel
theorem dX8_read_171 : decode cX8_read 171 = .ok (.iload_n 1, 1) := by decide +kernel
theorem dX8_read_172 : decode cX8_read 172 = .ok (.imul, 1) := by decide +kernel
theorem dX8_read_173 : decode cX8_read 173 = .ok (.iload 6, 2) := by decide +kernel
theorem dX8_read_175 : decode cX8_read 175 = .ok (.iadd, 1) := by decide +kernel
theorem dX8_read_176 : decode cX8_read 176 = .ok (.aload_n 0, 1) := by decide +kernel
theorem dX8_read_177 : decode cX8_read 177 = .ok (.getfield 76, 3) := by decide +kernel
theorem dX8_read_180 : decode cX8_read 180 = .ok (.sipush 12800, 3) := by decide +kernel
theorem dX8_read_183 : decode cX8_read 183 = .ok (.iload_n 1, 1) := by decide +kernel
theorem dX8_read_184 : decode cX8_read 184 = .ok (.imul, 1) := by decide +kernel
theorem dX8_read_185 : decode cX8_read 185 = .ok (.iload 6, 2) := by decide +kernel
theorem dX8_read_187 : decode cX8_read 187 = .ok (.iadd, 1) := by decide +kernel
theorem dX8_read_188 : decode cX8_read 188 = .ok (.iconst 1, 1) := by decide +kernel
theorem dX8_read_189 : decode cX8_read 189 = .ok (.iadd, 1) := by decide +kernel
theorem dX8_read_190 : decode cX8_read 190 = .ok (.iaload, 1) := by decide +kernel
theorem dX8_read_191 : decode cX8_read 191 = .ok (.iastore, 1) := by decide +kernel
theorem dX8_read_192 : decode cX8_read 192 = .ok (.iinc 6 1, 3) := by decide +kernel
theorem dX8_read_195 : decode cX8_read 195 = .ok (.goto (-42), 3) := by decide +kernel
theorem dX8_read_198 : decode cX8_read 198 = .ok (.aload_n 0, 1) := by decide +kernel
theorem dX8_read_199 : decode cX8_read 199 = .ok (.getfield 79, 3) := by decide +kernel
theorem dX8_read_202 : decode cX8_read 202 = .ok (.iload_n 1, 1) := by decide +kernel
theorem dX8_read_203 : decode cX8_read 203 = .ok (.dup2, 1) := by decide +kernel
theorem dX8_read_204 : decode cX8_read 204 = .ok (.iaload, 1) := by decide +kernel
theorem dX8_read_205 : decode cX8_read 205 = .ok (.iconst 1, 1) := by decide +kernel
theorem dX8_read_206 : decode cX8_read 206 = .ok (.iadd, 1) := by decide +kernel
theorem dX8_read_207 : decode cX8_read 207 = .ok (.iastore, 1) := by decide +kernel
theorem dX8_read_208 : decode cX8_read 208 = .ok (.aload_n 0, 1) := by decide +kernel
theorem dX8_read_209 : decode cX8_read 209 = .ok (.iload_n 1, 1) := by decide +kernel
theorem dX8_read_210 : decode cX8_read 210 = .ok (.aload_n 0, 1) := by decide +kernel
theorem dX8_read_211 : decode cX8_read 211 = .ok (.getfield 23, 3) := by decide +kernel
theorem dX8_read_214 : decode cX8_read 214 = .ok (.iload_n 1, 1) := by decide +kernel
theorem dX8_read_215 : decode cX8_read 215 = .ok (.iaload, 1) := by decide +kernel
theorem dX8_read_216 : decode cX8_read 216 = .ok (.iconst 2, 1) := by decide +kernel
theorem dX8_read_217 : decode cX8_read 217 = .ok (.if_icmp .ne 8, 3) := by decide +kernel
theorem dX8_read_220 : decode cX8_read 220 = .ok (.iload 5, 2) := by decide +kernel
theorem dX8_read_222 : decode cX8_read 222 = .ok (.goto 12, 3) := by decide +kernel
theorem dX8_read_225 : decode cX8_read 225 = .ok (.iload 4, 2) := by decide +kernel
theorem dX8_read_227 : decode cX8_read 227 = .ok (.iload 5, 2) := by decide +kernel
theorem dX8_read_229 : decode cX8_read 229 = .ok (.iadd, 1) := by decide +kernel
theorem dX8_read_230 : decode cX8_read 230 = .ok (.iconst 2, 1) := by decide +kernel
theorem dX8_read_231 : decode cX8_read 231 = .ok (.invokestatic 185, 3) := by decide +kernel
theorem dX8_read_234 : decode cX8_read 234 = .ok (.invokevirtual 192, 3) := by decide +kernel
theorem dX8_read_237 : decode cX8_read 237 = .ok (.ireturn, 1) := by decide +kernel
theorem dX8_room_0 : decode cX8_room 0 = .ok (.aload_n 0, 1) := by decide +kernel
theorem dX8_room_1 : decode cX8_room 1 = .ok (.aload_n 0, 1) := by decide +kernel
theorem dX8_room_2 : decode cX8_room 2 = .ok (.iload_n 1, 1) := by decide +kernel
theorem dX8_room_3 : decode cX8_room 3 = .ok (.invokevirtual 147, 3) := by decide +kernel
theorem dX8_room_6 : decode cX8_room 6 = .ok (.ifCond .eq 7, 3) := by decide +kernel
theorem dX8_room_9 : decode cX8_room 9 = .ok (.iconst 0, 1) := by decide +kernel
theorem dX8_room_10 : decode cX8_room 10 = .ok (.goto 4, 3) := by decide +kernel
theorem dX8_room_13 : decode cX8_room 13 = .ok (.iconst 1, 1) := by decide +kernel
theorem dX8_room_14 : decode cX8_room 14 = .ok (.invokevirtual 144, 3) := by decide +kernel
theorem dX8_room_17 : decode cX8_room 17 = .ok (.ifCond .eq 5, 3) := by decide +kernel
theorem dX8_room_20 : decode cX8_room 20 = .ok (.iconst 0, 1) := by decide +kernel
theorem dX8_room_21 : decode cX8_room 21 = .ok (.ireturn, 1) := by decide +kernel
theorem dX8_room_22 : decode cX8_room 22 = .ok (.aload_n 0, 1) := by decide +kernel
theorem dX8_room_23 : decode cX8_room 23 = .ok (.getfield 17, 3) := by decide +kernel
theorem dX8_room_26 : decode cX8_room 26 = .ok (.iload_n 1, 1) := by decide +kernel
theorem dX8_room_27 : decode cX8_room 27 = .ok (.baload, 1) := by decide +kernel
theorem dX8_room_28 : decode cX8_room 28 = .ok (.ifCond .eq 15, 3) := by decide +kernel
theorem dX8_room_31 : decode cX8_room 31 = .ok (.aload_n 0, 1) := by decide +kernel
theorem dX8_room_32 : decode cX8_room 32 = .ok (.getfield 32, 3) := by decide +kernel
theorem dX8_room_35 : decode cX8_room 35 = .ok (.iload_n 1, 1) := by decide +kernel
theorem dX8_room_36 : decode cX8_room 36 = .ok (.iaload, 1) := by decide +kernel
theorem dX8_room_37 : decode cX8_room 37 = .ok (.iconst 2, 1) := by decide +kernel
theorem dX8_room_38 : decode cX8_room 38 = .ok (.if_icmp .le 5, 3) := by decide +kernel
theorem dX8_room_41 : decode cX8_room 41 = .ok (.iconst 0, 1) := by decide +kernel
theorem dX8_room_42 : decode cX8_room 42 = .ok (.ireturn, 1) := by decide +kernel
theorem dX8_room_43 : decode cX8_room 43 = .ok (.aload_n 0, 1) := by decide +kernel
theorem dX8_room_44 : decode cX8_room 44 = .ok (.getfield 17, 3) := by decide +kernel
theorem dX8_room_47 : decode cX8_room 47 = .ok (.iload_n 1, 1) := by decide +kernel
theorem dX8_room_48 : decode cX8_room 48 = .ok (.baload, 1) := by decide +kernel
theorem dX8_room_49 : decode cX8_room 49 = .ok (.ifCond .eq 11, 3) := by decide +kernel
theorem dX8_room_52 : decode cX8_room 52 = .ok (.aload_n 0, 1) := by decide +kernel
theorem dX8_room_53 : decode cX8_room 53 = .ok (.iload_n 1, 1) := by decide +kernel
theorem dX8_room_54 : decode cX8_room 54 = .ok (.invokevirtual 175, 3) := by decide +kernel
theorem dX8_room_57 : decode cX8_room 57 = .ok (.goto 9, 3) := by decide +kernel
theorem dX8_room_60 : decode cX8_room 60 = .ok (.aload_n 0, 1) := by decide +kernel
theorem dX8_room_61 : decode cX8_room 61 = .ok (.getfield 73, 3) := by decide +kernel
theorem dX8_room_64 : decode cX8_room 64 = .ok (.iload_n 1, 1) := by decide +kernel
theorem dX8_room_65 : decode cX8_room 65 = .ok (.iaload, 1) := by decide +kernel
theorem dX8_room_66 : decode cX8_room 66 = .ok (.istore_n 2, 1) := by decide +kernel
theorem dX8_room_67 : decode cX8_room 67 = .ok (.iload_n 2, 1) := by decide +kernel
theorem dX8_room_68 : decode cX8_room 68 = .ok (.ifCond .ge 7, 3) := by decide +kernel
theorem dX8_room_71 : decode cX8_room 71 = .ok (.iconst 0, 1) := by decide +kernel
theorem dX8_room_72 : decode cX8_room 72 = .ok (.goto 4, 3) := by decide +kernel
theorem dX8_room_75 : decode cX8_room 75 = .ok (.iload_n 2, 1) := by decide +kernel
theorem dX8_room_76 : decode cX8_room 76 = .ok (.istore_n 2, 1) := by decide +kernel
theorem dX8_room_77 : decode cX8_room 77 = .ok (.iload_n 2, 1) := by decide +kernel
theorem dX8_room_78 : decode cX8_room 78 = .ok (.aload_n 0, 1) := by decide +kernel
theorem dX8_room_79 : decode cX8_room 79 = .ok (.getfield 23, 3) := by decide +kernel
theorem dX8_room_82 : decode cX8_room 82 = .ok (.iload_n 1, 1) := by decide +kernel
theorem dX8_room_83 : decode cX8_room 83 = .ok (.iaload, 1) := by decide +kernel
theorem dX8_room_84 : decode cX8_room 84 = .ok (.imul, 1) := by decide +kernel
theorem dX8_room_85 : decode cX8_room 85 = .ok (.aload_n 0, 1) := by decide +kernel
theorem dX8_room_86 : decode cX8_room 86 = .ok (.getfield 48, 3) := by decide +kernel
theorem dX8_room_89 : decode cX8_room 89 = .ok (.iload_n 1, 1) := by decide +kernel
theorem dX8_room_90 : decode cX8_room 90 = .ok (.baload, 1) := by decide +kernel
theorem dX8_room_91 : decode cX8_room 91 = .ok (.ifCond .eq 11, 3) := by decide +kernel
theorem dX8_room_94 : decode cX8_room 94 = .ok (.iload_n 2, 1) := by decide +kernel
theorem dX8_room_95 : decode cX8_room 95 = .ok (.ifCond .le 7, 3) := by decide +kernel
theorem dX8_room_98 : decode cX8_room 98 = .ok (.iconst 1, 1) := by decide +kernel
theorem dX8_room_99 : decode cX8_room 99 = .ok (.goto 4, 3) := by decide +kernel
theorem dX8_room_102 : decode cX8_room 102 = .ok (.iconst 0, 1) := by decide +kernel
theorem dX8_room_103 : decode cX8_room 103 = .ok (.isub, 1) := by decide +kernel
theorem dX8_room_104 : decode cX8_room 104 = .ok (.ireturn, 1) := by decide +kernel
theorem dX8_ahead_0 : decode cX8_ahead 0 = .ok (.aload_n 0, 1) := by decide +kernel
theorem dX8_ahead_1 : decode cX8_ahead 1 = .ok (.aload_n 0, 1) := by decide +kernel
theorem dX8_ahead_2 : decode cX8_ahead 2 = .ok (.iload_n 1, 1) := by decide +kernel
theorem dX8_ahead_3 : decode cX8_ahead 3 = .ok (.invokevirtual 147, 3) := by decide +kernel
theorem dX8_ahead_6 : decode cX8_ahead 6 = .ok (.ifCond .eq 16, 3) := by decide +kernel
theorem dX8_ahead_9 : decode cX8_ahead 9 = .ok (.aload_n 0, 1) := by decide +kernel
theorem dX8_ahead_10 : decode cX8_ahead 10 = .ok (.getfield 17, 3) := by decide +kernel
theorem dX8_ahead_13 : decode cX8_ahead 13 = .ok (.iload_n 1, 1) := by decide +kernel
theorem dX8_ahead_14 : decode cX8_ahead 14 = .ok (.baload, 1) := by decide +kernel
theorem dX8_ahead_15 : decode cX8_ahead 15 = .ok (.ifCond .eq 7, 3) := by decide +kernel
theorem dX8_ahead_18 : decode cX8_ahead 18 = .ok (.iconst 0, 1) := by decide +kernel
theorem dX8_ahead_19 : decode cX8_ahead 19 = .ok (.goto 4, 3) := by decide +kernel
theorem dX8_ahead_22 : decode cX8_ahead 22 = .ok (.iconst 1, 1) := by decide +kernel
theorem dX8_ahead_23 : decode cX8_ahead 23 = .ok (.invokevirtual 144, 3) := by decide +kernel
theorem dX8_ahead_26 : decode cX8_ahead 26 = .ok (.ifCond .eq 5, 3) := by decide +kernel
theorem dX8_ahead_29 : decode cX8_ahead 29 = .ok (.iconst 0, 1) := by decide +kernel
theorem dX8_ahead_30 : decode cX8_ahead 30 = .ok (.ireturn, 1) := by decide +kernel
theorem dX8_ahead_31 : decode cX8_ahead 31 = .ok (.iconst 0, 1) := by decide +kernel
theorem dX8_ahead_32 : decode cX8_ahead 32 = .ok (.istore_n 2, 1) := by decide +kernel
theorem dX8_ahead_33 : decode cX8_ahead 33 = .ok (.aload_n 0, 1) := by decide +kernel
theorem dX8_ahead_34 : decode cX8_ahead 34 = .ok (.iload_n 1, 1) := by decide +kernel
theorem dX8_ahead_35 : decode cX8_ahead 35 = .ok (.aload_n 0, 1) := by decide +kernel
theorem dX8_ahead_36 : decode cX8_ahead 36 = .ok (.getfield 54, 3) := by decide +kernel
theorem dX8_ahead_39 : decode cX8_ahead 39 = .ok (.iload_n 1, 1) := by decide +kernel
theorem dX8_ahead_40 : decode cX8_ahead 40 = .ok (.iaload, 1) := by decide +kernel
theorem dX8_ahead_41 : decode cX8_ahead 41 = .ok (.bipush 24, 2) := by decide +kernel
theorem dX8_ahead_43 : decode cX8_ahead 43 = .ok (.iload_n 2, 1) := by decide +kernel
theorem dX8_ahead_44 : decode cX8_ahead 44 = .ok (.imul, 1) := by decide +kernel
theorem dX8_ahead_45 : decode cX8_ahead 45 = .ok (.iadd, 1) := by decide +kernel
theorem dX8_ahead_46 : decode cX8_ahead 46 = .ok (.bipush 24, 2) := by decide +kernel
theorem dX8_ahead_48 : decode cX8_ahead 48 = .ok (.iadd, 1) := by decide +kernel
theorem dX8_ahead_49 : decode cX8_ahead 49 = .ok (.iconst 1, 1) := by decide +kernel
theorem dX8_ahead_50 : decode cX8_ahead 50 = .ok (.isub, 1) := by decide +kernel
theorem dX8_ahead_51 : decode cX8_ahead 51 = .ok (.aload_n 0, 1) := by decide +kernel
theorem dX8_ahead_52 : decode cX8_ahead 52 = .ok (.getfield 20, 3) := by decide +kernel
theorem dX8_ahead_55 : decode cX8_ahead 55 = .ok (.iload_n 1, 1) := by decide +kernel
theorem dX8_ahead_56 : decode cX8_ahead 56 = .ok (.iaload, 1) := by decide +kernel
theorem dX8_ahead_57 : decode cX8_ahead 57 = .ok (.ldc 139, 2) := by decide +kernel
theorem dX8_ahead_59 : decode cX8_ahead 59 = .ok (.invokevirtual 195, 3) := by decide +kernel
theorem dX8_ahead_62 : decode cX8_ahead 62 = .ok (.ifCond .eq 9, 3) := by decide +kernel
theorem dX8_ahead_65 : decode cX8_ahead 65 = .ok (.iinc 2 1, 3) := by decide +kernel
theorem dX8_ahead_68 : decode cX8_ahead 68 = .ok (.goto (-35), 3) := by decide +kernel
theorem dX8_ahead_71 : decode cX8_ahead 71 = .ok (.iload_n 2, 1) := by decide +kernel
theorem dX8_ahead_72 : decode cX8_ahead 72 = .ok (.ireturn, 1) := by decide +kernel
theorem dX8_giveNothing_0 : decode cX8_giveNothing 0 = .ok (.iconst 0, 1) := by decide +kernel
theorem dX8_giveNothing_1 : decode cX8_giveNothing 1 = .ok (.istore_n 1, 1) := by decide +kernel
theorem dX8_giveNothing_2 : decode cX8_giveNothing 2 = .ok (.iload_n 1, 1) := by decide +kernel
theorem dX8_giveNothing_3 : decode cX8_giveNothing 3 = .ok (.bipush 24, 2) := by decide +kernel
theorem dX8_giveNothing_5 : decode cX8_giveNothing 5 = .ok (.if_icmp .ge 23, 3) := by decide +kernel
theorem dX8_giveNothing_8 : decode cX8_giveNothing 8 = .ok (.aload_n 0, 1) := by decide +kernel
theorem dX8_giveNothing_9 : decode cX8_giveNothing 9 = .ok (.getfield 117, 3) := by decide +kernel
theorem dX8_giveNothing_12 : decode cX8_giveNothing 12 = .ok (.iload_n 1, 1) := by decide +kernel
theorem dX8_giveNothing_13 : decode cX8_giveNothing 13 = .ok (.iconst 0, 1) := by decide +kernel
theorem dX8_giveNothing_14 : decode cX8_giveNothing 14 = .ok (.iastore, 1) := by decide +kernel
theorem dX8_giveNothing_15 : decode cX8_giveNothing 15 = .ok (.aload_n 0, 1) := by decide +kernel
theorem dX8_giveNothing_16 : decode cX8_giveNothing 16 = .ok (.getfield 120, 3) := by decide +kernel
theorem dX8_giveNothing_19 : decode cX8_giveNothing 19 = .ok (.iload_n 1, 1) := by decide +kernel
theorem dX8_giveNothing_20 : decode cX8_giveNothing 20 = .ok (.iconst 0, 1) := by decide +kernel
theorem dX8_giveNothing_21 : decode cX8_giveNothing 21 = .ok (.iastore, 1) := by decide +kernel
theorem dX8_giveNothing_22 : decode cX8_giveNothing 22 = .ok (.iinc 1 1, 3) := by decide +kernel
theorem dX8_giveNothing_25 : decode cX8_giveNothing 25 = .ok (.goto (-23), 3) := by decide +kernel
theorem dX8_giveNothing_28 : decode cX8_giveNothing 28 = .ok (.return_, 1) := by decide +kernel
theorem dX8_giveOutputs_0 : decode cX8_giveOutputs 0 = .ok (.iconst 0, 1) := by decide +kernel
theorem dX8_giveOutputs_1 : decode cX8_giveOutputs 1 = .ok (.istore_n 2, 1) := by decide +kernel
theorem dX8_giveOutputs_2 : decode cX8_giveOutputs 2 = .ok (.iload_n 2, 1) := by decide +kernel
theorem dX8_giveOutputs_3 : decode cX8_giveOutputs 3 = .ok (.bipush 24, 2) := by decide +kernel
theorem dX8_giveOutputs_5 : decode cX8_giveOutputs 5 = .ok (.if_icmp .ge 65, 3) := by decide +kernel
theorem dX8_giveOutputs_8 : decode cX8_giveOutputs 8 = .ok (.aload_n 0, 1) := by decide +kernel
theorem dX8_giveOutputs_9 : decode cX8_giveOutputs 9 = .ok (.getfield 117, 3) := by decide +kernel
theorem dX8_giveOutputs_12 : decode cX8_giveOutputs 12 = .ok (.iload_n 2, 1) := by decide +kernel
theorem dX8_giveOutputs_13 : decode cX8_giveOutputs 13 = .ok (.aload_n 0, 1) := by decide +kernel
theorem dX8_giveOutputs_14 : decode cX8_giveOutputs 14 = .ok (.iload_n 1, 1) := by decide +kernel
theorem dX8_giveOutputs_15 : decode cX8_giveOutputs 15 = .ok (.aload_n 0, 1) := by decide +kernel
theorem dX8_giveOutputs_16 : decode cX8_giveOutputs 16 = .ok (.getfield 54, 3) := by decide +kernel
theorem dX8_giveOutputs_19 : decode cX8_giveOutputs 19 = .ok (.iload_n 1, 1) := by decide +kernel
theorem dX8_giveOutputs_20 : decode cX8_giveOutputs 20 = .ok (.iaload, 1) := by decide +kernel
theorem dX8_giveOutputs_21 : decode cX8_giveOutputs 21 = .ok (.iload_n 2, 1) := by decide +kernel
theorem dX8_giveOutputs_22 : decode cX8_giveOutputs 22 = .ok (.iadd, 1) := by decide +kernel
theorem dX8_giveOutputs_23 : decode cX8_giveOutputs 23 = .ok (.aload_n 0, 1) := by decide +kernel
theorem dX8_giveOutputs_24 : decode cX8_giveOutputs 24 = .ok (.getfield 20, 3) := by decide +kernel
theorem dX8_giveOutputs_27 : decode cX8_giveOutputs 27 = .ok (.iload_n 1, 1) := by decide +kernel
theorem dX8_giveOutputs_28 : decode cX8_giveOutputs 28 = .ok (.iaload, 1) := by decide +kernel
theorem dX8_giveOutputs_29 : decode cX8_giveOutputs 29 = .ok (.ldc 139, 2) := by decide +kernel
theorem dX8_giveOutputs_31 : decode cX8_giveOutputs 31 = .ok (.iconst 0, 1) := by decide +kernel
theorem dX8_giveOutputs_32 : decode cX8_giveOutputs 32 = .ok (.invokevirtual 188, 3) := by decide +kernel
theorem dX8_giveOutputs_35 : decode cX8_giveOutputs 35 = .ok (.iastore, 1) := by decide +kernel
theorem dX8_giveOutputs_36 : decode cX8_giveOutputs 36 = .ok (.aload_n 0, 1) := by decide +kernel
theorem dX8_giveOutputs_37 : decode cX8_giveOutputs 37 = .ok (.getfield 120, 3) := by decide +kernel
theorem dX8_giveOutputs_40 : decode cX8_giveOutputs 40 = .ok (.iload_n 2, 1) := by decide +kernel
theorem dX8_giveOutputs_41 : decode cX8_giveOutputs 41 = .ok (.aload_n 0, 1) := by decide +kernel
theorem dX8_giveOutputs_42 : decode cX8_giveOutputs 42 = .ok (.iload_n 1, 1) := by decide +kernel
theorem dX8_giveOutputs_43 : decode cX8_giveOutputs 43 = .ok (.aload_n 0, 1) := by decide +kernel
theorem dX8_giveOutputs_44 : decode cX8_giveOutputs 44 = .ok (.getfield 54, 3) := by decide +kernel
theorem dX8_giveOutputs_47 : decode cX8_giveOutputs 47 = .ok (.iload_n 1, 1) := by decide +kernel
theorem dX8_giveOutputs_48 : decode cX8_giveOutputs 48 = .ok (.iaload, 1) := by decide +kernel
theorem dX8_giveOutputs_49 : decode cX8_giveOutputs 49 = .ok (.iload_n 2, 1) := by decide +kernel
theorem dX8_giveOutputs_50 : decode cX8_giveOutputs 50 = .ok (.iadd, 1) := by decide +kernel
theorem dX8_giveOutputs_51 : decode cX8_giveOutputs 51 = .ok (.aload_n 0, 1) := by decide +kernel
theorem dX8_giveOutputs_52 : decode cX8_giveOutputs 52 = .ok (.getfield 20, 3) := by decide +kernel
theorem dX8_giveOutputs_55 : decode cX8_giveOutputs 55 = .ok (.iload_n 1, 1) := by decide +kernel
theorem dX8_giveOutputs_56 : decode cX8_giveOutputs 56 = .ok (.iaload, 1) := by decide +kernel
theorem dX8_giveOutputs_57 : decode cX8_giveOutputs 57 = .ok (.ldc 139, 2) := by decide +kernel
theorem dX8_giveOutputs_59 : decode cX8_giveOutputs 59 = .ok (.iconst 1, 1) := by decide +kernel
theorem dX8_giveOutputs_60 : decode cX8_giveOutputs 60 = .ok (.invokevirtual 188, 3) := by decide +kernel
theorem dX8_giveOutputs_63 : decode cX8_giveOutputs 63 = .ok (.iastore, 1) := by decide +kernel
theorem dX8_giveOutputs_64 : decode cX8_giveOutputs 64 = .ok (.iinc 2 1, 3) := by decide +kernel
theorem dX8_giveOutputs_67 : decode cX8_giveOutputs 67 = .ok (.goto (-65), 3) := by decide +kernel
theorem dX8_giveOutputs_70 : decode cX8_giveOutputs 70 = .ok (.aload_n 0, 1) := by decide +kernel
theorem dX8_giveOutputs_71 : decode cX8_giveOutputs 71 = .ok (.getfield 57, 3) := by decide +kernel
theorem dX8_giveOutputs_74 : decode cX8_giveOutputs 74 = .ok (.iload_n 1, 1) := by decide +kernel
theorem dX8_giveOutputs_75 : decode cX8_giveOutputs 75 = .ok (.aload_n 0, 1) := by decide +kernel
theorem dX8_giveOutputs_76 : decode cX8_giveOutputs 76 = .ok (.getfield 117, 3) := by decide +kernel
theorem dX8_giveOutputs_79 : decode cX8_giveOutputs 79 = .ok (.bipush 23, 2) := by decide +kernel
theorem dX8_giveOutputs_81 : decode cX8_giveOutputs 81 = .ok (.iaload, 1) := by decide +kernel
theorem dX8_giveOutputs_82 : decode cX8_giveOutputs 82 = .ok (.iastore, 1) := by decide +kernel
theorem dX8_giveOutputs_83 : decode cX8_giveOutputs 83 = .ok (.aload_n 0, 1) := by decide +kernel
theorem dX8_giveOutputs_84 : decode cX8_giveOutputs 84 = .ok (.getfield 60, 3) := by decide +kernel
theorem dX8_giveOutputs_87 : decode cX8_giveOutputs 87 = .ok (.iload_n 1, 1) := by decide +kernel
theorem dX8_giveOutputs_88 : decode cX8_giveOutputs 88 = .ok (.aload_n 0, 1) := by decide +kernel
theorem dX8_giveOutputs_89 : decode cX8_giveOutputs 89 = .ok (.getfield 120, 3) := by decide +kernel
theorem dX8_giveOutputs_92 : decode cX8_giveOutputs 92 = .ok (.bipush 23, 2) := by decide +kernel
theorem dX8_giveOutputs_94 : decode cX8_giveOutputs 94 = .ok (.iaload, 1) := by decide +kernel
theorem dX8_giveOutputs_95 : decode cX8_giveOutputs 95 = .ok (.iastore, 1) := by decide +kernel
theorem dX8_giveOutputs_96 : decode cX8_giveOutputs 96 = .ok (.aload_n 0, 1) := by decide +kernel
theorem dX8_giveOutputs_97 : decode cX8_giveOutputs 97 = .ok (.getfield 54, 3) := by decide +kernel
theorem dX8_giveOutputs_100 : decode cX8_giveOutputs 100 = .ok (.iload_n 1, 1) := by decide +kernel
theorem dX8_giveOutputs_101 : decode cX8_giveOutputs 101 = .ok (.aload_n 0, 1) := by decide +kernel
theorem dX8_giveOutputs_102 : decode cX8_giveOutputs 102 = .ok (.getfield 54, 3) := by decide +kernel
theorem dX8_giveOutputs_105 : decode cX8_giveOutputs 105 = .ok (.iload_n 1, 1) := by decide +kernel
theorem dX8_giveOutputs_106 : decode cX8_giveOutputs 106 = .ok (.iaload, 1) := by decide +kernel
theorem dX8_giveOutputs_107 : decode cX8_giveOutputs 107 = .ok (.bipush 24, 2) := by decide +kernel
theorem dX8_giveOutputs_109 : decode cX8_giveOutputs 109 = .ok (.iadd, 1) := by decide +kernel
theorem dX8_giveOutputs_110 : decode cX8_giveOutputs 110 = .ok (.iastore, 1) := by decide +kernel
theorem dX8_giveOutputs_111 : decode cX8_giveOutputs 111 = .ok (.return_, 1) := by decide +kernel
theorem dX8_fade_0 : decode cX8_fade 0 = .ok (.iconst 0, 1) := by decide +kernel
theorem dX8_fade_1 : decode cX8_fade 1 = .ok (.istore_n 2, 1) := by decide +kernel
theorem dX8_fade_2 : decode cX8_fade 2 = .ok (.iload_n 2, 1) := by decide +kernel
theorem dX8_fade_3 : decode cX8_fade 3 = .ok (.bipush 24, 2) := by decide +kernel
theorem dX8_fade_5 : decode cX8_fade 5 = .ok (.if_icmp .ge 62, 3) := by decide +kernel
theorem dX8_fade_8 : decode cX8_fade 8 = .ok (.iload_n 2, 1) := by decide +kernel
theorem dX8_fade_9 : decode cX8_fade 9 = .ok (.bipush 15, 2) := by decide +kernel
theorem dX8_fade_11 : decode cX8_fade 11 = .ok (.if_icmp .ge 10, 3) := by decide +kernel
theorem dX8_fade_14 : decode cX8_fade 14 = .ok (.bipush 15, 2) := by decide +kernel
theorem dX8_fade_16 : decode cX8_fade 16 = .ok (.iload_n 2, 1) := by decide +kernel
theorem dX8_fade_17 : decode cX8_fade 17 = .ok (.isub, 1) := by decide +kernel
theorem dX8_fade_18 : decode cX8_fade 18 = .ok (.goto 4, 3) := by decide +kernel
theorem dX8_fade_21 : decode cX8_fade 21 = .ok (.iconst 0, 1) := by decide +kernel
theorem dX8_fade_22 : decode cX8_fade 22 = .ok (.istore_n 3, 1) := by decide +kernel
theorem dX8_fade_23 : decode cX8_fade 23 = .ok (.aload_n 0, 1) := by decide +kernel
theorem dX8_fade_24 : decode cX8_fade 24 = .ok (.getfield 117, 3) := by decide +kernel
theorem dX8_fade_27 : decode cX8_fade 27 = .ok (.iload_n 2, 1) := by decide +kernel
theorem dX8_fade_28 : decode cX8_fade 28 = .ok (.aload_n 0, 1) := by decide +kernel
theorem dX8_fade_29 : decode cX8_fade 29 = .ok (.getfield 57, 3) := by decide +kernel
theorem dX8_fade_32 : decode cX8_fade 32 = .ok (.iload_n 1, 1) := by decide +kernel
theorem dX8_fade_33 : decode cX8_fade 33 = .ok (.iaload, 1) := by decide +kernel
theorem dX8_fade_34 : decode cX8_fade 34 = .ok (.iload_n 3, 1) := by decide +kernel
theorem dX8_fade_35 : decode cX8_fade 35 = .ok (.imul, 1) := by decide +kernel
theorem dX8_fade_36 : decode cX8_fade 36 = .ok (.bipush 16, 2) := by decide +kernel
theorem dX8_fade_38 : decode cX8_fade 38 = .ok (.invokestatic 185, 3) := by decide +kernel
theorem dX8_fade_41 : decode cX8_fade 41 = .ok (.iastore, 1) := by decide +kernel
theorem dX8_fade_42 : decode cX8_fade 42 = .ok (.aload_n 0, 1) := by decide +kernel
theorem dX8_fade_43 : decode cX8_fade 43 = .ok (.getfield 120, 3) := by decide +kernel
theorem dX8_fade_46 : decode cX8_fade 46 = .ok (.iload_n 2, 1) := by decide +kernel
theorem dX8_fade_47 : decode cX8_fade 47 = .ok (.aload_n 0, 1) := by decide +kernel
theorem dX8_fade_48 : decode cX8_fade 48 = .ok (.getfield 60, 3) := by decide +kernel
theorem dX8_fade_51 : decode cX8_fade 51 = .ok (.iload_n 1, 1) := by decide +kernel
theorem dX8_fade_52 : decode cX8_fade 52 = .ok (.iaload, 1) := by decide +kernel
theorem dX8_fade_53 : decode cX8_fade 53 = .ok (.iload_n 3, 1) := by decide +kernel
theorem dX8_fade_54 : decode cX8_fade 54 = .ok (.imul, 1) := by decide +kernel
theorem dX8_fade_55 : decode cX8_fade 55 = .ok (.bipush 16, 2) := by decide +kernel
theorem dX8_fade_57 : decode cX8_fade 57 = .ok (.invokestatic 185, 3) := by decide +kernel
theorem dX8_fade_60 : decode cX8_fade 60 = .ok (.iastore, 1) := by decide +kernel
theorem dX8_fade_61 : decode cX8_fade 61 = .ok (.iinc 2 1, 3) := by decide +kernel
theorem dX8_fade_64 : decode cX8_fade 64 = .ok (.goto (-62), 3) := by decide +kernel
theorem dX8_fade_67 : decode cX8_fade 67 = .ok (.aload_n 0, 1) := by decide +kernel
theorem dX8_fade_68 : decode cX8_fade 68 = .ok (.getfield 57, 3) := by decide +kernel
theorem dX8_fade_71 : decode cX8_fade 71 = .ok (.iload_n 1, 1) := by decide +kernel
theorem dX8_fade_72 : decode cX8_fade 72 = .ok (.iconst 0, 1) := by decide +kernel
theorem dX8_fade_73 : decode cX8_fade 73 = .ok (.iastore, 1) := by decide +kernel
theorem dX8_fade_74 : decode cX8_fade 74 = .ok (.aload_n 0, 1) := by decide +kernel
theorem dX8_fade_75 : decode cX8_fade 75 = .ok (.getfield 60, 3) := by decide +kernel
theorem dX8_fade_78 : decode cX8_fade 78 = .ok (.iload_n 1, 1) := by decide +kernel
theorem dX8_fade_79 : decode cX8_fade 79 = .ok (.iconst 0, 1) := by decide +kernel
theorem dX8_fade_80 : decode cX8_fade 80 = .ok (.iastore, 1) := by decide +kernel
theorem dX8_fade_81 : decode cX8_fade 81 = .ok (.aload_n 0, 1) := by decide +kernel
theorem dX8_fade_82 : decode cX8_fade 82 = .ok (.getfield 35, 3) := by decide +kernel
theorem dX8_fade_85 : decode cX8_fade 85 = .ok (.iload_n 1, 1) := by decide +kernel
theorem dX8_fade_86 : decode cX8_fade 86 = .ok (.dup2, 1) := by decide +kernel
theorem dX8_fade_87 : decode cX8_fade 87 = .ok (.iaload, 1) := by decide +kernel
theorem dX8_fade_88 : decode cX8_fade 88 = .ok (.iconst 1, 1) := by decide +kernel
theorem dX8_fade_89 : decode cX8_fade 89 = .ok (.iadd, 1) := by decide +kernel
theorem dX8_fade_90 : decode cX8_fade 90 = .ok (.iastore, 1) := by decide +kernel
theorem dX8_fade_91 : decode cX8_fade 91 = .ok (.return_, 1) := by decide +kernel
theorem dX8_give_0 : decode cX8_give 0 = .ok (.aload_n 0, 1) := by decide +kernel
theorem dX8_give_1 : decode cX8_give 1 = .ok (.invokevirtual 199, 3) := by decide +kernel
theorem dX8_give_4 : decode cX8_give 4 = .ok (.aload_n 0, 1) := by decide +kernel
theorem dX8_give_5 : decode cX8_give 5 = .ok (.getfield 32, 3) := by decide +kernel
theorem dX8_give_8 : decode cX8_give 8 = .ok (.iload_n 1, 1) := by decide +kernel
theorem dX8_give_9 : decode cX8_give 9 = .ok (.iaload, 1) := by decide +kernel
theorem dX8_give_10 : decode cX8_give 10 = .ok (.iconst 3, 1) := by decide +kernel
theorem dX8_give_11 : decode cX8_give 11 = .ok (.if_icmp .ne 55, 3) := by decide +kernel
theorem dX8_give_14 : decode cX8_give 14 = .ok (.aload_n 0, 1) := by decide +kernel
theorem dX8_give_15 : decode cX8_give 15 = .ok (.iload_n 1, 1) := by decide +kernel
theorem dX8_give_16 : decode cX8_give 16 = .ok (.invokevirtual 202, 3) := by decide +kernel
theorem dX8_give_19 : decode cX8_give 19 = .ok (.aload_n 0, 1) := by decide +kernel
theorem dX8_give_20 : decode cX8_give 20 = .ok (.getfield 20, 3) := by decide +kernel
theorem dX8_give_23 : decode cX8_give 23 = .ok (.iload_n 1, 1) := by decide +kernel
theorem dX8_give_24 : decode cX8_give 24 = .ok (.iaload, 1) := by decide +kernel
theorem dX8_give_25 : decode cX8_give 25 = .ok (.ldc 139, 2) := by decide +kernel
theorem dX8_give_27 : decode cX8_give 27 = .ok (.if_icmp .ne 7, 3) := by decide +kernel
theorem dX8_give_30 : decode cX8_give 30 = .ok (.iconst 0, 1) := by decide +kernel
theorem dX8_give_31 : decode cX8_give 31 = .ok (.goto 5, 3) := by decide +kernel
theorem dX8_give_34 : decode cX8_give 34 = .ok (.bipush 7, 2) := by decide +kernel
theorem dX8_give_36 : decode cX8_give 36 = .ok (.istore_n 2, 1) := by decide +kernel
theorem dX8_give_37 : decode cX8_give 37 = .ok (.aload_n 0, 1) := by decide +kernel
theorem dX8_give_38 : decode cX8_give 38 = .ok (.getfield 32, 3) := by decide +kernel
theorem dX8_give_41 : decode cX8_give 41 = .ok (.iload_n 1, 1) := by decide +kernel
theorem dX8_give_42 : decode cX8_give 42 = .ok (.aload_n 0, 1) := by decide +kernel
theorem dX8_give_43 : decode cX8_give 43 = .ok (.iload_n 1, 1) := by decide +kernel
theorem dX8_give_44 : decode cX8_give 44 = .ok (.invokevirtual 167, 3) := by decide +kernel
theorem dX8_give_47 : decode cX8_give 47 = .ok (.iload_n 2, 1) := by decide +kernel
theorem dX8_give_48 : decode cX8_give 48 = .ok (.isub, 1) := by decide +kernel
theorem dX8_give_49 : decode cX8_give 49 = .ok (.aload_n 0, 1) := by decide +kernel
theorem dX8_give_50 : decode cX8_give 50 = .ok (.getfield 38, 3) := by decide +kernel
theorem dX8_give_53 : decode cX8_give 53 = .ok (.iload_n 1, 1) := by decide +kernel
theorem dX8_give_54 : decode cX8_give 54 = .ok (.iaload, 1) := by decide +kernel
theorem dX8_give_55 : decode cX8_give 55 = .ok (.if_icmp .lt 7, 3) := by decide +kernel
theorem dX8_give_58 : decode cX8_give 58 = .ok (.iconst 4, 1) := by decide +kernel
theorem dX8_give_59 : decode cX8_give 59 = .ok (.goto 4, 3) := by decide +kernel
theorem dX8_give_62 : decode cX8_give 62 = .ok (.iconst 3, 1) := by decide +kernel
theorem dX8_give_63 : decode cX8_give 63 = .ok (.iastore, 1) := by decide +kernel
theorem dX8_give_64 : decode cX8_give 64 = .ok (.iconst 1, 1) := by decide +kernel
theorem dX8_give_65 : decode cX8_give 65 = .ok (.ireturn, 1) := by decide +kernel
theorem dX8_give_66 : decode cX8_give 66 = .ok (.aload_n 0, 1) := by decide +kernel
theorem dX8_give_67 : decode cX8_give 67 = .ok (.getfield 32, 3) := by decide +kernel
theorem dX8_give_70 : decode cX8_give 70 = .ok (.iload_n 1, 1) := by decide +kernel
theorem dX8_give_71 : decode cX8_give 71 = .ok (.iaload, 1) := by decide +kernel
theorem dX8_give_72 : decode cX8_give 72 = .ok (.iconst 1, 1) := by decide +kernel
theorem dX8_give_73 : decode cX8_give 73 = .ok (.if_icmp .eq 5, 3) := by decide +kernel
theorem dX8_give_76 : decode cX8_give 76 = .ok (.iconst 0, 1) := by decide +kernel
theorem dX8_give_77 : decode cX8_give 77 = .ok (.ireturn, 1) := by decide +kernel
theorem dX8_give_78 : decode cX8_give 78 = .ok (.aload_n 0, 1) := by decide +kernel
theorem dX8_give_79 : decode cX8_give 79 = .ok (.iload_n 1, 1) := by decide +kernel
theorem dX8_give_80 : decode cX8_give 80 = .ok (.aload_n 0, 1) := by decide +kernel
theorem dX8_give_81 : decode cX8_give 81 = .ok (.getfield 54, 3) := by decide +kernel
theorem dX8_give_84 : decode cX8_give 84 = .ok (.iload_n 1, 1) := by decide +kernel
theorem dX8_give_85 : decode cX8_give 85 = .ok (.iaload, 1) := by decide +kernel
theorem dX8_give_86 : decode cX8_give 86 = .ok (.bipush 24, 2) := by decide +kernel
theorem dX8_give_88 : decode cX8_give 88 = .ok (.iadd, 1) := by decide +kernel
theorem dX8_give_89 : decode cX8_give 89 = .ok (.iconst 1, 1) := by decide +kernel
theorem dX8_give_90 : decode cX8_give 90 = .ok (.isub, 1) := by decide +kernel
theorem dX8_give_91 : decode cX8_give 91 = .ok (.aload_n 0, 1) := by decide +kernel
theorem dX8_give_92 : decode cX8_give 92 = .ok (.getfield 20, 3) := by decide +kernel
theorem dX8_give_95 : decode cX8_give 95 = .ok (.iload_n 1, 1) := by decide +kernel
theorem dX8_give_96 : decode cX8_give 96 = .ok (.iaload, 1) := by decide +kernel
theorem dX8_give_97 : decode cX8_give 97 = .ok (.ldc 139, 2) := by decide +kernel
theorem dX8_give_99 : decode cX8_give 99 = .ok (.invokevirtual 195, 3) := by decide +kernel
theorem dX8_give_102 : decode cX8_give 102 = .ok (.istore_n 2, 1) := by decide +kernel
theorem dX8_give_103 : decode cX8_give 103 = .ok (.iload_n 2, 1) := by decide +kernel
theorem dX8_give_104 : decode cX8_give 104 = .ok (.ifCond .eq 11, 3) := by decide +kernel
theorem dX8_give_107 : decode cX8_give 107 = .ok (.aload_n 0, 1) := by decide +kernel
theorem dX8_give_108 : decode cX8_give 108 = .ok (.iload_n 1, 1) := by decide +kernel
theorem dX8_give_109 : decode cX8_give 109 = .ok (.invokevirtual 202, 3) := by decide +kernel
theorem dX8_give_112 : decode cX8_give 112 = .ok (.goto 8, 3) := by decide +kernel
theorem dX8_give_115 : decode cX8_give 115 = .ok (.aload_n 0, 1) := by decide +kernel
theorem dX8_give_116 : decode cX8_give 116 = .ok (.iload_n 1, 1) := by decide +kernel
theorem dX8_give_117 : decode cX8_give 117 = .ok (.invokevirtual 206, 3) := by decide +kernel
theorem dX8_give_120 : decode cX8_give 120 = .ok (.iload_n 2, 1) := by decide +kernel
theorem dX8_give_121 : decode cX8_give 121 = .ok (.ireturn, 1) := by decide +kernel
theorem dX8_mix_0 : decode cX8_mix 0 = .ok (.lconst 0, 1) := by decide +kernel
theorem dX8_mix_1 : decode cX8_mix 1 = .ok (.lstore_n 2, 1) := by decide +kernel
theorem dX8_mix_2 : decode cX8_mix 2 = .ok (.iconst 0, 1) := by decide +kernel
theorem dX8_mix_3 : decode cX8_mix 3 = .ok (.istore 4, 2) := by decide +kernel
theorem dX8_mix_5 : decode cX8_mix 5 = .ok (.iload 4, 2) := by decide +kernel
theorem dX8_mix_7 : decode cX8_mix 7 = .ok (.bipush 24, 2) := by decide +kernel
theorem dX8_mix_9 : decode cX8_mix 9 = .ok (.if_icmp .ge 117, 3) := by decide +kernel
theorem dX8_mix_12 : decode cX8_mix 12 = .ok (.lload_n 2, 1) := by decide +kernel
theorem dX8_mix_13 : decode cX8_mix 13 = .ok (.aload_n 0, 1) := by decide +kernel
theorem dX8_mix_14 : decode cX8_mix 14 = .ok (.getfield 117, 3) := by decide +kernel
theorem dX8_mix_17 : decode cX8_mix 17 = .ok (.iload 4, 2) := by decide +kernel
theorem dX8_mix_19 : decode cX8_mix 19 = .ok (.iaload, 1) := by decide +kernel
theorem dX8_mix_20 : decode cX8_mix 20 = .ok (.i2l, 1) := by decide +kernel
theorem dX8_mix_21 : decode cX8_mix 21 = .ok (.aload_n 0, 1) := by decide +kernel
theorem dX8_mix_22 : decode cX8_mix 22 = .ok (.getfield 117, 3) := by decide +kernel
theorem dX8_mix_25 : decode cX8_mix 25 = .ok (.iload 4, 2) := by decide +kernel
theorem dX8_mix_27 : decode cX8_mix 27 = .ok (.iaload, 1) := by decide +kernel
theorem dX8_mix_28 : decode cX8_mix 28 = .ok (.i2l, 1) := by decide +kernel
theorem dX8_mix_29 : decode cX8_mix 29 = .ok (.lmul, 1) := by decide +kernel
theorem dX8_mix_30 : decode cX8_mix 30 = .ok (.ladd, 1) := by decide +kernel
theorem dX8_mix_31 : decode cX8_mix 31 = .ok (.aload_n 0, 1) := by decide +kernel
theorem dX8_mix_32 : decode cX8_mix 32 = .ok (.getfield 120, 3) := by decide +kernel
theorem dX8_mix_35 : decode cX8_mix 35 = .ok (.iload 4, 2) := by decide +kernel
theorem dX8_mix_37 : decode cX8_mix 37 = .ok (.iaload, 1) := by decide +kernel
theorem dX8_mix_38 : decode cX8_mix 38 = .ok (.i2l, 1) := by decide +kernel
theorem dX8_mix_39 : decode cX8_mix 39 = .ok (.aload_n 0, 1) := by decide +kernel
theorem dX8_mix_40 : decode cX8_mix 40 = .ok (.getfield 120, 3) := by decide +kernel
theorem dX8_mix_43 : decode cX8_mix 43 = .ok (.iload 4, 2) := by decide +kernel
theorem dX8_mix_45 : decode cX8_mix 45 = .ok (.iaload, 1) := by decide +kernel
theorem dX8_mix_46 : decode cX8_mix 46 = .ok (.i2l, 1) := by decide +kernel
theorem dX8_mix_47 : decode cX8_mix 47 = .ok (.lmul, 1) := by decide +kernel
theorem dX8_mix_48 : decode cX8_mix 48 = .ok (.ladd, 1) := by decide +kernel
theorem dX8_mix_49 : decode cX8_mix 49 = .ok (.lstore_n 2, 1) := by decide +kernel
theorem dX8_mix_50 : decode cX8_mix 50 = .ok (.aload_n 0, 1) := by decide +kernel
theorem dX8_mix_51 : decode cX8_mix 51 = .ok (.getfield 111, 3) := by decide +kernel
theorem dX8_mix_54 : decode cX8_mix 54 = .ok (.iload 4, 2) := by decide +kernel
theorem dX8_mix_56 : decode cX8_mix 56 = .ok (.aload_n 0, 1) := by decide +kernel
theorem dX8_mix_57 : decode cX8_mix 57 = .ok (.getfield 111, 3) := by decide +kernel
theorem dX8_mix_60 : decode cX8_mix 60 = .ok (.iload 4, 2) := by decide +kernel
theorem dX8_mix_62 : decode cX8_mix 62 = .ok (.iaload, 1) := by decide +kernel
theorem dX8_mix_63 : decode cX8_mix 63 = .ok (.aload_n 0, 1) := by decide +kernel
theorem dX8_mix_64 : decode cX8_mix 64 = .ok (.getfield 117, 3) := by decide +kernel
theorem dX8_mix_67 : decode cX8_mix 67 = .ok (.iload 4, 2) := by decide +kernel
theorem dX8_mix_69 : decode cX8_mix 69 = .ok (.iaload, 1) := by decide +kernel
theorem dX8_mix_70 : decode cX8_mix 70 = .ok (.aload_n 0, 1) := by decide +kernel
theorem dX8_mix_71 : decode cX8_mix 71 = .ok (.getfield 29, 3) := by decide +kernel
theorem dX8_mix_74 : decode cX8_mix 74 = .ok (.iload_n 1, 1) := by decide +kernel
theorem dX8_mix_75 : decode cX8_mix 75 = .ok (.iaload, 1) := by decide +kernel
theorem dX8_mix_76 : decode cX8_mix 76 = .ok (.imul, 1) := by decide +kernel
theorem dX8_mix_77 : decode cX8_mix 77 = .ok (.sipush 256, 3) := by decide +kernel
theorem dX8_mix_80 : decode cX8_mix 80 = .ok (.invokestatic 185, 3) := by decide +kernel
theorem dX8_mix_83 : decode cX8_mix 83 = .ok (.iadd, 1) := by decide +kernel
theorem dX8_mix_84 : decode cX8_mix 84 = .ok (.iastore, 1) := by decide +kernel
theorem dX8_mix_85 : decode cX8_mix 85 = .ok (.aload_n 0, 1) := by decide +kernel
theorem dX8_mix_86 : decode cX8_mix 86 = .ok (.getfield 114, 3) := by decide +kernel
theorem dX8_mix_89 : decode cX8_mix 89 = .ok (.iload 4, 2) := by decide +kernel
theorem dX8_mix_91 : decode cX8_mix 91 = .ok (.aload_n 0, 1) := by decide +kernel
theorem dX8_mix_92 : decode cX8_mix 92 = .ok (.getfield 114, 3) := by decide +kernel
theorem dX8_mix_95 : decode cX8_mix 95 = .ok (.iload 4, 2) := by decide +kernel
theorem dX8_mix_97 : decode cX8_mix 97 = .ok (.iaload, 1) := by decide +kernel
theorem dX8_mix_98 : decode cX8_mix 98 = .ok (.aload_n 0, 1) := by decide +kernel
theorem dX8_mix_99 : decode cX8_mix 99 = .ok (.getfield 120, 3) := by decide +kernel
theorem dX8_mix_102 : decode cX8_mix 102 = .ok (.iload 4, 2) := by decide +kernel
theorem dX8_mix_104 : decode cX8_mix 104 = .ok (.iaload, 1) := by decide +kernel
theorem dX8_mix_105 : decode cX8_mix 105 = .ok (.aload_n 0, 1) := by decide +kernel
theorem dX8_mix_106 : decode cX8_mix 106 = .ok (.getfield 29, 3) := by decide +kernel
theorem dX8_mix_109 : decode cX8_mix 109 = .ok (.iload_n 1, 1) := by decide +kernel
theorem dX8_mix_110 : decode cX8_mix 110 = .ok (.iaload, 1) := by decide +kernel
theorem dX8_mix_111 : decode cX8_mix 111 = .ok (.imul, 1) := by decide +kernel
theorem dX8_mix_112 : decode cX8_mix 112 = .ok (.sipush 256, 3) := by decide +kernel
theorem dX8_mix_115 : decode cX8_mix 115 = .ok (.invokestatic 185, 3) := by decide +kernel
theorem dX8_mix_118 : decode cX8_mix 118 = .ok (.iadd, 1) := by decide +kernel
theorem dX8_mix_119 : decode cX8_mix 119 = .ok (.iastore, 1) := by decide +kernel
theorem dX8_mix_120 : decode cX8_mix 120 = .ok (.iinc 4 1, 3) := by decide +kernel
theorem dX8_mix_123 : decode cX8_mix 123 = .ok (.goto (-118), 3) := by decide +kernel
theorem dX8_mix_126 : decode cX8_mix 126 = .ok (.aload_n 0, 1) := by decide +kernel
theorem dX8_mix_127 : decode cX8_mix 127 = .ok (.getfield 66, 3) := by decide +kernel
theorem dX8_mix_130 : decode cX8_mix 130 = .ok (.iload_n 1, 1) := by decide +kernel
theorem dX8_mix_131 : decode cX8_mix 131 = .ok (.lload_n 2, 1) := by decide +kernel
theorem dX8_mix_132 : decode cX8_mix 132 = .ok (.l2d, 1) := by decide +kernel
theorem dX8_mix_133 : decode cX8_mix 133 = .ok (.ldc2_w 209, 3) := by decide +kernel
theorem dX8_mix_136 : decode cX8_mix 136 = .ok (.ddiv, 1) := by decide +kernel
theorem dX8_mix_137 : decode cX8_mix 137 = .ok (.dastore, 1) := by decide +kernel
theorem dX8_mix_138 : decode cX8_mix 138 = .ok (.return_, 1) := by decide +kernel
theorem dX8_sizeOf_0 : decode cX8_sizeOf 0 = .ok (.iload_n 0, 1) := by decide +kernel
theorem dX8_sizeOf_1 : decode cX8_sizeOf 1 = .ok (.ifCond .ge 9, 3) := by decide +kernel
theorem dX8_sizeOf_4 : decode cX8_sizeOf 4 = .ok (.iload_n 0, 1) := by decide +kernel
theorem dX8_sizeOf_5 : decode cX8_sizeOf 5 = .ok (.i2l, 1) := by decide +kernel
theorem dX8_sizeOf_6 : decode cX8_sizeOf 6 = .ok (.lneg, 1) := by decide +kernel
theorem dX8_sizeOf_7 : decode cX8_sizeOf 7 = .ok (.goto 5, 3) := by decide +kernel
theorem dX8_sizeOf_10 : decode cX8_sizeOf 10 = .ok (.iload_n 0, 1) := by decide +kernel
theorem dX8_sizeOf_11 : decode cX8_sizeOf 11 = .ok (.i2l, 1) := by decide +kernel
theorem dX8_sizeOf_12 : decode cX8_sizeOf 12 = .ok (.lreturn, 1) := by decide +kernel
theorem dX8_cut_0 : decode cX8_cut 0 = .ok (.lload_n 1, 1) := by decide +kernel
theorem dX8_cut_1 : decode cX8_cut 1 = .ok (.ldc2_w 211, 3) := by decide +kernel
theorem dX8_cut_4 : decode cX8_cut 4 = .ok (.lcmp, 1) := by decide +kernel
theorem dX8_cut_5 : decode cX8_cut 5 = .ok (.ifCond .lt 11, 3) := by decide +kernel
theorem dX8_cut_8 : decode cX8_cut 8 = .ok (.lload_n 1, 1) := by decide +kernel
theorem dX8_cut_9 : decode cX8_cut 9 = .ok (.ldc2_w 213, 3) := by decide +kernel
theorem dX8_cut_12 : decode cX8_cut 12 = .ok (.lcmp, 1) := by decide +kernel
theorem dX8_cut_13 : decode cX8_cut 13 = .ok (.ifCond .le 13, 3) := by decide +kernel
theorem dX8_cut_16 : decode cX8_cut 16 = .ok (.aload_n 0, 1) := by decide +kernel
theorem dX8_cut_17 : decode cX8_cut 17 = .ok (.dup, 1) := by decide +kernel
theorem dX8_cut_18 : decode cX8_cut 18 = .ok (.getfield 215, 3) := by decide +kernel
theorem dX8_cut_21 : decode cX8_cut 21 = .ok (.iconst 1, 1) := by decide +kernel
theorem dX8_cut_22 : decode cX8_cut 22 = .ok (.iadd, 1) := by decide +kernel
theorem dX8_cut_23 : decode cX8_cut 23 = .ok (.putfield 215, 3) := by decide +kernel
theorem dX8_cut_26 : decode cX8_cut 26 = .ok (.lload_n 1, 1) := by decide +kernel
theorem dX8_cut_27 : decode cX8_cut 27 = .ok (.ldc2_w 211, 3) := by decide +kernel
theorem dX8_cut_30 : decode cX8_cut 30 = .ok (.lcmp, 1) := by decide +kernel
theorem dX8_cut_31 : decode cX8_cut 31 = .ok (.ifCond .ge 9, 3) := by decide +kernel
theorem dX8_cut_34 : decode cX8_cut 34 = .ok (.sipush (-32768), 3) := by decide +kernel
theorem dX8_cut_37 : decode cX8_cut 37 = .ok (.goto 19, 3) := by decide +kernel
theorem dX8_cut_40 : decode cX8_cut 40 = .ok (.lload_n 1, 1) := by decide +kernel
theorem dX8_cut_41 : decode cX8_cut 41 = .ok (.ldc2_w 213, 3) := by decide +kernel
theorem dX8_cut_44 : decode cX8_cut 44 = .ok (.lcmp, 1) := by decide +kernel
theorem dX8_cut_45 : decode cX8_cut 45 = .ok (.ifCond .le 9, 3) := by decide +kernel
theorem dX8_cut_48 : decode cX8_cut 48 = .ok (.sipush 32767, 3) := by decide +kernel
theorem dX8_cut_51 : decode cX8_cut 51 = .ok (.goto 5, 3) := by decide +kernel
theorem dX8_cut_54 : decode cX8_cut 54 = .ok (.lload_n 1, 1) := by decide +kernel
theorem dX8_cut_55 : decode cX8_cut 55 = .ok (.l2i, 1) := by decide +kernel
theorem dX8_cut_56 : decode cX8_cut 56 = .ok (.ireturn, 1) := by decide +kernel
theorem dX8_limitFrame_0 : decode cX8_limitFrame 0 = .ok (.aload_n 0, 1) := by decide +kernel
theorem dX8_limitFrame_1 : decode cX8_limitFrame 1 = .ok (.getfield 218, 3) := by decide +kernel
theorem dX8_limitFrame_4 : decode cX8_limitFrame 4 = .ok (.bipush 32, 2) := by decide +kernel
theorem dX8_limitFrame_6 : decode cX8_limitFrame 6 = .ok (.irem, 1) := by decide +kernel
theorem dX8_limitFrame_7 : decode cX8_limitFrame 7 = .ok (.ifCond .ne 33, 3) := by decide +kernel
theorem dX8_limitFrame_10 : decode cX8_limitFrame 10 = .ok (.aload_n 0, 1) := by decide +kernel
theorem dX8_limitFrame_11 : decode cX8_limitFrame 11 = .ok (.aload_n 0, 1) := by decide +kernel
theorem dX8_limitFrame_12 : decode cX8_limitFrame 12 = .ok (.getfield 107, 3) := by decide +kernel
theorem dX8_limitFrame_15 : decode cX8_limitFrame 15 = .ok (.bipush 16, 2) := by decide +kernel
theorem dX8_limitFrame_17 : decode cX8_limitFrame 17 = .ok (.iadd, 1) := by decide +kernel
theorem dX8_limitFrame_18 : decode cX8_limitFrame 18 = .ok (.sipush 4096, 3) := by decide +kernel
theorem dX8_limitFrame_21 : decode cX8_limitFrame 21 = .ok (.if_icmp .le 9, 3) := by decide +kernel
theorem dX8_limitFrame_24 : decode cX8_limitFrame 24 = .ok (.sipush 4096, 3) := by decide +kernel
theorem dX8_limitFrame_27 : decode cX8_limitFrame 27 = .ok (.goto 10, 3) := by decide +kernel
theorem dX8_limitFrame_30 : decode cX8_limitFrame 30 = .ok (.aload_n 0, 1) := by decide +kernel
theorem dX8_limitFrame_31 : decode cX8_limitFrame 31 = .ok (.getfield 107, 3) := by decide +kernel
theorem dX8_limitFrame_34 : decode cX8_limitFrame 34 = .ok (.bipush 16, 2) := by decide +kernel
theorem dX8_limitFrame_36 : decode cX8_limitFrame 36 = .ok (.iadd, 1) := by decide +kernel
theorem dX8_limitFrame_37 : decode cX8_limitFrame 37 = .ok (.putfield 107, 3) := by decide +kernel
theorem dX8_limitFrame_40 : decode cX8_limitFrame 40 = .ok (.aload_n 0, 1) := by decide +kernel
theorem dX8_limitFrame_41 : decode cX8_limitFrame 41 = .ok (.getfield 111, 3) := by decide +kernel
theorem dX8_limitFrame_44 : decode cX8_limitFrame 44 = .ok (.iload_n 1, 1) := by decide +kernel
theorem dX8_limitFrame_45 : decode cX8_limitFrame 45 = .ok (.iaload, 1) := by decide +kernel
theorem dX8_limitFrame_46 : decode cX8_limitFrame 46 = .ok (.invokestatic 221, 3) := by decide +kernel
theorem dX8_limitFrame_49 : decode cX8_limitFrame 49 = .ok (.aload_n 0, 1) := by decide +kernel
theorem dX8_limitFrame_50 : decode cX8_limitFrame 50 = .ok (.getfield 114, 3) := by decide +kernel
theorem dX8_limitFrame_53 : decode cX8_limitFrame 53 = .ok (.iload_n 1, 1) := by decide +kernel
theorem dX8_limitFrame_54 : decode cX8_limitFrame 54 = .ok (.iaload, 1) := by decide +kernel
theorem dX8_limitFrame_55 : decode cX8_limitFrame 55 = .ok (.invokestatic 221, 3) := by decide +kernel
theorem dX8_limitFrame_58 : decode cX8_limitFrame 58 = .ok (.lcmp, 1) := by decide +kernel
theorem dX8_limitFrame_59 : decode cX8_limitFrame 59 = .ok (.ifCond .le 15, 3) := by decide +kernel
theorem dX8_limitFrame_62 : decode cX8_limitFrame 62 = .ok (.aload_n 0, 1) := by decide +kernel
theorem dX8_limitFrame_63 : decode cX8_limitFrame 63 = .ok (.getfield 111, 3) := by decide +kernel
theorem dX8_limitFrame_66 : decode cX8_limitFrame 66 = .ok (.iload_n 1, 1) := by decide +kernel
theorem dX8_limitFrame_67 : decode cX8_limitFrame 67 = .ok (.iaload, 1) := by decide +kernel
theorem dX8_limitFrame_68 : decode cX8_limitFrame 68 = .ok (.invokestatic 221, 3) := by decide +kernel
theorem dX8_limitFrame_71 : decode cX8_limitFrame 71 = .ok (.goto 12, 3) := by decide +kernel
theorem dX8_limitFrame_74 : decode cX8_limitFrame 74 = .ok (.aload_n 0, 1) := by decide +kernel
theorem dX8_limitFrame_75 : decode cX8_limitFrame 75 = .ok (.getfield 114, 3) := by decide +kernel
theorem dX8_limitFrame_78 : decode cX8_limitFrame 78 = .ok (.iload_n 1, 1) := by decide +kernel
theorem dX8_limitFrame_79 : decode cX8_limitFrame 79 = .ok (.iaload, 1) := by decide +kernel
theorem dX8_limitFrame_80 : decode cX8_limitFrame 80 = .ok (.invokestatic 221, 3) := by decide +kernel
theorem dX8_limitFrame_83 : decode cX8_limitFrame 83 = .ok (.lstore_n 2, 1) := by decide +kernel
theorem dX8_limitFrame_84 : decode cX8_limitFrame 84 = .ok (.lload_n 2, 1) := by decide +kernel
theorem dX8_limitFrame_85 : decode cX8_limitFrame 85 = .ok (.aload_n 0, 1) := by decide +kernel
theorem dX8_limitFrame_86 : decode cX8_limitFrame 86 = .ok (.getfield 107, 3) := by decide +kernel
theorem dX8_limitFrame_89 : decode cX8_limitFrame 89 = .ok (.i2l, 1) := by decide +kernel
theorem dX8_limitFrame_90 : decode cX8_limitFrame 90 = .ok (.lmul, 1) := by decide +kernel
theorem dX8_limitFrame_91 : decode cX8_limitFrame 91 = .ok (.ldc2_w 225, 3) := by decide +kernel
theorem dX8_limitFrame_94 : decode cX8_limitFrame 94 = .ok (.lcmp, 1) := by decide +kernel
theorem dX8_limitFrame_95 : decode cX8_limitFrame 95 = .ok (.ifCond .le 13, 3) := by decide +kernel
theorem dX8_limitFrame_98 : decode cX8_limitFrame 98 = .ok (.aload_n 0, 1) := by decide +kernel
theorem dX8_limitFrame_99 : decode cX8_limitFrame 99 = .ok (.ldc2_w 225, 3) := by decide +kernel
theorem dX8_limitFrame_102 : decode cX8_limitFrame 102 = .ok (.lload_n 2, 1) := by decide +kernel
theorem dX8_limitFrame_103 : decode cX8_limitFrame 103 = .ok (.ldiv, 1) := by decide +kernel
theorem dX8_limitFrame_104 : decode cX8_limitFrame 104 = .ok (.l2i, 1) := by decide +kernel
theorem dX8_limitFrame_105 : decode cX8_limitFrame 105 = .ok (.putfield 107, 3) := by decide +kernel
theorem dX8_limitFrame_108 : decode cX8_limitFrame 108 = .ok (.aload_n 0, 1) := by decide +kernel
theorem dX8_limitFrame_109 : decode cX8_limitFrame 109 = .ok (.getfield 111, 3) := by decide +kernel
theorem dX8_limitFrame_112 : decode cX8_limitFrame 112 = .ok (.iload_n 1, 1) := by decide +kernel
theorem dX8_limitFrame_113 : decode cX8_limitFrame 113 = .ok (.aload_n 0, 1) := by decide +kernel
theorem dX8_limitFrame_114 : decode cX8_limitFrame 114 = .ok (.getfield 111, 3) := by decide +kernel
theorem dX8_limitFrame_117 : decode cX8_limitFrame 117 = .ok (.iload_n 1, 1) := by decide +kernel
theorem dX8_limitFrame_118 : decode cX8_limitFrame 118 = .ok (.iaload, 1) := by decide +kernel
theorem dX8_limitFrame_119 : decode cX8_limitFrame 119 = .ok (.i2l, 1) := by decide +kernel
theorem dX8_limitFrame_120 : decode cX8_limitFrame 120 = .ok (.aload_n 0, 1) := by decide +kernel
theorem dX8_limitFrame_121 : decode cX8_limitFrame 121 = .ok (.getfield 107, 3) := by decide +kernel
theorem dX8_limitFrame_124 : decode cX8_limitFrame 124 = .ok (.i2l, 1) := by decide +kernel
theorem dX8_limitFrame_125 : decode cX8_limitFrame 125 = .ok (.lmul, 1) := by decide +kernel
theorem dX8_limitFrame_126 : decode cX8_limitFrame 126 = .ok (.ldc2_w 227, 3) := by decide +kernel
theorem dX8_limitFrame_129 : decode cX8_limitFrame 129 = .ok (.invokestatic 134, 3) := by decide +kernel
theorem dX8_limitFrame_132 : decode cX8_limitFrame 132 = .ok (.l2i, 1) := by decide +kernel
theorem dX8_limitFrame_133 : decode cX8_limitFrame 133 = .ok (.iastore, 1) := by decide +kernel
theorem dX8_limitFrame_134 : decode cX8_limitFrame 134 = .ok (.aload_n 0, 1) := by decide +kernel
theorem dX8_limitFrame_135 : decode cX8_limitFrame 135 = .ok (.getfield 114, 3) := by decide +kernel
theorem dX8_limitFrame_138 : decode cX8_limitFrame 138 = .ok (.iload_n 1, 1) := by decide +kernel
theorem dX8_limitFrame_139 : decode cX8_limitFrame 139 = .ok (.aload_n 0, 1) := by decide +kernel
theorem dX8_limitFrame_140 : decode cX8_limitFrame 140 = .ok (.getfield 114, 3) := by decide +kernel
theorem dX8_limitFrame_143 : decode cX8_limitFrame 143 = .ok (.iload_n 1, 1) := by decide +kernel
theorem dX8_limitFrame_144 : decode cX8_limitFrame 144 = .ok (.iaload, 1) := by decide +kernel
theorem dX8_limitFrame_145 : decode cX8_limitFrame 145 = .ok (.i2l, 1) := by decide +kernel
theorem dX8_limitFrame_146 : decode cX8_limitFrame 146 = .ok (.aload_n 0, 1) := by decide +kernel
theorem dX8_limitFrame_147 : decode cX8_limitFrame 147 = .ok (.getfield 107, 3) := by decide +kernel
theorem dX8_limitFrame_150 : decode cX8_limitFrame 150 = .ok (.i2l, 1) := by decide +kernel
theorem dX8_limitFrame_151 : decode cX8_limitFrame 151 = .ok (.lmul, 1) := by decide +kernel
theorem dX8_limitFrame_152 : decode cX8_limitFrame 152 = .ok (.ldc2_w 227, 3) := by decide +kernel
theorem dX8_limitFrame_155 : decode cX8_limitFrame 155 = .ok (.invokestatic 134, 3) := by decide +kernel
theorem dX8_limitFrame_158 : decode cX8_limitFrame 158 = .ok (.l2i, 1) := by decide +kernel
theorem dX8_limitFrame_159 : decode cX8_limitFrame 159 = .ok (.iastore, 1) := by decide +kernel
theorem dX8_limitFrame_160 : decode cX8_limitFrame 160 = .ok (.return_, 1) := by decide +kernel
theorem dX8_prepare_0 : decode cX8_prepare 0 = .ok (.aload_n 0, 1) := by decide +kernel
theorem dX8_prepare_1 : decode cX8_prepare 1 = .ok (.iconst 0, 1) := by decide +kernel
theorem dX8_prepare_2 : decode cX8_prepare 2 = .ok (.putfield 127, 3) := by decide +kernel
theorem dX8_prepare_5 : decode cX8_prepare 5 = .ok (.aload_n 0, 1) := by decide +kernel
theorem dX8_prepare_6 : decode cX8_prepare 6 = .ok (.getfield 229, 3) := by decide +kernel
theorem dX8_prepare_9 : decode cX8_prepare 9 = .ok (.iconst 4, 1) := by decide +kernel
theorem dX8_prepare_10 : decode cX8_prepare 10 = .ok (.if_icmp .ne 5, 3) := by decide +kernel
theorem dX8_prepare_13 : decode cX8_prepare 13 = .ok (.iconst 0, 1) := by decide +kernel
theorem dX8_prepare_14 : decode cX8_prepare 14 = .ok (.ireturn, 1) := by decide +kernel
theorem dX8_prepare_15 : decode cX8_prepare 15 = .ok (.iconst 0, 1) := by decide +kernel
theorem dX8_prepare_16 : decode cX8_prepare 16 = .ok (.istore_n 1, 1) := by decide +kernel
theorem dX8_prepare_17 : decode cX8_prepare 17 = .ok (.iload_n 1, 1) := by decide +kernel
theorem dX8_prepare_18 : decode cX8_prepare 18 = .ok (.bipush 24, 2) := by decide +kernel
theorem dX8_prepare_20 : decode cX8_prepare 20 = .ok (.if_icmp .ge 23, 3) := by decide +kernel
theorem dX8_prepare_23 : decode cX8_prepare 23 = .ok (.aload_n 0, 1) := by decide +kernel
theorem dX8_prepare_24 : decode cX8_prepare 24 = .ok (.getfield 111, 3) := by decide +kernel
theorem dX8_prepare_27 : decode cX8_prepare 27 = .ok (.iload_n 1, 1) := by decide +kernel
theorem dX8_prepare_28 : decode cX8_prepare 28 = .ok (.iconst 0, 1) := by decide +kernel
theorem dX8_prepare_29 : decode cX8_prepare 29 = .ok (.iastore, 1) := by decide +kernel
theorem dX8_prepare_30 : decode cX8_prepare 30 = .ok (.aload_n 0, 1) := by decide +kernel
theorem dX8_prepare_31 : decode cX8_prepare 31 = .ok (.getfield 114, 3) := by decide +kernel
theorem dX8_prepare_34 : decode cX8_prepare 34 = .ok (.iload_n 1, 1) := by decide +kernel
theorem dX8_prepare_35 : decode cX8_prepare 35 = .ok (.iconst 0, 1) := by decide +kernel
theorem dX8_prepare_36 : decode cX8_prepare 36 = .ok (.iastore, 1) := by decide +kernel
theorem dX8_prepare_37 : decode cX8_prepare 37 = .ok (.iinc 1 1, 3) := by decide +kernel
theorem dX8_prepare_40 : decode cX8_prepare 40 = .ok (.goto (-23), 3) := by decide +kernel
theorem dX8_prepare_43 : decode cX8_prepare 43 = .ok (.iconst 0, 1) := by decide +kernel
theorem dX8_prepare_44 : decode cX8_prepare 44 = .ok (.istore_n 1, 1) := by decide +kernel
theorem dX8_prepare_45 : decode cX8_prepare 45 = .ok (.iload_n 1, 1) := by decide +kernel
theorem dX8_prepare_46 : decode cX8_prepare 46 = .ok (.bipush 6, 2) := by decide +kernel
theorem dX8_prepare_48 : decode cX8_prepare 48 = .ok (.if_icmp .ge 64, 3) := by decide +kernel
theorem dX8_prepare_51 : decode cX8_prepare 51 = .ok (.iconst 0, 1) := by decide +kernel
theorem dX8_prepare_52 : decode cX8_prepare 52 = .ok (.istore_n 2, 1) := by decide +kernel
theorem dX8_prepare_53 : decode cX8_prepare 53 = .ok (.aload_n 0, 1) := by decide +kernel
theorem dX8_prepare_54 : decode cX8_prepare 54 = .ok (.getfield 13, 3) := by decide +kernel
theorem dX8_prepare_57 : decode cX8_prepare 57 = .ok (.iload_n 1, 1) := by decide +kernel
theorem dX8_prepare_58 : decode cX8_prepare 58 = .ok (.baload, 1) := by decide +kernel
theorem dX8_prepare_59 : decode cX8_prepare 59 = .ok (.ifCond .eq 23, 3) := by decide +kernel
theorem dX8_prepare_62 : decode cX8_prepare 62 = .ok (.aload_n 0, 1) := by decide +kernel
theorem dX8_prepare_63 : decode cX8_prepare 63 = .ok (.getfield 17, 3) := by decide +kernel
theorem dX8_prepare_66 : decode cX8_prepare 66 = .ok (.iload_n 1, 1) := by decide +kernel
theorem dX8_prepare_67 : decode cX8_prepare 67 = .ok (.baload, 1) := by decide +kernel
theorem dX8_prepare_68 : decode cX8_prepare 68 = .ok (.ifCond .eq 14, 3) := by decide +kernel
theorem dX8_prepare_71 : decode cX8_prepare 71 = .ok (.aload_n 0, 1) := by decide +kernel
theorem dX8_prepare_72 : decode cX8_prepare 72 = .ok (.iload_n 1, 1) := by decide +kernel
theorem dX8_prepare_73 : decode cX8_prepare 73 = .ok (.invokevirtual 232, 3) := by decide +kernel
theorem dX8_prepare_76 : decode cX8_prepare 76 = .ok (.istore_n 2, 1) := by decide +kernel
theorem dX8_prepare_77 : decode cX8_prepare 77 = .ok (.aload_n 0, 1) := by decide +kernel
theorem dX8_prepare_78 : decode cX8_prepare 78 = .ok (.iload_n 1, 1) := by decide +kernel
theorem dX8_prepare_79 : decode cX8_prepare 79 = .ok (.invokevirtual 235, 3) := by decide +kernel
theorem dX8_prepare_82 : decode cX8_prepare 82 = .ok (.aload_n 0, 1) := by decide +kernel
theorem dX8_prepare_83 : decode cX8_prepare 83 = .ok (.getfield 88, 3) := by decide +kernel
theorem dX8_prepare_86 : decode cX8_prepare 86 = .ok (.bipush 6, 2) := by decide +kernel
theorem dX8_prepare_88 : decode cX8_prepare 88 = .ok (.aload_n 0, 1) := by decide +kernel
theorem dX8_prepare_89 : decode cX8_prepare 89 = .ok (.getfield 229, 3) := by decide +kernel
theorem dX8_prepare_92 : decode cX8_prepare 92 = .ok (.imul, 1) := by decide +kernel
theorem dX8_prepare_93 : decode cX8_prepare 93 = .ok (.iload_n 1, 1) := by decide +kernel
theorem dX8_prepare_94 : decode cX8_prepare 94 = .ok (.iadd, 1) := by decide +kernel
theorem dX8_prepare_95 : decode cX8_prepare 95 = .ok (.iload_n 2, 1) := by decide +kernel
theorem dX8_prepare_96 : decode cX8_prepare 96 = .ok (.ifCond .eq 8, 3) := by decide +kernel
theorem dX8_prepare_99 : decode cX8_prepare 99 = .ok (.bipush 24, 2) := by decide +kernel
theorem dX8_prepare_101 : decode cX8_prepare 101 = .ok (.goto 4, 3) := by decide +kernel
theorem dX8_prepare_104 : decode cX8_prepare 104 = .ok (.iconst 0, 1) := by decide +kernel
theorem dX8_prepare_105 : decode cX8_prepare 105 = .ok (.iastore, 1) := by decide +kernel
theorem dX8_prepare_106 : decode cX8_prepare 106 = .ok (.iinc 1 1, 3) := by decide +kernel
theorem dX8_prepare_109 : decode cX8_prepare 109 = .ok (.goto (-64), 3) := by decide +kernel
theorem dX8_prepare_112 : decode cX8_prepare 112 = .ok (.iconst 0, 1) := by decide +kernel
theorem dX8_prepare_113 : decode cX8_prepare 113 = .ok (.istore_n 1, 1) := by decide +kernel
theorem dX8_prepare_114 : decode cX8_prepare 114 = .ok (.iload_n 1, 1) := by decide +kernel
theorem dX8_prepare_115 : decode cX8_prepare 115 = .ok (.bipush 24, 2) := by decide +kernel
theorem dX8_prepare_117 : decode cX8_prepare 117 = .ok (.if_icmp .ge 81, 3) := by decide +kernel
theorem dX8_prepare_120 : decode cX8_prepare 120 = .ok (.aload_n 0, 1) := by decide +kernel
theorem dX8_prepare_121 : decode cX8_prepare 121 = .ok (.getfield 103, 3) := by decide +kernel
theorem dX8_prepare_124 : decode cX8_prepare 124 = .ok (.ifCond .eq 8, 3) := by decide +kernel
theorem dX8_prepare_127 : decode cX8_prepare 127 = .ok (.aload_n 0, 1) := by decide +kernel
theorem dX8_prepare_128 : decode cX8_prepare 128 = .ok (.iload_n 1, 1) := by decide +kernel
theorem dX8_prepare_129 : decode cX8_prepare 129 = .ok (.invokevirtual 238, 3) := by decide +kernel
theorem dX8_prepare_132 : decode cX8_prepare 132 = .ok (.aload_n 0, 1) := by decide +kernel
theorem dX8_prepare_133 : decode cX8_prepare 133 = .ok (.dup, 1) := by decide +kernel
theorem dX8_prepare_134 : decode cX8_prepare 134 = .ok (.getfield 218, 3) := by decide +kernel
theorem dX8_prepare_137 : decode cX8_prepare 137 = .ok (.iconst 1, 1) := by decide +kernel
theorem dX8_prepare_138 : decode cX8_prepare 138 = .ok (.iadd, 1) := by decide +kernel
theorem dX8_prepare_139 : decode cX8_prepare 139 = .ok (.putfield 218, 3) := by decide +kernel
theorem dX8_prepare_142 : decode cX8_prepare 142 = .ok (.aload_n 0, 1) := by decide +kernel
theorem dX8_prepare_143 : decode cX8_prepare 143 = .ok (.getfield 82, 3) := by decide +kernel
theorem dX8_prepare_146 : decode cX8_prepare 146 = .ok (.bipush 24, 2) := by decide +kernel
theorem dX8_prepare_148 : decode cX8_prepare 148 = .ok (.aload_n 0, 1) := by decide +kernel
theorem dX8_prepare_149 : decode cX8_prepare 149 = .ok (.getfield 229, 3) := by decide +kernel
theorem dX8_prepare_152 : decode cX8_prepare 152 = .ok (.imul, 1) := by decide +kernel
theorem dX8_prepare_153 : decode cX8_prepare 153 = .ok (.iload_n 1, 1) := by decide +kernel
theorem dX8_prepare_154 : decode cX8_prepare 154 = .ok (.iadd, 1) := by decide +kernel
theorem dX8_prepare_155 : decode cX8_prepare 155 = .ok (.aload_n 0, 1) := by decide +kernel
theorem dX8_prepare_156 : decode cX8_prepare 156 = .ok (.aload_n 0, 1) := by decide +kernel
theorem dX8_prepare_157 : decode cX8_prepare 157 = .ok (.getfield 111, 3) := by decide +kernel
theorem dX8_prepare_160 : decode cX8_prepare 160 = .ok (.iload_n 1, 1) := by decide +kernel
theorem dX8_prepare_161 : decode cX8_prepare 161 = .ok (.iaload, 1) := by decide +kernel
theorem dX8_prepare_162 : decode cX8_prepare 162 = .ok (.i2l, 1) := by decide +kernel
theorem dX8_prepare_163 : decode cX8_prepare 163 = .ok (.invokevirtual 241, 3) := by decide +kernel
theorem dX8_prepare_166 : decode cX8_prepare 166 = .ok (.iastore, 1) := by decide +kernel
theorem dX8_prepare_167 : decode cX8_prepare 167 = .ok (.aload_n 0, 1) := by decide +kernel
theorem dX8_prepare_168 : decode cX8_prepare 168 = .ok (.getfield 85, 3) := by decide +kernel
theorem dX8_prepare_171 : decode cX8_prepare 171 = .ok (.bipush 24, 2) := by decide +kernel
theorem dX8_prepare_173 : decode cX8_prepare 173 = .ok (.aload_n 0, 1) := by decide +kernel
theorem dX8_prepare_174 : decode cX8_prepare 174 = .ok (.getfield 229, 3) := by decide +kernel
theorem dX8_prepare_177 : decode cX8_prepare 177 = .ok (.imul, 1) := by decide +kernel
theorem dX8_prepare_178 : decode cX8_prepare 178 = .ok (.iload_n 1, 1) := by decide +kernel
theorem dX8_prepare_179 : decode cX8_prepare 179 = .ok (.iadd, 1) := by decide +kernel
theorem dX8_prepare_180 : decode cX8_prepare 180 = .ok (.aload_n 0, 1) := by decide +kernel
theorem dX8_prepare_181 : decode cX8_prepare 181 = .ok (.aload_n 0, 1) := by decide +kernel
theorem dX8_prepare_182 : decode cX8_prepare 182 = .ok (.getfield 114, 3) := by decide +kernel
theorem dX8_prepare_185 : decode cX8_prepare 185 = .ok (.iload_n 1, 1) := by decide +kernel
theorem dX8_prepare_186 : decode cX8_prepare 186 = .ok (.iaload, 1) := by decide +kernel
theorem dX8_prepare_187 : decode cX8_prepare 187 = .ok (.i2l, 1) := by decide +kernel
theorem dX8_prepare_188 : decode cX8_prepare 188 = .ok (.invokevirtual 241, 3) := by decide +kernel
theorem dX8_prepare_191 : decode cX8_prepare 191 = .ok (.iastore, 1) := by decide +kernel
theorem dX8_prepare_192 : decode cX8_prepare 192 = .ok (.iinc 1 1, 3) := by decide +kernel
theorem dX8_prepare_195 : decode cX8_prepare 195 = .ok (.goto (-81), 3) := by decide +kernel
theorem dX8_prepare_198 : decode cX8_prepare 198 = .ok (.aload_n 0, 1) := by decide +kernel
theorem dX8_prepare_199 : decode cX8_prepare 199 = .ok (.dup, 1) := by decide +kernel
theorem dX8_prepare_200 : decode cX8_prepare 200 = .ok (.getfield 229, 3) := by decide +kernel
theorem dX8_prepare_203 : decode cX8_prepare 203 = .ok (.iconst 1, 1) := by decide +kernel
theorem dX8_prepare_204 : decode cX8_prepare 204 = .ok (.iadd, 1) := by decide +kernel
theorem dX8_prepare_205 : decode cX8_prepare 205 = .ok (.putfield 229, 3) := by decide +kernel
theorem dX8_prepare_208 : decode cX8_prepare 208 = .ok (.iconst 1, 1) := by decide +kernel
theorem dX8_prepare_209 : decode cX8_prepare 209 = .ok (.ireturn, 1) := by decide +kernel
theorem dX8_capture_0 : decode cX8_capture 0 = .ok (.iconst 0, 1) := by decide +kernel
theorem dX8_capture_1 : decode cX8_capture 1 = .ok (.istore_n 2, 1) := by decide +kernel
theorem dX8_capture_2 : decode cX8_capture 2 = .ok (.iload_n 2, 1) := by decide +kernel
theorem dX8_capture_3 : decode cX8_capture 3 = .ok (.bipush 24, 2) := by decide +kernel
theorem dX8_capture_5 : decode cX8_capture 5 = .ok (.if_icmp .ge 26, 3) := by decide +kernel
theorem dX8_capture_8 : decode cX8_capture 8 = .ok (.aload_n 0, 1) := by decide +kernel
theorem dX8_capture_9 : decode cX8_capture 9 = .ok (.iload_n 1, 1) := by decide +kernel
theorem dX8_capture_10 : decode cX8_capture 10 = .ok (.aload_n 0, 1) := by decide +kernel
theorem dX8_capture_11 : decode cX8_capture 11 = .ok (.getfield 97, 3) := by decide +kernel
theorem dX8_capture_14 : decode cX8_capture 14 = .ok (.iload_n 2, 1) := by decide +kernel
theorem dX8_capture_15 : decode cX8_capture 15 = .ok (.iaload, 1) := by decide +kernel
theorem dX8_capture_16 : decode cX8_capture 16 = .ok (.aload_n 0, 1) := by decide +kernel
theorem dX8_capture_17 : decode cX8_capture 17 = .ok (.getfield 100, 3) := by decide +kernel
theorem dX8_capture_20 : decode cX8_capture 20 = .ok (.iload_n 2, 1) := by decide +kernel
theorem dX8_capture_21 : decode cX8_capture 21 = .ok (.iaload, 1) := by decide +kernel
theorem dX8_capture_22 : decode cX8_capture 22 = .ok (.invokevirtual 181, 3) := by decide +kernel
theorem dX8_capture_25 : decode cX8_capture 25 = .ok (.iinc 2 1, 3) := by decide +kernel
theorem dX8_capture_28 : decode cX8_capture 28 = .ok (.goto (-26), 3) := by decide +kernel
theorem dX8_capture_31 : decode cX8_capture 31 = .ok (.aload_n 0, 1) := by decide +kernel
theorem dX8_capture_32 : decode cX8_capture 32 = .ok (.getfield 70, 3) := by decide +kernel
theorem dX8_capture_35 : decode cX8_capture 35 = .ok (.iload_n 1, 1) := by decide +kernel
theorem dX8_capture_36 : decode cX8_capture 36 = .ok (.iaload, 1) := by decide +kernel
theorem dX8_capture_37 : decode cX8_capture 37 = .ok (.istore_n 2, 1) := by decide +kernel
theorem dX8_capture_38 : decode cX8_capture 38 = .ok (.aload_n 0, 1) := by decide +kernel
theorem dX8_capture_39 : decode cX8_capture 39 = .ok (.iload_n 1, 1) := by decide +kernel
theorem dX8_capture_40 : decode cX8_capture 40 = .ok (.aload_n 0, 1) := by decide +kernel
theorem dX8_capture_41 : decode cX8_capture 41 = .ok (.getfield 70, 3) := by decide +kernel
theorem dX8_capture_44 : decode cX8_capture 44 = .ok (.iload_n 1, 1) := by decide +kernel
theorem dX8_capture_45 : decode cX8_capture 45 = .ok (.iaload, 1) := by decide +kernel
theorem dX8_capture_46 : decode cX8_capture 46 = .ok (.ldc 139, 2) := by decide +kernel
theorem dX8_capture_48 : decode cX8_capture 48 = .ok (.aload_n 0, 1) := by decide +kernel
theorem dX8_capture_49 : decode cX8_capture 49 = .ok (.getfield 20, 3) := by decide +kernel
theorem dX8_capture_52 : decode cX8_capture 52 = .ok (.iload_n 1, 1) := by decide +kernel
theorem dX8_capture_53 : decode cX8_capture 53 = .ok (.iaload, 1) := by decide +kernel
theorem dX8_capture_54 : decode cX8_capture 54 = .ok (.invokevirtual 195, 3) := by decide +kernel
theorem dX8_capture_57 : decode cX8_capture 57 = .ok (.ifCond .eq 16, 3) := by decide +kernel
theorem dX8_capture_60 : decode cX8_capture 60 = .ok (.aload_n 0, 1) := by decide +kernel
theorem dX8_capture_61 : decode cX8_capture 61 = .ok (.getfield 70, 3) := by decide +kernel
theorem dX8_capture_64 : decode cX8_capture 64 = .ok (.iload_n 1, 1) := by decide +kernel
theorem dX8_capture_65 : decode cX8_capture 65 = .ok (.dup2, 1) := by decide +kernel
theorem dX8_capture_66 : decode cX8_capture 66 = .ok (.iaload, 1) := by decide +kernel
theorem dX8_capture_67 : decode cX8_capture 67 = .ok (.iconst 1, 1) := by decide +kernel
theorem dX8_capture_68 : decode cX8_capture 68 = .ok (.iadd, 1) := by decide +kernel
theorem dX8_capture_69 : decode cX8_capture 69 = .ok (.iastore, 1) := by decide +kernel
theorem dX8_capture_70 : decode cX8_capture 70 = .ok (.goto (-32), 3) := by decide +kernel
theorem dX8_capture_73 : decode cX8_capture 73 = .ok (.aload_n 0, 1) := by decide +kernel
theorem dX8_capture_74 : decode cX8_capture 74 = .ok (.getfield 70, 3) := by decide +kernel
theorem dX8_capture_77 : decode cX8_capture 77 = .ok (.iload_n 1, 1) := by decide +kernel
theorem dX8_capture_78 : decode cX8_capture 78 = .ok (.iaload, 1) := by decide +kernel
theorem dX8_capture_79 : decode cX8_capture 79 = .ok (.iload_n 2, 1) := by decide +kernel
theorem dX8_capture_80 : decode cX8_capture 80 = .ok (.isub, 1) := by decide +kernel
theorem dX8_capture_81 : decode cX8_capture 81 = .ok (.istore_n 3, 1) := by decide +kernel
theorem dX8_capture_82 : decode cX8_capture 82 = .ok (.aload_n 0, 1) := by decide +kernel
theorem dX8_capture_83 : decode cX8_capture 83 = .ok (.getfield 73, 3) := by decide +kernel
theorem dX8_capture_86 : decode cX8_capture 86 = .ok (.iload_n 1, 1) := by decide +kernel
theorem dX8_capture_87 : decode cX8_capture 87 = .ok (.iaload, 1) := by decide +kernel
theorem dX8_capture_88 : decode cX8_capture 88 = .ok (.iload_n 3, 1) := by decide +kernel
theorem dX8_capture_89 : decode cX8_capture 89 = .ok (.iadd, 1) := by decide +kernel
theorem dX8_capture_90 : decode cX8_capture 90 = .ok (.sipush 200, 3) := by decide +kernel
theorem dX8_capture_93 : decode cX8_capture 93 = .ok (.if_icmp .le 14, 3) := by decide +kernel
theorem dX8_capture_96 : decode cX8_capture 96 = .ok (.aload_n 0, 1) := by decide +kernel
theorem dX8_capture_97 : decode cX8_capture 97 = .ok (.getfield 35, 3) := by decide +kernel
theorem dX8_capture_100 : decode cX8_capture 100 = .ok (.iload_n 1, 1) := by decide +kernel
theorem dX8_capture_101 : decode cX8_capture 101 = .ok (.dup2, 1) := by decide +kernel
theorem dX8_capture_102 : decode cX8_capture 102 = .ok (.iaload, 1) := by decide +kernel
theorem dX8_capture_103 : decode cX8_capture 103 = .ok (.iconst 1, 1) := by decide +kernel
theorem dX8_capture_104 : decode cX8_capture 104 = .ok (.iadd, 1) := by decide +kernel
theorem dX8_capture_105 : decode cX8_capture 105 = .ok (.iastore, 1) := by decide +kernel
theorem dX8_capture_106 : decode cX8_capture 106 = .ok (.return_, 1) := by decide +kernel
theorem dX8_capture_107 : decode cX8_capture 107 = .ok (.iconst 0, 1) := by decide +kernel
theorem dX8_capture_108 : decode cX8_capture 108 = .ok (.istore 4, 2) := by decide +kernel
theorem dX8_capture_110 : decode cX8_capture 110 = .ok (.iload 4, 2) := by decide +kernel
theorem dX8_capture_112 : decode cX8_capture 112 = .ok (.iload_n 3, 1) := by decide +kernel
theorem dX8_capture_113 : decode cX8_capture 113 = .ok (.if_icmp .ge 40, 3) := by decide +kernel
theorem dX8_capture_116 : decode cX8_capture 116 = .ok (.aload_n 0, 1) := by decide +kernel
theorem dX8_capture_117 : decode cX8_capture 117 = .ok (.getfield 76, 3) := by decide +kernel
theorem dX8_capture_120 : decode cX8_capture 120 = .ok (.sipush 12800, 3) := by decide +kernel
theorem dX8_capture_123 : decode cX8_capture 123 = .ok (.iload_n 1, 1) := by decide +kernel
theorem dX8_capture_124 : decode cX8_capture 124 = .ok (.imul, 1) := by decide +kernel
theorem dX8_capture_125 : decode cX8_capture 125 = .ok (.aload_n 0, 1) := by decide +kernel
theorem dX8_capture_126 : decode cX8_capture 126 = .ok (.getfield 73, 3) := by decide +kernel
theorem dX8_capture_129 : decode cX8_capture 129 = .ok (.iload_n 1, 1) := by decide +kernel
theorem dX8_capture_130 : decode cX8_capture 130 = .ok (.iaload, 1) := by decide +kernel
theorem dX8_capture_131 : decode cX8_capture 131 = .ok (.iadd, 1) := by decide +kernel
theorem dX8_capture_132 : decode cX8_capture 132 = .ok (.iload_n 2, 1) := by decide +kernel
theorem dX8_capture_133 : decode cX8_capture 133 = .ok (.iload 4, 2) := by decide +kernel
theorem dX8_capture_135 : decode cX8_capture 135 = .ok (.iadd, 1) := by decide +kernel
theorem dX8_capture_136 : decode cX8_capture 136 = .ok (.iastore, 1) := by decide +kernel
theorem dX8_capture_137 : decode cX8_capture 137 = .ok (.aload_n 0, 1) := by decide +kernel
theorem dX8_capture_138 : decode cX8_capture 138 = .ok (.getfield 73, 3) := by decide +kernel
theorem dX8_capture_141 : decode cX8_capture 141 = .ok (.iload_n 1, 1) := by decide +kernel
theorem dX8_capture_142 : decode cX8_capture 142 = .ok (.dup2, 1) := by decide +kernel
theorem dX8_capture_143 : decode cX8_capture 143 = .ok (.iaload, 1) := by decide +kernel
theorem dX8_capture_144 : decode cX8_capture 144 = .ok (.iconst 1, 1) := by decide +kernel
theorem dX8_capture_145 : decode cX8_capture 145 = .ok (.iadd, 1) := by decide +kernel
theorem dX8_capture_146 : decode cX8_capture 146 = .ok (.iastore, 1) := by decide +kernel
theorem dX8_capture_147 : decode cX8_capture 147 = .ok (.iinc 4 1, 3) := by decide +kernel
theorem dX8_capture_150 : decode cX8_capture 150 = .ok (.goto (-40), 3) := by decide +kernel
theorem dX8_capture_153 : decode cX8_capture 153 = .ok (.return_, 1) := by decide +kernel
theorem dX8_playOne_0 : decode cX8_playOne 0 = .ok (.bipush 95, 2) := by decide +kernel
theorem dX8_playOne_2 : decode cX8_playOne 2 = .ok (.istore_n 2, 1) := by decide +kernel
theorem dX8_playOne_3 : decode cX8_playOne 3 = .ok (.iload_n 2, 1) := by decide +kernel
theorem dX8_playOne_4 : decode cX8_playOne 4 = .ok (.bipush 24, 2) := by decide +kernel
theorem dX8_playOne_6 : decode cX8_playOne 6 = .ok (.if_icmp .lt 39, 3) := by decide +kernel
theorem dX8_playOne_9 : decode cX8_playOne 9 = .ok (.aload_n 0, 1) := by decide +kernel
theorem dX8_playOne_10 : decode cX8_playOne 10 = .ok (.getfield 91, 3) := by decide +kernel
theorem dX8_playOne_13 : decode cX8_playOne 13 = .ok (.iload_n 2, 1) := by decide +kernel
theorem dX8_playOne_14 : decode cX8_playOne 14 = .ok (.aload_n 0, 1) := by decide +kernel
theorem dX8_playOne_15 : decode cX8_playOne 15 = .ok (.getfield 91, 3) := by decide +kernel
theorem dX8_playOne_18 : decode cX8_playOne 18 = .ok (.iload_n 2, 1) := by decide +kernel
theorem dX8_playOne_19 : decode cX8_playOne 19 = .ok (.bipush 24, 2) := by decide +kernel
theorem dX8_playOne_21 : decode cX8_playOne 21 = .ok (.isub, 1) := by decide +kernel
theorem dX8_playOne_22 : decode cX8_playOne 22 = .ok (.iaload, 1) := by decide +kernel
theorem dX8_playOne_23 : decode cX8_playOne 23 = .ok (.iastore, 1) := by decide +kernel
theorem dX8_playOne_24 : decode cX8_playOne 24 = .ok (.aload_n 0, 1) := by decide +kernel
theorem dX8_playOne_25 : decode cX8_playOne 25 = .ok (.getfield 94, 3) := by decide +kernel
theorem dX8_playOne_28 : decode cX8_playOne 28 = .ok (.iload_n 2, 1) := by decide +kernel
theorem dX8_playOne_29 : decode cX8_playOne 29 = .ok (.aload_n 0, 1) := by decide +kernel
theorem dX8_playOne_30 : decode cX8_playOne 30 = .ok (.getfield 94, 3) := by decide +kernel
theorem dX8_playOne_33 : decode cX8_playOne 33 = .ok (.iload_n 2, 1) := by decide +kernel
theorem dX8_playOne_34 : decode cX8_playOne 34 = .ok (.bipush 24, 2) := by decide +kernel
theorem dX8_playOne_36 : decode cX8_playOne 36 = .ok (.isub, 1) := by decide +kernel
theorem dX8_playOne_37 : decode cX8_playOne 37 = .ok (.iaload, 1) := by decide +kernel
theorem dX8_playOne_38 : decode cX8_playOne 38 = .ok (.iastore, 1) := by decide +kernel
theorem dX8_playOne_39 : decode cX8_playOne 39 = .ok (.iinc 2 (-1), 3) := by decide +kernel
theorem dX8_playOne_42 : decode cX8_playOne 42 = .ok (.goto (-39), 3) := by decide +kernel
theorem dX8_playOne_45 : decode cX8_playOne 45 = .ok (.iconst 0, 1) := by decide +kernel
theorem dX8_playOne_46 : decode cX8_playOne 46 = .ok (.istore_n 2, 1) := by decide +kernel
theorem dX8_playOne_47 : decode cX8_playOne 47 = .ok (.iload_n 2, 1) := by decide +kernel
theorem dX8_playOne_48 : decode cX8_playOne 48 = .ok (.bipush 24, 2) := by decide +kernel
theorem dX8_playOne_50 : decode cX8_playOne 50 = .ok (.if_icmp .ge 49, 3) := by decide +kernel
theorem dX8_playOne_53 : decode cX8_playOne 53 = .ok (.aload_n 0, 1) := by decide +kernel
theorem dX8_playOne_54 : decode cX8_playOne 54 = .ok (.getfield 91, 3) := by decide +kernel
theorem dX8_playOne_57 : decode cX8_playOne 57 = .ok (.iload_n 2, 1) := by decide +kernel
theorem dX8_playOne_58 : decode cX8_playOne 58 = .ok (.iload_n 1, 1) := by decide +kernel
theorem dX8_playOne_59 : decode cX8_playOne 59 = .ok (.ifCond .eq 12, 3) := by decide +kernel
theorem dX8_playOne_62 : decode cX8_playOne 62 = .ok (.aload_n 0, 1) := by decide +kernel
theorem dX8_playOne_63 : decode cX8_playOne 63 = .ok (.getfield 82, 3) := by decide +kernel
theorem dX8_playOne_66 : decode cX8_playOne 66 = .ok (.iload_n 2, 1) := by decide +kernel
theorem dX8_playOne_67 : decode cX8_playOne 67 = .ok (.iaload, 1) := by decide +kernel
theorem dX8_playOne_68 : decode cX8_playOne 68 = .ok (.goto 4, 3) := by decide +kernel
theorem dX8_playOne_71 : decode cX8_playOne 71 = .ok (.iconst 0, 1) := by decide +kernel
theorem dX8_playOne_72 : decode cX8_playOne 72 = .ok (.iastore, 1) := by decide +kernel
theorem dX8_playOne_73 : decode cX8_playOne 73 = .ok (.aload_n 0, 1) := by decide +kernel
theorem dX8_playOne_74 : decode cX8_playOne 74 = .ok (.getfield 94, 3) := by decide +kernel
theorem dX8_playOne_77 : decode cX8_playOne 77 = .ok (.iload_n 2, 1) := by decide +kernel
theorem dX8_playOne_78 : decode cX8_playOne 78 = .ok (.iload_n 1, 1) := by decide +kernel
theorem dX8_playOne_79 : decode cX8_playOne 79 = .ok (.ifCond .eq 12, 3) := by decide +kernel
theorem dX8_playOne_82 : decode cX8_playOne 82 = .ok (.aload_n 0, 1) := by decide +kernel
theorem dX8_playOne_83 : decode cX8_playOne 83 = .ok (.getfield 85, 3) := by decide +kernel
theorem dX8_playOne_86 : decode cX8_playOne 86 = .ok (.iload_n 2, 1) := by decide +kernel
theorem dX8_playOne_87 : decode cX8_playOne 87 = .ok (.iaload, 1) := by decide +kernel
theorem dX8_playOne_88 : decode cX8_playOne 88 = .ok (.goto 4, 3) := by decide +kernel
theorem dX8_playOne_91 : decode cX8_playOne 91 = .ok (.iconst 0, 1) := by decide +kernel
theorem dX8_playOne_92 : decode cX8_playOne 92 = .ok (.iastore, 1) := by decide +kernel
theorem dX8_playOne_93 : decode cX8_playOne 93 = .ok (.iinc 2 1, 3) := by decide +kernel
theorem dX8_playOne_96 : decode cX8_playOne 96 = .ok (.goto (-49), 3) := by decide +kernel
theorem dX8_playOne_99 : decode cX8_playOne 99 = .ok (.iconst 0, 1) := by decide +kernel
theorem dX8_playOne_100 : decode cX8_playOne 100 = .ok (.istore_n 2, 1) := by decide +kernel
theorem dX8_playOne_101 : decode cX8_playOne 101 = .ok (.iload_n 2, 1) := by decide +kernel
theorem dX8_playOne_102 : decode cX8_playOne 102 = .ok (.bipush 6, 2) := by decide +kernel
theorem dX8_playOne_104 : decode cX8_playOne 104 = .ok (.if_icmp .ge 32, 3) := by decide +kernel
theorem dX8_playOne_107 : decode cX8_playOne 107 = .ok (.iload_n 1, 1) := by decide +kernel
theorem dX8_playOne_108 : decode cX8_playOne 108 = .ok (.ifCond .eq 28, 3) := by decide +kernel
theorem dX8_playOne_111 : decode cX8_playOne 111 = .ok (.aload_n 0, 1) := by decide +kernel
theorem dX8_playOne_112 : decode cX8_playOne 112 = .ok (.getfield 63, 3) := by decide +kernel
theorem dX8_playOne_115 : decode cX8_playOne 115 = .ok (.iload_n 2, 1) := by decide +kernel
theorem dX8_playOne_116 : decode cX8_playOne 116 = .ok (.aload_n 0, 1) := by decide +kernel
theorem dX8_playOne_117 : decode cX8_playOne 117 = .ok (.getfield 63, 3) := by decide +kernel
theorem dX8_playOne_120 : decode cX8_playOne 120 = .ok (.iload_n 2, 1) := by decide +kernel
theorem dX8_playOne_121 : decode cX8_playOne 121 = .ok (.iaload, 1) := by decide +kernel
theorem dX8_playOne_122 : decode cX8_playOne 122 = .ok (.aload_n 0, 1) := by decide +kernel
theorem dX8_playOne_123 : decode cX8_playOne 123 = .ok (.getfield 88, 3) := by decide +kernel
theorem dX8_playOne_126 : decode cX8_playOne 126 = .ok (.iload_n 2, 1) := by decide +kernel
theorem dX8_playOne_127 : decode cX8_playOne 127 = .ok (.iaload, 1) := by decide +kernel
theorem dX8_playOne_128 : decode cX8_playOne 128 = .ok (.iadd, 1) := by decide +kernel
theorem dX8_playOne_129 : decode cX8_playOne 129 = .ok (.iastore, 1) := by decide +kernel
theorem dX8_playOne_130 : decode cX8_playOne 130 = .ok (.iinc 2 1, 3) := by decide +kernel
theorem dX8_playOne_133 : decode cX8_playOne 133 = .ok (.goto (-32), 3) := by decide +kernel
theorem dX8_playOne_136 : decode cX8_playOne 136 = .ok (.return_, 1) := by decide +kernel
theorem dX8_shiftReady_0 : decode cX8_shiftReady 0 = .ok (.aload_n 0, 1) := by decide +kernel
theorem dX8_shiftReady_1 : decode cX8_shiftReady 1 = .ok (.dup, 1) := by decide +kernel
theorem dX8_shiftReady_2 : decode cX8_shiftReady 2 = .ok (.getfield 229, 3) := by decide +kernel
theorem dX8_shiftReady_5 : decode cX8_shiftReady 5 = .ok (.iconst 1, 1) := by decide +kernel
theorem dX8_shiftReady_6 : decode cX8_shiftReady 6 = .ok (.isub, 1) := by decide +kernel
theorem dX8_shiftReady_7 : decode cX8_shiftReady 7 = .ok (.putfield 229, 3) := by decide +kernel
theorem dX8_shiftReady_10 : decode cX8_shiftReady 10 = .ok (.iconst 0, 1) := by decide +kernel
theorem dX8_shiftReady_11 : decode cX8_shiftReady 11 = .ok (.istore_n 1, 1) := by decide +kernel
theorem dX8_shiftReady_12 : decode cX8_shiftReady 12 = .ok (.iload_n 1, 1) := by decide +kernel
theorem dX8_shiftReady_13 : decode cX8_shiftReady 13 = .ok (.bipush 72, 2) := by decide +kernel
theorem dX8_shiftReady_15 : decode cX8_shiftReady 15 = .ok (.if_icmp .ge 39, 3) := by decide +kernel
theorem dX8_shiftReady_18 : decode cX8_shiftReady 18 = .ok (.aload_n 0, 1) := by decide +kernel
theorem dX8_shiftReady_19 : decode cX8_shiftReady 19 = .ok (.getfield 82, 3) := by decide +kernel
theorem dX8_shiftReady_22 : decode cX8_shiftReady 22 = .ok (.iload_n 1, 1) := by decide +kernel
theorem dX8_shiftReady_23 : decode cX8_shiftReady 23 = .ok (.aload_n 0, 1) := by decide +kernel
theorem dX8_shiftReady_24 : decode cX8_shiftReady 24 = .ok (.getfield 82, 3) := by decide +kernel
theorem dX8_shiftReady_27 : decode cX8_shiftReady 27 = .ok (.iload_n 1, 1) := by decide +kernel
theorem dX8_shiftReady_28 : decode cX8_shiftReady 28 = .ok (.bipush 24, 2) := by decide +kernel
theorem dX8_shiftReady_30 : decode cX8_shiftReady 30 = .ok (.iadd, 1) := by decide +kernel
theorem dX8_shiftReady_31 : decode cX8_shiftReady 31 = .ok (.iaload, 1) := by decide +kernel
theorem dX8_shiftReady_32 : decode cX8_shiftReady 32 = .ok (.iastore, 1) := by decide +kernel
theorem dX8_shiftReady_33 : decode cX8_shiftReady 33 = .ok (.aload_n 0, 1) := by decide +kernel
theorem dX8_shiftReady_34 : decode cX8_shiftReady 34 = .ok (.getfield 85, 3) := by decide +kernel
theorem dX8_shiftReady_37 : decode cX8_shiftReady 37 = .ok (.iload_n 1, 1) := by decide +kernel
theorem dX8_shiftReady_38 : decode cX8_shiftReady 38 = .ok (.aload_n 0, 1) := by decide +kernel
theorem dX8_shiftReady_39 : decode cX8_shiftReady 39 = .ok (.getfield 85, 3) := by decide +kernel
theorem dX8_shiftReady_42 : decode cX8_shiftReady 42 = .ok (.iload_n 1, 1) := by decide +kernel
theorem dX8_shiftReady_43 : decode cX8_shiftReady 43 = .ok (.bipush 24, 2) := by decide +kernel
theorem dX8_shiftReady_45 : decode cX8_shiftReady 45 = .ok (.iadd, 1) := by decide +kernel
theorem dX8_shiftReady_46 : decode cX8_shiftReady 46 = .ok (.iaload, 1) := by decide +kernel
theorem dX8_shiftReady_47 : decode cX8_shiftReady 47 = .ok (.iastore, 1) := by decide +kernel
theorem dX8_shiftReady_48 : decode cX8_shiftReady 48 = .ok (.iinc 1 1, 3) := by decide +kernel
theorem dX8_shiftReady_51 : decode cX8_shiftReady 51 = .ok (.goto (-39), 3) := by decide +kernel
theorem dX8_shiftReady_54 : decode cX8_shiftReady 54 = .ok (.iconst 0, 1) := by decide +kernel
theorem dX8_shiftReady_55 : decode cX8_shiftReady 55 = .ok (.istore_n 1, 1) := by decide +kernel
theorem dX8_shiftReady_56 : decode cX8_shiftReady 56 = .ok (.iload_n 1, 1) := by decide +kernel
theorem dX8_shiftReady_57 : decode cX8_shiftReady 57 = .ok (.bipush 18, 2) := by decide +kernel
theorem dX8_shiftReady_59 : decode cX8_shiftReady 59 = .ok (.if_icmp .ge 24, 3) := by decide +kernel
theorem dX8_shiftReady_62 : decode cX8_shiftReady 62 = .ok (.aload_n 0, 1) := by decide +kernel
theorem dX8_shiftReady_63 : decode cX8_shiftReady 63 = .ok (.getfield 88, 3) := by decide +kernel
theorem dX8_shiftReady_66 : decode cX8_shiftReady 66 = .ok (.iload_n 1, 1) := by decide +kernel
theorem dX8_shiftReady_67 : decode cX8_shiftReady 67 = .ok (.aload_n 0, 1) := by decide +kernel
theorem dX8_shiftReady_68 : decode cX8_shiftReady 68 = .ok (.getfield 88, 3) := by decide +kernel
theorem dX8_shiftReady_71 : decode cX8_shiftReady 71 = .ok (.iload_n 1, 1) := by decide +kernel
theorem dX8_shiftReady_72 : decode cX8_shiftReady 72 = .ok (.bipush 6, 2) := by decide +kernel
theorem dX8_shiftReady_74 : decode cX8_shiftReady 74 = .ok (.iadd, 1) := by decide +kernel
theorem dX8_shiftReady_75 : decode cX8_shiftReady 75 = .ok (.iaload, 1) := by decide +kernel
theorem dX8_shiftReady_76 : decode cX8_shiftReady 76 = .ok (.iastore, 1) := by decide +kernel
theorem dX8_shiftReady_77 : decode cX8_shiftReady 77 = .ok (.iinc 1 1, 3) := by decide +kernel
theorem dX8_shiftReady_80 : decode cX8_shiftReady 80 = .ok (.goto (-24), 3) := by decide +kernel
theorem dX8_shiftReady_83 : decode cX8_shiftReady 83 = .ok (.return_, 1) := by decide +kernel
theorem dX8_card_0 : decode cX8_card 0 = .ok (.aload_n 0, 1) := by decide +kernel
theorem dX8_card_1 : decode cX8_card 1 = .ok (.iconst 0, 1) := by decide +kernel
theorem dX8_card_2 : decode cX8_card 2 = .ok (.putfield 127, 3) := by decide +kernel
theorem dX8_card_5 : decode cX8_card 5 = .ok (.aload_n 0, 1) := by decide +kernel
theorem dX8_card_6 : decode cX8_card 6 = .ok (.getfield 229, 3) := by decide +kernel
theorem dX8_card_9 : decode cX8_card 9 = .ok (.ifCond .le 7, 3) := by decide +kernel
theorem dX8_card_12 : decode cX8_card 12 = .ok (.iconst 1, 1) := by decide +kernel
theorem dX8_card_13 : decode cX8_card 13 = .ok (.goto 4, 3) := by decide +kernel
theorem dX8_card_16 : decode cX8_card 16 = .ok (.iconst 0, 1) := by decide +kernel
theorem dX8_card_17 : decode cX8_card 17 = .ok (.istore_n 1, 1) := by decide +kernel
theorem dX8_card_18 : decode cX8_card 18 = .ok (.aload_n 0, 1) := by decide +kernel
theorem dX8_card_19 : decode cX8_card 19 = .ok (.iload_n 1, 1) := by decide +kernel
theorem dX8_card_20 : decode cX8_card 20 = .ok (.invokevirtual 245, 3) := by decide +kernel
theorem dX8_card_23 : decode cX8_card 23 = .ok (.iload_n 1, 1) := by decide +kernel
theorem dX8_card_24 : decode cX8_card 24 = .ok (.ifCond .eq 7, 3) := by decide +kernel
theorem dX8_card_27 : decode cX8_card 27 = .ok (.aload_n 0, 1) := by decide +kernel
theorem dX8_card_28 : decode cX8_card 28 = .ok (.invokevirtual 249, 3) := by decide +kernel
theorem dX8_card_31 : decode cX8_card 31 = .ok (.iconst 0, 1) := by decide +kernel
theorem dX8_card_32 : decode cX8_card 32 = .ok (.istore_n 2, 1) := by decide +kernel
theorem dX8_card_33 : decode cX8_card 33 = .ok (.iload_n 2, 1) := by decide +kernel
theorem dX8_card_34 : decode cX8_card 34 = .ok (.bipush 6, 2) := by decide +kernel
theorem dX8_card_36 : decode cX8_card 36 = .ok (.if_icmp .ge 42, 3) := by decide +kernel
theorem dX8_card_39 : decode cX8_card 39 = .ok (.aload_n 0, 1) := by decide +kernel
theorem dX8_card_40 : decode cX8_card 40 = .ok (.getfield 13, 3) := by decide +kernel
theorem dX8_card_43 : decode cX8_card 43 = .ok (.iload_n 2, 1) := by decide +kernel
theorem dX8_card_44 : decode cX8_card 44 = .ok (.baload, 1) := by decide +kernel
theorem dX8_card_45 : decode cX8_card 45 = .ok (.ifCond .eq 27, 3) := by decide +kernel
theorem dX8_card_48 : decode cX8_card 48 = .ok (.aload_n 0, 1) := by decide +kernel
theorem dX8_card_49 : decode cX8_card 49 = .ok (.getfield 17, 3) := by decide +kernel
theorem dX8_card_52 : decode cX8_card 52 = .ok (.iload_n 2, 1) := by decide +kernel
theorem dX8_card_53 : decode cX8_card 53 = .ok (.baload, 1) := by decide +kernel
theorem dX8_card_54 : decode cX8_card 54 = .ok (.ifCond .ne 18, 3) := by decide +kernel
theorem dX8_card_57 : decode cX8_card 57 = .ok (.aload_n 0, 1) := by decide +kernel
theorem dX8_card_58 : decode cX8_card 58 = .ok (.getfield 32, 3) := by decide +kernel
theorem dX8_card_61 : decode cX8_card 61 = .ok (.iload_n 2, 1) := by decide +kernel
theorem dX8_card_62 : decode cX8_card 62 = .ok (.iaload, 1) := by decide +kernel
theorem dX8_card_63 : decode cX8_card 63 = .ok (.iconst 1, 1) := by decide +kernel
theorem dX8_card_64 : decode cX8_card 64 = .ok (.if_icmp .ne 8, 3) := by decide +kernel
theorem dX8_card_67 : decode cX8_card 67 = .ok (.aload_n 0, 1) := by decide +kernel
theorem dX8_card_68 : decode cX8_card 68 = .ok (.iload_n 2, 1) := by decide +kernel
theorem dX8_card_69 : decode cX8_card 69 = .ok (.invokevirtual 252, 3) := by decide +kernel
theorem dX8_card_72 : decode cX8_card 72 = .ok (.iinc 2 1, 3) := by decide +kernel
theorem dX8_card_75 : decode cX8_card 75 = .ok (.goto (-42), 3) := by decide +kernel
theorem dX8_card_78 : decode cX8_card 78 = .ok (.iconst 0, 1) := by decide +kernel
theorem dX8_card_79 : decode cX8_card 79 = .ok (.istore_n 2, 1) := by decide +kernel
theorem dX8_card_80 : decode cX8_card 80 = .ok (.iload_n 2, 1) := by decide +kernel
theorem dX8_card_81 : decode cX8_card 81 = .ok (.bipush 24, 2) := by decide +kernel
theorem dX8_card_83 : decode cX8_card 83 = .ok (.if_icmp .ge 23, 3) := by decide +kernel
theorem dX8_card_86 : decode cX8_card 86 = .ok (.aload_n 0, 1) := by decide +kernel
theorem dX8_card_87 : decode cX8_card 87 = .ok (.getfield 97, 3) := by decide +kernel
theorem dX8_card_90 : decode cX8_card 90 = .ok (.iload_n 2, 1) := by decide +kernel
theorem dX8_card_91 : decode cX8_card 91 = .ok (.iconst 0, 1) := by decide +kernel
theorem dX8_card_92 : decode cX8_card 92 = .ok (.iastore, 1) := by decide +kernel
theorem dX8_card_93 : decode cX8_card 93 = .ok (.aload_n 0, 1) := by decide +kernel
theorem dX8_card_94 : decode cX8_card 94 = .ok (.getfield 100, 3) := by decide +kernel
theorem dX8_card_97 : decode cX8_card 97 = .ok (.iload_n 2, 1) := by decide +kernel
theorem dX8_card_98 : decode cX8_card 98 = .ok (.iconst 0, 1) := by decide +kernel
theorem dX8_card_99 : decode cX8_card 99 = .ok (.iastore, 1) := by decide +kernel
theorem dX8_card_100 : decode cX8_card 100 = .ok (.iinc 2 1, 3) := by decide +kernel
theorem dX8_card_103 : decode cX8_card 103 = .ok (.goto (-23), 3) := by decide +kernel
theorem dX8_card_106 : decode cX8_card 106 = .ok (.iload_n 1, 1) := by decide +kernel
theorem dX8_card_107 : decode cX8_card 107 = .ok (.ireturn, 1) := by decide +kernel
theorem dX8_coming_0 : decode cX8_coming 0 = .ok (.aload_n 0, 1) := by decide +kernel
theorem dX8_coming_1 : decode cX8_coming 1 = .ok (.iload_n 1, 1) := by decide +kernel
theorem dX8_coming_2 : decode cX8_coming 2 = .ok (.iconst 0, 1) := by decide +kernel
theorem dX8_coming_3 : decode cX8_coming 3 = .ok (.bipush 23, 2) := by decide +kernel
theorem dX8_coming_5 : decode cX8_coming 5 = .ok (.invokestatic 130, 3) := by decide +kernel
theorem dX8_coming_8 : decode cX8_coming 8 = .ok (.ifCond .eq 20, 3) := by decide +kernel
theorem dX8_coming_11 : decode cX8_coming 11 = .ok (.iload_n 3, 1) := by decide +kernel
theorem dX8_coming_12 : decode cX8_coming 12 = .ok (.sipush (-32768), 3) := by decide +kernel
theorem dX8_coming_15 : decode cX8_coming 15 = .ok (.sipush 32767, 3) := by decide +kernel
theorem dX8_coming_18 : decode cX8_coming 18 = .ok (.invokestatic 130, 3) := by decide +kernel
theorem dX8_coming_21 : decode cX8_coming 21 = .ok (.ifCond .eq 7, 3) := by decide +kernel
theorem dX8_coming_24 : decode cX8_coming 24 = .ok (.iconst 0, 1) := by decide +kernel
theorem dX8_coming_25 : decode cX8_coming 25 = .ok (.goto 4, 3) := by decide +kernel
theorem dX8_coming_28 : decode cX8_coming 28 = .ok (.iconst 1, 1) := by decide +kernel
theorem dX8_coming_29 : decode cX8_coming 29 = .ok (.invokevirtual 144, 3) := by decide +kernel
theorem dX8_coming_32 : decode cX8_coming 32 = .ok (.ifCond .eq 4, 3) := by decide +kernel
theorem dX8_coming_35 : decode cX8_coming 35 = .ok (.return_, 1) := by decide +kernel
theorem dX8_coming_36 : decode cX8_coming 36 = .ok (.iload_n 2, 1) := by decide +kernel
theorem dX8_coming_37 : decode cX8_coming 37 = .ok (.ifCond .eq 13, 3) := by decide +kernel
theorem dX8_coming_40 : decode cX8_coming 40 = .ok (.aload_n 0, 1) := by decide +kernel
theorem dX8_coming_41 : decode cX8_coming 41 = .ok (.getfield 100, 3) := by decide +kernel
theorem dX8_coming_44 : decode cX8_coming 44 = .ok (.iload_n 1, 1) := by decide +kernel
theorem dX8_coming_45 : decode cX8_coming 45 = .ok (.iload_n 3, 1) := by decide +kernel
theorem dX8_coming_46 : decode cX8_coming 46 = .ok (.iastore, 1) := by decide +kernel
theorem dX8_coming_47 : decode cX8_coming 47 = .ok (.goto 10, 3) := by decide +kernel
theorem dX8_coming_50 : decode cX8_coming 50 = .ok (.aload_n 0, 1) := by decide +kernel
theorem dX8_coming_51 : decode cX8_coming 51 = .ok (.getfield 97, 3) := by decide +kernel
theorem dX8_coming_54 : decode cX8_coming 54 = .ok (.iload_n 1, 1) := by decide +kernel
theorem dX8_coming_55 : decode cX8_coming 55 = .ok (.iload_n 3, 1) := by decide +kernel
theorem dX8_coming_56 : decode cX8_coming 56 = .ok (.iastore, 1) := by decide +kernel
theorem dX8_coming_57 : decode cX8_coming 57 = .ok (.return_, 1) := by decide +kernel
theorem dX8_played_0 : decode cX8_played 0 = .ok (.aload_n 0, 1) := by decide +kernel
theorem dX8_played_1 : decode cX8_played 1 = .ok (.iload_n 1, 1) := by decide +kernel
theorem dX8_played_2 : decode cX8_played 2 = .ok (.iconst 0, 1) := by decide +kernel
theorem dX8_played_3 : decode cX8_played 3 = .ok (.iconst 3, 1) := by decide +kernel
theorem dX8_played_4 : decode cX8_played 4 = .ok (.invokestatic 130, 3) := by decide +kernel
theorem dX8_played_7 : decode cX8_played 7 = .ok (.ifCond .eq 17, 3) := by decide +kernel
theorem dX8_played_10 : decode cX8_played 10 = .ok (.iload_n 2, 1) := by decide +kernel
theorem dX8_played_11 : decode cX8_played 11 = .ok (.iconst 0, 1) := by decide +kernel
theorem dX8_played_12 : decode cX8_played 12 = .ok (.bipush 23, 2) := by decide +kernel
theorem dX8_played_14 : decode cX8_played 14 = .ok (.invokestatic 130, 3) := by decide +kernel
theorem dX8_played_17 : decode cX8_played 17 = .ok (.ifCond .eq 7, 3) := by decide +kernel
theorem dX8_played_20 : decode cX8_played 20 = .ok (.iconst 0, 1) := by decide +kernel
theorem dX8_played_21 : decode cX8_played 21 = .ok (.goto 4, 3) := by decide +kernel
theorem dX8_played_24 : decode cX8_played 24 = .ok (.iconst 1, 1) := by decide +kernel
theorem dX8_played_25 : decode cX8_played 25 = .ok (.invokevirtual 144, 3) := by decide +kernel
theorem dX8_played_28 : decode cX8_played 28 = .ok (.ifCond .eq 5, 3) := by decide +kernel
theorem dX8_played_31 : decode cX8_played 31 = .ok (.iconst 0, 1) := by decide +kernel
theorem dX8_played_32 : decode cX8_played 32 = .ok (.ireturn, 1) := by decide +kernel
theorem dX8_played_33 : decode cX8_played 33 = .ok (.bipush 24, 2) := by decide +kernel
theorem dX8_played_35 : decode cX8_played 35 = .ok (.iload_n 1, 1) := by decide +kernel
theorem dX8_played_36 : decode cX8_played 36 = .ok (.imul, 1) := by decide +kernel
theorem dX8_played_37 : decode cX8_played 37 = .ok (.iload_n 2, 1) := by decide +kernel
theorem dX8_played_38 : decode cX8_played 38 = .ok (.iadd, 1) := by decide +kernel
theorem dX8_played_39 : decode cX8_played 39 = .ok (.istore 4, 2) := by decide +kernel
theorem dX8_played_41 : decode cX8_played 41 = .ok (.iload_n 3, 1) := by decide +kernel
theorem dX8_played_42 : decode cX8_played 42 = .ok (.ifCond .eq 13, 3) := by decide +kernel
theorem dX8_played_45 : decode cX8_played 45 = .ok (.aload_n 0, 1) := by decide +kernel
theorem dX8_played_46 : decode cX8_played 46 = .ok (.getfield 94, 3) := by decide +kernel
theorem dX8_played_49 : decode cX8_played 49 = .ok (.iload 4, 2) := by decide +kernel
theorem dX8_played_51 : decode cX8_played 51 = .ok (.iaload, 1) := by decide +kernel
theorem dX8_played_52 : decode cX8_played 52 = .ok (.goto 10, 3) := by decide +kernel
theorem dX8_played_55 : decode cX8_played 55 = .ok (.aload_n 0, 1) := by decide +kernel
theorem dX8_played_56 : decode cX8_played 56 = .ok (.getfield 91, 3) := by decide +kernel
theorem dX8_played_59 : decode cX8_played 59 = .ok (.iload 4, 2) := by decide +kernel
theorem dX8_played_61 : decode cX8_played 61 = .ok (.iaload, 1) := by decide +kernel
theorem dX8_played_62 : decode cX8_played 62 = .ok (.ireturn, 1) := by decide +kernel
theorem dX8_position_0 : decode cX8_position 0 = .ok (.aload_n 0, 1) := by decide +kernel
theorem dX8_position_1 : decode cX8_position 1 = .ok (.aload_n 0, 1) := by decide +kernel
theorem dX8_position_2 : decode cX8_position 2 = .ok (.iload_n 1, 1) := by decide +kernel
theorem dX8_position_3 : decode cX8_position 3 = .ok (.invokevirtual 147, 3) := by decide +kernel
theorem dX8_position_6 : decode cX8_position 6 = .ok (.ifCond .eq 7, 3) := by decide +kernel
theorem dX8_position_9 : decode cX8_position 9 = .ok (.iconst 0, 1) := by decide +kernel
theorem dX8_position_10 : decode cX8_position 10 = .ok (.goto 4, 3) := by decide +kernel
theorem dX8_position_13 : decode cX8_position 13 = .ok (.iconst 1, 1) := by decide +kernel
theorem dX8_position_14 : decode cX8_position 14 = .ok (.invokevirtual 144, 3) := by decide +kernel
theorem dX8_position_17 : decode cX8_position 17 = .ok (.ifCond .eq 5, 3) := by decide +kernel
theorem dX8_position_20 : decode cX8_position 20 = .ok (.iconst 0, 1) := by decide +kernel
theorem dX8_position_21 : decode cX8_position 21 = .ok (.ireturn, 1) := by decide +kernel
theorem dX8_position_22 : decode cX8_position 22 = .ok (.aload_n 0, 1) := by decide +kernel
theorem dX8_position_23 : decode cX8_position 23 = .ok (.getfield 17, 3) := by decide +kernel
theorem dX8_position_26 : decode cX8_position 26 = .ok (.iload_n 1, 1) := by decide +kernel
theorem dX8_position_27 : decode cX8_position 27 = .ok (.baload, 1) := by decide +kernel
theorem dX8_position_28 : decode cX8_position 28 = .ok (.ifCond .eq 23, 3) := by decide +kernel
theorem dX8_position_31 : decode cX8_position 31 = .ok (.aload_n 0, 1) := by decide +kernel
theorem dX8_position_32 : decode cX8_position 32 = .ok (.getfield 63, 3) := by decide +kernel
theorem dX8_position_35 : decode cX8_position 35 = .ok (.iload_n 1, 1) := by decide +kernel
theorem dX8_position_36 : decode cX8_position 36 = .ok (.iaload, 1) := by decide +kernel
theorem dX8_position_37 : decode cX8_position 37 = .ok (.aload_n 0, 1) := by decide +kernel
theorem dX8_position_38 : decode cX8_position 38 = .ok (.getfield 20, 3) := by decide +kernel
theorem dX8_position_41 : decode cX8_position 41 = .ok (.iload_n 1, 1) := by decide +kernel
theorem dX8_position_42 : decode cX8_position 42 = .ok (.iaload, 1) := by decide +kernel
theorem dX8_position_43 : decode cX8_position 43 = .ok (.ldc 139, 2) := by decide +kernel
theorem dX8_position_45 : decode cX8_position 45 = .ok (.invokestatic 154, 3) := by decide +kernel
theorem dX8_position_48 : decode cX8_position 48 = .ok (.goto 9, 3) := by decide +kernel
theorem dX8_position_51 : decode cX8_position 51 = .ok (.aload_n 0, 1) := by decide +kernel
theorem dX8_position_52 : decode cX8_position 52 = .ok (.getfield 79, 3) := by decide +kernel
theorem dX8_position_55 : decode cX8_position 55 = .ok (.iload_n 1, 1) := by decide +kernel
theorem dX8_position_56 : decode cX8_position 56 = .ok (.iaload, 1) := by decide +kernel
theorem dX8_position_57 : decode cX8_position 57 = .ok (.ireturn, 1) := by decide +kernel
theorem dX8_late_0 : decode cX8_late 0 = .ok (.aload_n 0, 1) := by decide +kernel
theorem dX8_late_1 : decode cX8_late 1 = .ok (.aload_n 0, 1) := by decide +kernel
theorem dX8_late_2 : decode cX8_late 2 = .ok (.iload_n 1, 1) := by decide +kernel
theorem dX8_late_3 : decode cX8_late 3 = .ok (.invokevirtual 147, 3) := by decide +kernel
theorem dX8_late_6 : decode cX8_late 6 = .ok (.ifCond .eq 7, 3) := by decide +kernel
theorem dX8_late_9 : decode cX8_late 9 = .ok (.iconst 0, 1) := by decide +kernel
theorem dX8_late_10 : decode cX8_late 10 = .ok (.goto 4, 3) := by decide +kernel
theorem dX8_late_13 : decode cX8_late 13 = .ok (.iconst 1, 1) := by decide +kernel
theorem dX8_late_14 : decode cX8_late 14 = .ok (.invokevirtual 144, 3) := by decide +kernel
theorem dX8_late_17 : decode cX8_late 17 = .ok (.ifCond .eq 7, 3) := by decide +kernel
theorem dX8_late_20 : decode cX8_late 20 = .ok (.iconst 0, 1) := by decide +kernel
theorem dX8_late_21 : decode cX8_late 21 = .ok (.goto 9, 3) := by decide +kernel
theorem dX8_late_24 : decode cX8_late 24 = .ok (.aload_n 0, 1) := by decide +kernel
theorem dX8_late_25 : decode cX8_late 25 = .ok (.getfield 35, 3) := by decide +kernel
theorem dX8_late_28 : decode cX8_late 28 = .ok (.iload_n 1, 1) := by decide +kernel
theorem dX8_late_29 : decode cX8_late 29 = .ok (.iaload, 1) := by decide +kernel
theorem dX8_late_30 : decode cX8_late 30 = .ok (.ireturn, 1) := by decide +kernel
theorem dX8_level_0 : decode cX8_level 0 = .ok (.aload_n 0, 1) := by decide +kernel
theorem dX8_level_1 : decode cX8_level 1 = .ok (.aload_n 0, 1) := by decide +kernel
theorem dX8_level_2 : decode cX8_level 2 = .ok (.iload_n 1, 1) := by decide +kernel
theorem dX8_level_3 : decode cX8_level 3 = .ok (.invokevirtual 147, 3) := by decide +kernel
theorem dX8_level_6 : decode cX8_level 6 = .ok (.ifCond .eq 16, 3) := by decide +kernel
theorem dX8_level_9 : decode cX8_level 9 = .ok (.aload_n 0, 1) := by decide +kernel
theorem dX8_level_10 : decode cX8_level 10 = .ok (.getfield 17, 3) := by decide +kernel
theorem dX8_level_13 : decode cX8_level 13 = .ok (.iload_n 1, 1) := by decide +kernel
theorem dX8_level_14 : decode cX8_level 14 = .ok (.baload, 1) := by decide +kernel
theorem dX8_level_15 : decode cX8_level 15 = .ok (.ifCond .eq 7, 3) := by decide +kernel
theorem dX8_level_18 : decode cX8_level 18 = .ok (.iconst 0, 1) := by decide +kernel
theorem dX8_level_19 : decode cX8_level 19 = .ok (.goto 4, 3) := by decide +kernel
theorem dX8_level_22 : decode cX8_level 22 = .ok (.iconst 1, 1) := by decide +kernel
theorem dX8_level_23 : decode cX8_level 23 = .ok (.invokevirtual 144, 3) := by decide +kernel
theorem dX8_level_26 : decode cX8_level 26 = .ok (.ifCond .eq 7, 3) := by decide +kernel
theorem dX8_level_29 : decode cX8_level 29 = .ok (.dconst 0, 1) := by decide +kernel
theorem dX8_level_30 : decode cX8_level 30 = .ok (.goto 9, 3) := by decide +kernel
theorem dX8_level_33 : decode cX8_level 33 = .ok (.aload_n 0, 1) := by decide +kernel
theorem dX8_level_34 : decode cX8_level 34 = .ok (.getfield 66, 3) := by decide +kernel
theorem dX8_level_37 : decode cX8_level 37 = .ok (.iload_n 1, 1) := by decide +kernel
theorem dX8_level_38 : decode cX8_level 38 = .ok (.daload, 1) := by decide +kernel
theorem dX8_level_39 : decode cX8_level 39 = .ok (.dreturn, 1) := by decide +kernel
theorem dX8_clipped_0 : decode cX8_clipped 0 = .ok (.aload_n 0, 1) := by decide +kernel
theorem dX8_clipped_1 : decode cX8_clipped 1 = .ok (.iconst 0, 1) := by decide +kernel
theorem dX8_clipped_2 : decode cX8_clipped 2 = .ok (.putfield 127, 3) := by decide +kernel
theorem dX8_clipped_5 : decode cX8_clipped 5 = .ok (.aload_n 0, 1) := by decide +kernel
theorem dX8_clipped_6 : decode cX8_clipped 6 = .ok (.getfield 215, 3) := by decide +kernel
theorem dX8_clipped_9 : decode cX8_clipped 9 = .ok (.ireturn, 1) := by decide +kernel
theorem dX8_limit_0 : decode cX8_limit 0 = .ok (.aload_n 0, 1) := by decide +kernel
theorem dX8_limit_1 : decode cX8_limit 1 = .ok (.iconst 0, 1) := by decide +kernel
theorem dX8_limit_2 : decode cX8_limit 2 = .ok (.putfield 127, 3) := by decide +kernel
theorem dX8_limit_5 : decode cX8_limit 5 = .ok (.aload_n 0, 1) := by decide +kernel
theorem dX8_limit_6 : decode cX8_limit 6 = .ok (.getfield 103, 3) := by decide +kernel
theorem dX8_limit_9 : decode cX8_limit 9 = .ok (.istore_n 2, 1) := by decide +kernel
theorem dX8_limit_10 : decode cX8_limit 10 = .ok (.aload_n 0, 1) := by decide +kernel
theorem dX8_limit_11 : decode cX8_limit 11 = .ok (.iload_n 1, 1) := by decide +kernel
theorem dX8_limit_12 : decode cX8_limit 12 = .ok (.putfield 103, 3) := by decide +kernel
theorem dX8_limit_15 : decode cX8_limit 15 = .ok (.iload_n 2, 1) := by decide +kernel
theorem dX8_limit_16 : decode cX8_limit 16 = .ok (.ireturn, 1) := by decide +kernel
theorem dX8_value_0 : decode cX8_value 0 = .ok (.aload_n 0, 1) := by decide +kernel
theorem dX8_value_1 : decode cX8_value 1 = .ok (.iconst 0, 1) := by decide +kernel
theorem dX8_value_2 : decode cX8_value 2 = .ok (.putfield 127, 3) := by decide +kernel
theorem dX8_value_5 : decode cX8_value 5 = .ok (.aload_n 0, 1) := by decide +kernel
theorem dX8_value_6 : decode cX8_value 6 = .ok (.getfield 107, 3) := by decide +kernel
theorem dX8_value_9 : decode cX8_value 9 = .ok (.ireturn, 1) := by decide +kernel
theorem dX8_tap_0 : decode cX8_tap 0 = .ok (.aload_n 0, 1) := by decide +kernel
theorem dX8_tap_1 : decode cX8_tap 1 = .ok (.iload_n 1, 1) := by decide +kernel
theorem dX8_tap_2 : decode cX8_tap 2 = .ok (.iconst 0, 1) := by decide +kernel
theorem dX8_tap_3 : decode cX8_tap 3 = .ok (.bipush 31, 2) := by decide +kernel
theorem dX8_tap_5 : decode cX8_tap 5 = .ok (.invokestatic 130, 3) := by decide +kernel
theorem dX8_tap_8 : decode cX8_tap 8 = .ok (.ifCond .eq 17, 3) := by decide +kernel
theorem dX8_tap_11 : decode cX8_tap 11 = .ok (.iload_n 2, 1) := by decide +kernel
theorem dX8_tap_12 : decode cX8_tap 12 = .ok (.iconst 0, 1) := by decide +kernel
theorem dX8_tap_13 : decode cX8_tap 13 = .ok (.bipush 15, 2) := by decide +kernel
theorem dX8_tap_15 : decode cX8_tap 15 = .ok (.invokestatic 130, 3) := by decide +kernel
theorem dX8_tap_18 : decode cX8_tap 18 = .ok (.ifCond .eq 7, 3) := by decide +kernel
theorem dX8_tap_21 : decode cX8_tap 21 = .ok (.iconst 0, 1) := by decide +kernel
theorem dX8_tap_22 : decode cX8_tap 22 = .ok (.goto 4, 3) := by decide +kernel
theorem dX8_tap_25 : decode cX8_tap 25 = .ok (.iconst 1, 1) := by decide +kernel
theorem dX8_tap_26 : decode cX8_tap 26 = .ok (.invokevirtual 144, 3) := by decide +kernel
theorem dX8_tap_29 : decode cX8_tap 29 = .ok (.ifCond .eq 7, 3) := by decide +kernel
theorem dX8_tap_32 : decode cX8_tap 32 = .ok (.iconst 0, 1) := by decide +kernel
theorem dX8_tap_33 : decode cX8_tap 33 = .ok (.goto 14, 3) := by decide +kernel
theorem dX8_tap_36 : decode cX8_tap 36 = .ok (.aload_n 0, 1) := by decide +kernel
theorem dX8_tap_37 : decode cX8_tap 37 = .ok (.getfield 7, 3) := by decide +kernel
theorem dX8_tap_40 : decode cX8_tap 40 = .ok (.bipush 16, 2) := by decide +kernel
theorem dX8_tap_42 : decode cX8_tap 42 = .ok (.iload_n 1, 1) := by decide +kernel
theorem dX8_tap_43 : decode cX8_tap 43 = .ok (.imul, 1) := by decide +kernel
theorem dX8_tap_44 : decode cX8_tap 44 = .ok (.iload_n 2, 1) := by decide +kernel
theorem dX8_tap_45 : decode cX8_tap 45 = .ok (.iadd, 1) := by decide +kernel
theorem dX8_tap_46 : decode cX8_tap 46 = .ok (.iaload, 1) := by decide +kernel
theorem dX8_tap_47 : decode cX8_tap 47 = .ok (.ireturn, 1) := by decide +kernel
theorem dJ9_floorDiv_7cf53_0 : decode cJ9_floorDiv_7cf53 0 = .ok (.iload_n 0, 1) := by decide +kernel
theorem dJ9_floorDiv_7cf53_1 : decode cJ9_floorDiv_7cf53 1 = .ok (.iload_n 1, 1) := by decide +kernel
theorem dJ9_floorDiv_7cf53_2 : decode cJ9_floorDiv_7cf53 2 = .ok (.idiv, 1) := by decide +kernel
theorem dJ9_floorDiv_7cf53_3 : decode cJ9_floorDiv_7cf53 3 = .ok (.istore_n 2, 1) := by decide +kernel
theorem dJ9_floorDiv_7cf53_4 : decode cJ9_floorDiv_7cf53 4 = .ok (.iload_n 0, 1) := by decide +kernel
theorem dJ9_floorDiv_7cf53_5 : decode cJ9_floorDiv_7cf53 5 = .ok (.iload_n 1, 1) := by decide +kernel
theorem dJ9_floorDiv_7cf53_6 : decode cJ9_floorDiv_7cf53 6 = .ok (.ixor, 1) := by decide +kernel
theorem dJ9_floorDiv_7cf53_7 : decode cJ9_floorDiv_7cf53 7 = .ok (.ifCond .ge 14, 3) := by decide +kernel
theorem dJ9_floorDiv_7cf53_10 : decode cJ9_floorDiv_7cf53 10 = .ok (.iload_n 2, 1) := by decide +kernel
theorem dJ9_floorDiv_7cf53_11 : decode cJ9_floorDiv_7cf53 11 = .ok (.iload_n 1, 1) := by decide +kernel
theorem dJ9_floorDiv_7cf53_12 : decode cJ9_floorDiv_7cf53 12 = .ok (.imul, 1) := by decide +kernel
theorem dJ9_floorDiv_7cf53_13 : decode cJ9_floorDiv_7cf53 13 = .ok (.iload_n 0, 1) := by decide +kernel
theorem dJ9_floorDiv_7cf53_14 : decode cJ9_floorDiv_7cf53 14 = .ok (.if_icmp .eq 7, 3) := by decide +kernel
theorem dJ9_floorDiv_7cf53_17 : decode cJ9_floorDiv_7cf53 17 = .ok (.iload_n 2, 1) := by decide +kernel
theorem dJ9_floorDiv_7cf53_18 : decode cJ9_floorDiv_7cf53 18 = .ok (.iconst 1, 1) := by decide +kernel
theorem dJ9_floorDiv_7cf53_19 : decode cJ9_floorDiv_7cf53 19 = .ok (.isub, 1) := by decide +kernel
theorem dJ9_floorDiv_7cf53_20 : decode cJ9_floorDiv_7cf53 20 = .ok (.ireturn, 1) := by decide +kernel
theorem dJ9_floorDiv_7cf53_21 : decode cJ9_floorDiv_7cf53 21 = .ok (.iload_n 2, 1) := by decide +kernel
theorem dJ9_floorDiv_7cf53_22 : decode cJ9_floorDiv_7cf53 22 = .ok (.ireturn, 1) := by decide +kernel
theorem dJ9_floorDiv_f86c9_0 : decode cJ9_floorDiv_f86c9 0 = .ok (.lload_n 0, 1) := by decide +kernel
theorem dJ9_floorDiv_f86c9_1 : decode cJ9_floorDiv_f86c9 1 = .ok (.lload_n 2, 1) := by decide +kernel
theorem dJ9_floorDiv_f86c9_2 : decode cJ9_floorDiv_f86c9 2 = .ok (.ldiv, 1) := by decide +kernel
theorem dJ9_floorDiv_f86c9_3 : decode cJ9_floorDiv_f86c9 3 = .ok (.lstore 4, 2) := by decide +kernel
theorem dJ9_floorDiv_f86c9_5 : decode cJ9_floorDiv_f86c9 5 = .ok (.lload_n 0, 1) := by decide +kernel
theorem dJ9_floorDiv_f86c9_6 : decode cJ9_floorDiv_f86c9 6 = .ok (.lload_n 2, 1) := by decide +kernel
theorem dJ9_floorDiv_f86c9_7 : decode cJ9_floorDiv_f86c9 7 = .ok (.lxor, 1) := by decide +kernel
theorem dJ9_floorDiv_f86c9_8 : decode cJ9_floorDiv_f86c9 8 = .ok (.lconst 0, 1) := by decide +kernel
theorem dJ9_floorDiv_f86c9_9 : decode cJ9_floorDiv_f86c9 9 = .ok (.lcmp, 1) := by decide +kernel
theorem dJ9_floorDiv_f86c9_10 : decode cJ9_floorDiv_f86c9 10 = .ok (.ifCond .ge 17, 3) := by decide +kernel
theorem dJ9_floorDiv_f86c9_13 : decode cJ9_floorDiv_f86c9 13 = .ok (.lload 4, 2) := by decide +kernel
theorem dJ9_floorDiv_f86c9_15 : decode cJ9_floorDiv_f86c9 15 = .ok (.lload_n 2, 1) := by decide +kernel
theorem dJ9_floorDiv_f86c9_16 : decode cJ9_floorDiv_f86c9 16 = .ok (.lmul, 1) := by decide +kernel
theorem dJ9_floorDiv_f86c9_17 : decode cJ9_floorDiv_f86c9 17 = .ok (.lload_n 0, 1) := by decide +kernel
theorem dJ9_floorDiv_f86c9_18 : decode cJ9_floorDiv_f86c9 18 = .ok (.lcmp, 1) := by decide +kernel
theorem dJ9_floorDiv_f86c9_19 : decode cJ9_floorDiv_f86c9 19 = .ok (.ifCond .eq 8, 3) := by decide +kernel
theorem dJ9_floorDiv_f86c9_22 : decode cJ9_floorDiv_f86c9 22 = .ok (.lload 4, 2) := by decide +kernel
theorem dJ9_floorDiv_f86c9_24 : decode cJ9_floorDiv_f86c9 24 = .ok (.lconst 1, 1) := by decide +kernel
theorem dJ9_floorDiv_f86c9_25 : decode cJ9_floorDiv_f86c9 25 = .ok (.lsub, 1) := by decide +kernel
theorem dJ9_floorDiv_f86c9_26 : decode cJ9_floorDiv_f86c9 26 = .ok (.lreturn, 1) := by decide +kernel
theorem dJ9_floorDiv_f86c9_27 : decode cJ9_floorDiv_f86c9 27 = .ok (.lload 4, 2) := by decide +kernel
theorem dJ9_floorDiv_f86c9_29 : decode cJ9_floorDiv_f86c9 29 = .ok (.lreturn, 1) := by decide +kernel
theorem dJ9_floorMod_7cf53_0 : decode cJ9_floorMod_7cf53 0 = .ok (.iload_n 0, 1) := by decide +kernel
theorem dJ9_floorMod_7cf53_1 : decode cJ9_floorMod_7cf53 1 = .ok (.iload_n 1, 1) := by decide +kernel
theorem dJ9_floorMod_7cf53_2 : decode cJ9_floorMod_7cf53 2 = .ok (.irem, 1) := by decide +kernel
theorem dJ9_floorMod_7cf53_3 : decode cJ9_floorMod_7cf53 3 = .ok (.istore_n 2, 1) := by decide +kernel
theorem dJ9_floorMod_7cf53_4 : decode cJ9_floorMod_7cf53 4 = .ok (.iload_n 0, 1) := by decide +kernel
theorem dJ9_floorMod_7cf53_5 : decode cJ9_floorMod_7cf53 5 = .ok (.iload_n 1, 1) := by decide +kernel
theorem dJ9_floorMod_7cf53_6 : decode cJ9_floorMod_7cf53 6 = .ok (.ixor, 1) := by decide +kernel
theorem dJ9_floorMod_7cf53_7 : decode cJ9_floorMod_7cf53 7 = .ok (.ifCond .ge 11, 3) := by decide +kernel
theorem dJ9_floorMod_7cf53_10 : decode cJ9_floorMod_7cf53 10 = .ok (.iload_n 2, 1) := by decide +kernel
theorem dJ9_floorMod_7cf53_11 : decode cJ9_floorMod_7cf53 11 = .ok (.ifCond .eq 7, 3) := by decide +kernel
theorem dJ9_floorMod_7cf53_14 : decode cJ9_floorMod_7cf53 14 = .ok (.iload_n 2, 1) := by decide +kernel
theorem dJ9_floorMod_7cf53_15 : decode cJ9_floorMod_7cf53 15 = .ok (.iload_n 1, 1) := by decide +kernel
theorem dJ9_floorMod_7cf53_16 : decode cJ9_floorMod_7cf53 16 = .ok (.iadd, 1) := by decide +kernel
theorem dJ9_floorMod_7cf53_17 : decode cJ9_floorMod_7cf53 17 = .ok (.ireturn, 1) := by decide +kernel
theorem dJ9_floorMod_7cf53_18 : decode cJ9_floorMod_7cf53 18 = .ok (.iload_n 2, 1) := by decide +kernel
theorem dJ9_floorMod_7cf53_19 : decode cJ9_floorMod_7cf53 19 = .ok (.ireturn, 1) := by decide +kernel
theorem dJ9_abs_0f7a4_0 : decode cJ9_abs_0f7a4 0 = .ok (.iload_n 0, 1) := by decide +kernel
theorem dJ9_abs_0f7a4_1 : decode cJ9_abs_0f7a4 1 = .ok (.ifCond .ge 8, 3) := by decide +kernel
theorem dJ9_abs_0f7a4_4 : decode cJ9_abs_0f7a4 4 = .ok (.iload_n 0, 1) := by decide +kernel
theorem dJ9_abs_0f7a4_5 : decode cJ9_abs_0f7a4 5 = .ok (.ineg, 1) := by decide +kernel
theorem dJ9_abs_0f7a4_6 : decode cJ9_abs_0f7a4 6 = .ok (.goto 4, 3) := by decide +kernel
theorem dJ9_abs_0f7a4_9 : decode cJ9_abs_0f7a4 9 = .ok (.iload_n 0, 1) := by decide +kernel
theorem dJ9_abs_0f7a4_10 : decode cJ9_abs_0f7a4 10 = .ok (.ireturn, 1) := by decide +kernel
theorem dJ9_max_7cf53_0 : decode cJ9_max_7cf53 0 = .ok (.iload_n 0, 1) := by decide +kernel
theorem dJ9_max_7cf53_1 : decode cJ9_max_7cf53 1 = .ok (.iload_n 1, 1) := by decide +kernel
theorem dJ9_max_7cf53_2 : decode cJ9_max_7cf53 2 = .ok (.if_icmp .lt 7, 3) := by decide +kernel
theorem dJ9_max_7cf53_5 : decode cJ9_max_7cf53 5 = .ok (.iload_n 0, 1) := by decide +kernel
theorem dJ9_max_7cf53_6 : decode cJ9_max_7cf53 6 = .ok (.goto 4, 3) := by decide +kernel
theorem dJ9_max_7cf53_9 : decode cJ9_max_7cf53 9 = .ok (.iload_n 1, 1) := by decide +kernel
theorem dJ9_max_7cf53_10 : decode cJ9_max_7cf53 10 = .ok (.ireturn, 1) := by decide +kernel
theorem dJ9_min_7cf53_0 : decode cJ9_min_7cf53 0 = .ok (.iload_n 0, 1) := by decide +kernel
theorem dJ9_min_7cf53_1 : decode cJ9_min_7cf53 1 = .ok (.iload_n 1, 1) := by decide +kernel
theorem dJ9_min_7cf53_2 : decode cJ9_min_7cf53 2 = .ok (.if_icmp .gt 7, 3) := by decide +kernel
theorem dJ9_min_7cf53_5 : decode cJ9_min_7cf53 5 = .ok (.iload_n 0, 1) := by decide +kernel
theorem dJ9_min_7cf53_6 : decode cJ9_min_7cf53 6 = .ok (.goto 4, 3) := by decide +kernel
theorem dJ9_min_7cf53_9 : decode cJ9_min_7cf53 9 = .ok (.iload_n 1, 1) := by decide +kernel
theorem dJ9_min_7cf53_10 : decode cJ9_min_7cf53 10 = .ok (.ireturn, 1) := by decide +kernel
theorem dJ7_fill_53178_0 : decode cJ7_fill_53178 0 = .ok (.iconst 0, 1) := by decide +kernel
theorem dJ7_fill_53178_1 : decode cJ7_fill_53178 1 = .ok (.istore_n 2, 1) := by decide +kernel
theorem dJ7_fill_53178_2 : decode cJ7_fill_53178 2 = .ok (.aload_n 0, 1) := by decide +kernel
theorem dJ7_fill_53178_3 : decode cJ7_fill_53178 3 = .ok (.arraylength, 1) := by decide +kernel
theorem dJ7_fill_53178_4 : decode cJ7_fill_53178 4 = .ok (.istore_n 3, 1) := by decide +kernel
theorem dJ7_fill_53178_5 : decode cJ7_fill_53178 5 = .ok (.iload_n 2, 1) := by decide +kernel
theorem dJ7_fill_53178_6 : decode cJ7_fill_53178 6 = .ok (.iload_n 3, 1) := by decide +kernel
theorem dJ7_fill_53178_7 : decode cJ7_fill_53178 7 = .ok (.if_icmp .ge 13, 3) := by decide +kernel
theorem dJ7_fill_53178_10 : decode cJ7_fill_53178 10 = .ok (.aload_n 0, 1) := by decide +kernel
theorem dJ7_fill_53178_11 : decode cJ7_fill_53178 11 = .ok (.iload_n 2, 1) := by decide +kernel
theorem dJ7_fill_53178_12 : decode cJ7_fill_53178 12 = .ok (.iload_n 1, 1) := by decide +kernel
theorem dJ7_fill_53178_13 : decode cJ7_fill_53178 13 = .ok (.iastore, 1) := by decide +kernel
theorem dJ7_fill_53178_14 : decode cJ7_fill_53178 14 = .ok (.iinc 2 1, 3) := by decide +kernel
theorem dJ7_fill_53178_17 : decode cJ7_fill_53178 17 = .ok (.goto (-12), 3) := by decide +kernel
theorem dJ7_fill_53178_20 : decode cJ7_fill_53178 20 = .ok (.return_, 1) := by decide +kernel
theorem dL_open_0 : decode cL_open 0 = .ok (.aload 5, 2) := by decide +kernel
theorem dL_open_2 : decode cL_open 2 = .ok (.iconst 0, 1) := by decide +kernel
theorem dL_open_3 : decode cL_open 3 = .ok (.aload_n 0, 1) := by decide +kernel
theorem dL_open_4 : decode cL_open 4 = .ok (.iload_n 1, 1) := by decide +kernel
theorem dL_open_5 : decode cL_open 5 = .ok (.iload_n 2, 1) := by decide +kernel
theorem dL_open_6 : decode cL_open 6 = .ok (.iload_n 3, 1) := by decide +kernel
theorem dL_open_7 : decode cL_open 7 = .ok (.iload 4, 2) := by decide +kernel
theorem dL_open_9 : decode cL_open 9 = .ok (.invokevirtual 7, 3) := by decide +kernel
theorem dL_open_12 : decode cL_open 12 = .ok (.i2l, 1) := by decide +kernel
theorem dL_open_13 : decode cL_open 13 = .ok (.lastore, 1) := by decide +kernel
theorem dL_open_14 : decode cL_open 14 = .ok (.goto 11, 3) := by decide +kernel
theorem dL_open_17 : decode cL_open 17 = .ok (.astore 6, 2) := by decide +kernel
theorem dL_open_19 : decode cL_open 19 = .ok (.iconst 1, 1) := by decide +kernel
theorem dL_open_20 : decode cL_open 20 = .ok (.ireturn, 1) := by decide +kernel
theorem dL_open_21 : decode cL_open 21 = .ok (.astore 6, 2) := by decide +kernel
theorem dL_open_23 : decode cL_open 23 = .ok (.iconst 2, 1) := by decide +kernel
theorem dL_open_24 : decode cL_open 24 = .ok (.ireturn, 1) := by decide +kernel
theorem dL_open_25 : decode cL_open 25 = .ok (.iconst 0, 1) := by decide +kernel
theorem dL_open_26 : decode cL_open 26 = .ok (.ireturn, 1) := by decide +kernel
theorem dL_close_0 : decode cL_close 0 = .ok (.aload_n 0, 1) := by decide +kernel
theorem dL_close_1 : decode cL_close 1 = .ok (.iload_n 1, 1) := by decide +kernel
theorem dL_close_2 : decode cL_close 2 = .ok (.invokevirtual 17, 3) := by decide +kernel
theorem dL_close_5 : decode cL_close 5 = .ok (.goto 6, 3) := by decide +kernel
theorem dL_close_8 : decode cL_close 8 = .ok (.astore_n 2, 1) := by decide +kernel
theorem dL_close_9 : decode cL_close 9 = .ok (.iconst 1, 1) := by decide +kernel
theorem dL_close_10 : decode cL_close 10 = .ok (.ireturn, 1) := by decide +kernel
theorem dL_close_11 : decode cL_close 11 = .ok (.iconst 0, 1) := by decide +kernel
theorem dL_close_12 : decode cL_close 12 = .ok (.ireturn, 1) := by decide +kernel
theorem dL_gain_0 : decode cL_gain 0 = .ok (.aload_n 0, 1) := by decide +kernel
theorem dL_gain_1 : decode cL_gain 1 = .ok (.iload_n 1, 1) := by decide +kernel
theorem dL_gain_2 : decode cL_gain 2 = .ok (.dload_n 2, 1) := by decide +kernel
theorem dL_gain_3 : decode cL_gain 3 = .ok (.invokevirtual 21, 3) := by decide +kernel
theorem dL_gain_6 : decode cL_gain 6 = .ok (.goto 7, 3) := by decide +kernel
theorem dL_gain_9 : decode cL_gain 9 = .ok (.astore 4, 2) := by decide +kernel
theorem dL_gain_11 : decode cL_gain 11 = .ok (.iconst 1, 1) := by decide +kernel
theorem dL_gain_12 : decode cL_gain 12 = .ok (.ireturn, 1) := by decide +kernel
theorem dL_gain_13 : decode cL_gain 13 = .ok (.iconst 0, 1) := by decide +kernel
theorem dL_gain_14 : decode cL_gain 14 = .ok (.ireturn, 1) := by decide +kernel
theorem dL_start_0 : decode cL_start 0 = .ok (.aload_n 0, 1) := by decide +kernel
theorem dL_start_1 : decode cL_start 1 = .ok (.iload_n 1, 1) := by decide +kernel
theorem dL_start_2 : decode cL_start 2 = .ok (.invokevirtual 25, 3) := by decide +kernel
theorem dL_start_5 : decode cL_start 5 = .ok (.goto 9, 3) := by decide +kernel
theorem dL_start_8 : decode cL_start 8 = .ok (.astore_n 2, 1) := by decide +kernel
theorem dL_start_9 : decode cL_start 9 = .ok (.iconst 1, 1) := by decide +kernel
theorem dL_start_10 : decode cL_start 10 = .ok (.ireturn, 1) := by decide +kernel
theorem dL_start_11 : decode cL_start 11 = .ok (.astore_n 2, 1) := by decide +kernel
theorem dL_start_12 : decode cL_start 12 = .ok (.iconst 2, 1) := by decide +kernel
theorem dL_start_13 : decode cL_start 13 = .ok (.ireturn, 1) := by decide +kernel
theorem dL_start_14 : decode cL_start 14 = .ok (.iconst 0, 1) := by decide +kernel
theorem dL_start_15 : decode cL_start 15 = .ok (.ireturn, 1) := by decide +kernel
theorem dL_pause_0 : decode cL_pause 0 = .ok (.aload_n 0, 1) := by decide +kernel
theorem dL_pause_1 : decode cL_pause 1 = .ok (.iload_n 1, 1) := by decide +kernel
theorem dL_pause_2 : decode cL_pause 2 = .ok (.invokevirtual 28, 3) := by decide +kernel
theorem dL_pause_5 : decode cL_pause 5 = .ok (.goto 9, 3) := by decide +kernel
theorem dL_pause_8 : decode cL_pause 8 = .ok (.astore_n 2, 1) := by decide +kernel
theorem dL_pause_9 : decode cL_pause 9 = .ok (.iconst 1, 1) := by decide +kernel
theorem dL_pause_10 : decode cL_pause 10 = .ok (.ireturn, 1) := by decide +kernel
theorem dL_pause_11 : decode cL_pause 11 = .ok (.astore_n 2, 1) := by decide +kernel
theorem dL_pause_12 : decode cL_pause 12 = .ok (.iconst 2, 1) := by decide +kernel
theorem dL_pause_13 : decode cL_pause 13 = .ok (.ireturn, 1) := by decide +kernel
theorem dL_pause_14 : decode cL_pause 14 = .ok (.iconst 0, 1) := by decide +kernel
theorem dL_pause_15 : decode cL_pause 15 = .ok (.ireturn, 1) := by decide +kernel
theorem dL_drain_0 : decode cL_drain 0 = .ok (.aload_n 0, 1) := by decide +kernel
theorem dL_drain_1 : decode cL_drain 1 = .ok (.iload_n 1, 1) := by decide +kernel
theorem dL_drain_2 : decode cL_drain 2 = .ok (.invokevirtual 31, 3) := by decide +kernel
theorem dL_drain_5 : decode cL_drain 5 = .ok (.goto 9, 3) := by decide +kernel
theorem dL_drain_8 : decode cL_drain 8 = .ok (.astore_n 2, 1) := by decide +kernel
theorem dL_drain_9 : decode cL_drain 9 = .ok (.iconst 1, 1) := by decide +kernel
theorem dL_drain_10 : decode cL_drain 10 = .ok (.ireturn, 1) := by decide +kernel
theorem dL_drain_11 : decode cL_drain 11 = .ok (.astore_n 2, 1) := by decide +kernel
theorem dL_drain_12 : decode cL_drain 12 = .ok (.iconst 2, 1) := by decide +kernel
theorem dL_drain_13 : decode cL_drain 13 = .ok (.ireturn, 1) := by decide +kernel
theorem dL_drain_14 : decode cL_drain 14 = .ok (.iconst 0, 1) := by decide +kernel
theorem dL_drain_15 : decode cL_drain 15 = .ok (.ireturn, 1) := by decide +kernel
theorem dL_state_0 : decode cL_state 0 = .ok (.aload_n 2, 1) := by decide +kernel
theorem dL_state_1 : decode cL_state 1 = .ok (.iconst 0, 1) := by decide +kernel
theorem dL_state_2 : decode cL_state 2 = .ok (.aload_n 0, 1) := by decide +kernel
theorem dL_state_3 : decode cL_state 3 = .ok (.iload_n 1, 1) := by decide +kernel
theorem dL_state_4 : decode cL_state 4 = .ok (.invokevirtual 34, 3) := by decide +kernel
theorem dL_state_7 : decode cL_state 7 = .ok (.i2l, 1) := by decide +kernel
theorem dL_state_8 : decode cL_state 8 = .ok (.lastore, 1) := by decide +kernel
theorem dL_state_9 : decode cL_state 9 = .ok (.goto 6, 3) := by decide +kernel
theorem dL_state_12 : decode cL_state 12 = .ok (.astore_n 3, 1) := by decide +kernel
theorem dL_state_13 : decode cL_state 13 = .ok (.iconst 1, 1) := by decide +kernel
theorem dL_state_14 : decode cL_state 14 = .ok (.ireturn, 1) := by decide +kernel
theorem dL_state_15 : decode cL_state 15 = .ok (.iconst 0, 1) := by decide +kernel
theorem dL_state_16 : decode cL_state 16 = .ok (.ireturn, 1) := by decide +kernel
theorem dL_write_0 : decode cL_write 0 = .ok (.aload_n 3, 1) := by decide +kernel
theorem dL_write_1 : decode cL_write 1 = .ok (.iconst 0, 1) := by decide +kernel
theorem dL_write_2 : decode cL_write 2 = .ok (.aload_n 0, 1) := by decide +kernel
theorem dL_write_3 : decode cL_write 3 = .ok (.iload_n 1, 1) := by decide +kernel
theorem dL_write_4 : decode cL_write 4 = .ok (.iload_n 2, 1) := by decide +kernel
theorem dL_write_5 : decode cL_write 5 = .ok (.invokevirtual 38, 3) := by decide +kernel
theorem dL_write_8 : decode cL_write 8 = .ok (.ifCond .eq 7, 3) := by decide +kernel
theorem dL_write_11 : decode cL_write 11 = .ok (.lconst 1, 1) := by decide +kernel
theorem dL_write_12 : decode cL_write 12 = .ok (.goto 4, 3) := by decide +kernel
theorem dL_write_15 : decode cL_write 15 = .ok (.lconst 0, 1) := by decide +kernel
theorem dL_write_16 : decode cL_write 16 = .ok (.lastore, 1) := by decide +kernel
theorem dL_write_17 : decode cL_write 17 = .ok (.goto 11, 3) := by decide +kernel
theorem dL_write_20 : decode cL_write 20 = .ok (.astore 4, 2) := by decide +kernel
theorem dL_write_22 : decode cL_write 22 = .ok (.iconst 1, 1) := by decide +kernel
theorem dL_write_23 : decode cL_write 23 = .ok (.ireturn, 1) := by decide +kernel
theorem dL_write_24 : decode cL_write 24 = .ok (.astore 4, 2) := by decide +kernel
theorem dL_write_26 : decode cL_write 26 = .ok (.iconst 2, 1) := by decide +kernel
theorem dL_write_27 : decode cL_write 27 = .ok (.ireturn, 1) := by decide +kernel
theorem dL_write_28 : decode cL_write 28 = .ok (.iconst 0, 1) := by decide +kernel
theorem dL_write_29 : decode cL_write 29 = .ok (.ireturn, 1) := by decide +kernel
theorem dL_read_0 : decode cL_read 0 = .ok (.aload_n 2, 1) := by decide +kernel
theorem dL_read_1 : decode cL_read 1 = .ok (.iconst 0, 1) := by decide +kernel
theorem dL_read_2 : decode cL_read 2 = .ok (.aload_n 0, 1) := by decide +kernel
theorem dL_read_3 : decode cL_read 3 = .ok (.iload_n 1, 1) := by decide +kernel
theorem dL_read_4 : decode cL_read 4 = .ok (.invokevirtual 42, 3) := by decide +kernel
theorem dL_read_7 : decode cL_read 7 = .ok (.i2l, 1) := by decide +kernel
theorem dL_read_8 : decode cL_read 8 = .ok (.lastore, 1) := by decide +kernel
theorem dL_read_9 : decode cL_read 9 = .ok (.goto 9, 3) := by decide +kernel
theorem dL_read_12 : decode cL_read 12 = .ok (.astore_n 3, 1) := by decide +kernel
theorem dL_read_13 : decode cL_read 13 = .ok (.iconst 1, 1) := by decide +kernel
theorem dL_read_14 : decode cL_read 14 = .ok (.ireturn, 1) := by decide +kernel
theorem dL_read_15 : decode cL_read 15 = .ok (.astore_n 3, 1) := by decide +kernel
theorem dL_read_16 : decode cL_read 16 = .ok (.iconst 2, 1) := by decide +kernel
theorem dL_read_17 : decode cL_read 17 = .ok (.ireturn, 1) := by decide +kernel
theorem dL_read_18 : decode cL_read 18 = .ok (.iconst 0, 1) := by decide +kernel
theorem dL_read_19 : decode cL_read 19 = .ok (.ireturn, 1) := by decide +kernel
theorem dL_room_0 : decode cL_room 0 = .ok (.aload_n 2, 1) := by decide +kernel
theorem dL_room_1 : decode cL_room 1 = .ok (.iconst 0, 1) := by decide +kernel
theorem dL_room_2 : decode cL_room 2 = .ok (.aload_n 0, 1) := by decide +kernel
theorem dL_room_3 : decode cL_room 3 = .ok (.iload_n 1, 1) := by decide +kernel
theorem dL_room_4 : decode cL_room 4 = .ok (.invokevirtual 45, 3) := by decide +kernel
theorem dL_room_7 : decode cL_room 7 = .ok (.i2l, 1) := by decide +kernel
theorem dL_room_8 : decode cL_room 8 = .ok (.lastore, 1) := by decide +kernel
theorem dL_room_9 : decode cL_room 9 = .ok (.goto 6, 3) := by decide +kernel
theorem dL_room_12 : decode cL_room 12 = .ok (.astore_n 3, 1) := by decide +kernel
theorem dL_room_13 : decode cL_room 13 = .ok (.iconst 1, 1) := by decide +kernel
theorem dL_room_14 : decode cL_room 14 = .ok (.ireturn, 1) := by decide +kernel
theorem dL_room_15 : decode cL_room 15 = .ok (.iconst 0, 1) := by decide +kernel
theorem dL_room_16 : decode cL_room 16 = .ok (.ireturn, 1) := by decide +kernel
theorem dL_ahead_0 : decode cL_ahead 0 = .ok (.aload_n 2, 1) := by decide +kernel
theorem dL_ahead_1 : decode cL_ahead 1 = .ok (.iconst 0, 1) := by decide +kernel
theorem dL_ahead_2 : decode cL_ahead 2 = .ok (.aload_n 0, 1) := by decide +kernel
theorem dL_ahead_3 : decode cL_ahead 3 = .ok (.iload_n 1, 1) := by decide +kernel
theorem dL_ahead_4 : decode cL_ahead 4 = .ok (.invokevirtual 48, 3) := by decide +kernel
theorem dL_ahead_7 : decode cL_ahead 7 = .ok (.i2l, 1) := by decide +kernel
theorem dL_ahead_8 : decode cL_ahead 8 = .ok (.lastore, 1) := by decide +kernel
theorem dL_ahead_9 : decode cL_ahead 9 = .ok (.goto 6, 3) := by decide +kernel
theorem dL_ahead_12 : decode cL_ahead 12 = .ok (.astore_n 3, 1) := by decide +kernel
theorem dL_ahead_13 : decode cL_ahead 13 = .ok (.iconst 1, 1) := by decide +kernel
theorem dL_ahead_14 : decode cL_ahead 14 = .ok (.ireturn, 1) := by decide +kernel
theorem dL_ahead_15 : decode cL_ahead 15 = .ok (.iconst 0, 1) := by decide +kernel
theorem dL_ahead_16 : decode cL_ahead 16 = .ok (.ireturn, 1) := by decide +kernel
theorem dL_coming_0 : decode cL_coming 0 = .ok (.aload_n 0, 1) := by decide +kernel
theorem dL_coming_1 : decode cL_coming 1 = .ok (.iload_n 1, 1) := by decide +kernel
theorem dL_coming_2 : decode cL_coming 2 = .ok (.iload_n 2, 1) := by decide +kernel
theorem dL_coming_3 : decode cL_coming 3 = .ok (.iload_n 3, 1) := by decide +kernel
theorem dL_coming_4 : decode cL_coming 4 = .ok (.invokevirtual 51, 3) := by decide +kernel
theorem dL_coming_7 : decode cL_coming 7 = .ok (.goto 7, 3) := by decide +kernel
theorem dL_coming_10 : decode cL_coming 10 = .ok (.astore 4, 2) := by decide +kernel
theorem dL_coming_12 : decode cL_coming 12 = .ok (.iconst 1, 1) := by decide +kernel
theorem dL_coming_13 : decode cL_coming 13 = .ok (.ireturn, 1) := by decide +kernel
theorem dL_coming_14 : decode cL_coming 14 = .ok (.iconst 0, 1) := by decide +kernel
theorem dL_coming_15 : decode cL_coming 15 = .ok (.ireturn, 1) := by decide +kernel
theorem dL_played_0 : decode cL_played 0 = .ok (.aload 4, 2) := by decide +kernel
theorem dL_played_2 : decode cL_played 2 = .ok (.iconst 0, 1) := by decide +kernel
theorem dL_played_3 : decode cL_played 3 = .ok (.aload_n 0, 1) := by decide +kernel
theorem dL_played_4 : decode cL_played 4 = .ok (.iload_n 1, 1) := by decide +kernel
theorem dL_played_5 : decode cL_played 5 = .ok (.iload_n 2, 1) := by decide +kernel
theorem dL_played_6 : decode cL_played 6 = .ok (.iload_n 3, 1) := by decide +kernel
theorem dL_played_7 : decode cL_played 7 = .ok (.invokevirtual 55, 3) := by decide +kernel
theorem dL_played_10 : decode cL_played 10 = .ok (.i2l, 1) := by decide +kernel
theorem dL_played_11 : decode cL_played 11 = .ok (.lastore, 1) := by decide +kernel
theorem dL_played_12 : decode cL_played 12 = .ok (.goto 7, 3) := by decide +kernel
theorem dL_played_15 : decode cL_played 15 = .ok (.astore 5, 2) := by decide +kernel
theorem dL_played_17 : decode cL_played 17 = .ok (.iconst 1, 1) := by decide +kernel
theorem dL_played_18 : decode cL_played 18 = .ok (.ireturn, 1) := by decide +kernel
theorem dL_played_19 : decode cL_played 19 = .ok (.iconst 0, 1) := by decide +kernel
theorem dL_played_20 : decode cL_played 20 = .ok (.ireturn, 1) := by decide +kernel
theorem dL_position_0 : decode cL_position 0 = .ok (.aload_n 2, 1) := by decide +kernel
theorem dL_position_1 : decode cL_position 1 = .ok (.iconst 0, 1) := by decide +kernel
theorem dL_position_2 : decode cL_position 2 = .ok (.aload_n 0, 1) := by decide +kernel
theorem dL_position_3 : decode cL_position 3 = .ok (.iload_n 1, 1) := by decide +kernel
theorem dL_position_4 : decode cL_position 4 = .ok (.invokevirtual 59, 3) := by decide +kernel
theorem dL_position_7 : decode cL_position 7 = .ok (.i2l, 1) := by decide +kernel
theorem dL_position_8 : decode cL_position 8 = .ok (.lastore, 1) := by decide +kernel
theorem dL_position_9 : decode cL_position 9 = .ok (.goto 6, 3) := by decide +kernel
theorem dL_position_12 : decode cL_position 12 = .ok (.astore_n 3, 1) := by decide +kernel
theorem dL_position_13 : decode cL_position 13 = .ok (.iconst 1, 1) := by decide +kernel
theorem dL_position_14 : decode cL_position 14 = .ok (.ireturn, 1) := by decide +kernel
theorem dL_position_15 : decode cL_position 15 = .ok (.iconst 0, 1) := by decide +kernel
theorem dL_position_16 : decode cL_position 16 = .ok (.ireturn, 1) := by decide +kernel
theorem dL_late_0 : decode cL_late 0 = .ok (.aload_n 2, 1) := by decide +kernel
theorem dL_late_1 : decode cL_late 1 = .ok (.iconst 0, 1) := by decide +kernel
theorem dL_late_2 : decode cL_late 2 = .ok (.aload_n 0, 1) := by decide +kernel
theorem dL_late_3 : decode cL_late 3 = .ok (.iload_n 1, 1) := by decide +kernel
theorem dL_late_4 : decode cL_late 4 = .ok (.invokevirtual 62, 3) := by decide +kernel
theorem dL_late_7 : decode cL_late 7 = .ok (.i2l, 1) := by decide +kernel
theorem dL_late_8 : decode cL_late 8 = .ok (.lastore, 1) := by decide +kernel
theorem dL_late_9 : decode cL_late 9 = .ok (.goto 6, 3) := by decide +kernel
theorem dL_late_12 : decode cL_late 12 = .ok (.astore_n 3, 1) := by decide +kernel
theorem dL_late_13 : decode cL_late 13 = .ok (.iconst 1, 1) := by decide +kernel
theorem dL_late_14 : decode cL_late 14 = .ok (.ireturn, 1) := by decide +kernel
theorem dL_late_15 : decode cL_late 15 = .ok (.iconst 0, 1) := by decide +kernel
theorem dL_late_16 : decode cL_late 16 = .ok (.ireturn, 1) := by decide +kernel
theorem dL_level_0 : decode cL_level 0 = .ok (.aload_n 2, 1) := by decide +kernel
theorem dL_level_1 : decode cL_level 1 = .ok (.iconst 0, 1) := by decide +kernel
theorem dL_level_2 : decode cL_level 2 = .ok (.aload_n 0, 1) := by decide +kernel
theorem dL_level_3 : decode cL_level 3 = .ok (.iload_n 1, 1) := by decide +kernel
theorem dL_level_4 : decode cL_level 4 = .ok (.invokevirtual 65, 3) := by decide +kernel
theorem dL_level_7 : decode cL_level 7 = .ok (.dastore, 1) := by decide +kernel
theorem dL_level_8 : decode cL_level 8 = .ok (.goto 6, 3) := by decide +kernel
theorem dL_level_11 : decode cL_level 11 = .ok (.astore_n 3, 1) := by decide +kernel
theorem dL_level_12 : decode cL_level 12 = .ok (.iconst 1, 1) := by decide +kernel
theorem dL_level_13 : decode cL_level 13 = .ok (.ireturn, 1) := by decide +kernel
theorem dL_level_14 : decode cL_level 14 = .ok (.iconst 0, 1) := by decide +kernel
theorem dL_level_15 : decode cL_level 15 = .ok (.ireturn, 1) := by decide +kernel
theorem dL_tap_0 : decode cL_tap 0 = .ok (.aload_n 3, 1) := by decide +kernel
theorem dL_tap_1 : decode cL_tap 1 = .ok (.iconst 0, 1) := by decide +kernel
theorem dL_tap_2 : decode cL_tap 2 = .ok (.aload_n 0, 1) := by decide +kernel
theorem dL_tap_3 : decode cL_tap 3 = .ok (.iload_n 1, 1) := by decide +kernel
theorem dL_tap_4 : decode cL_tap 4 = .ok (.iload_n 2, 1) := by decide +kernel
theorem dL_tap_5 : decode cL_tap 5 = .ok (.invokevirtual 69, 3) := by decide +kernel
theorem dL_tap_8 : decode cL_tap 8 = .ok (.i2l, 1) := by decide +kernel
theorem dL_tap_9 : decode cL_tap 9 = .ok (.lastore, 1) := by decide +kernel
theorem dL_tap_10 : decode cL_tap 10 = .ok (.goto 7, 3) := by decide +kernel
theorem dL_tap_13 : decode cL_tap 13 = .ok (.astore 4, 2) := by decide +kernel
theorem dL_tap_15 : decode cL_tap 15 = .ok (.iconst 1, 1) := by decide +kernel
theorem dL_tap_16 : decode cL_tap 16 = .ok (.ireturn, 1) := by decide +kernel
theorem dL_tap_17 : decode cL_tap 17 = .ok (.iconst 0, 1) := by decide +kernel
theorem dL_tap_18 : decode cL_tap 18 = .ok (.ireturn, 1) := by decide +kernel
theorem dL_law_0 : decode cL_law 0 = .ok (.new 8, 3) := by decide +kernel
theorem dL_law_3 : decode cL_law 3 = .ok (.dup, 1) := by decide +kernel
theorem dL_law_4 : decode cL_law 4 = .ok (.invokespecial 73, 3) := by decide +kernel
theorem dL_law_7 : decode cL_law 7 = .ok (.astore_n 1, 1) := by decide +kernel
theorem dL_law_8 : decode cL_law 8 = .ok (.new 74, 3) := by decide +kernel
theorem dL_law_11 : decode cL_law 11 = .ok (.dup, 1) := by decide +kernel
theorem dL_law_12 : decode cL_law 12 = .ok (.invokespecial 76, 3) := by decide +kernel
theorem dL_law_15 : decode cL_law 15 = .ok (.astore_n 2, 1) := by decide +kernel
theorem dL_law_16 : decode cL_law 16 = .ok (.iconst 1, 1) := by decide +kernel
theorem dL_law_17 : decode cL_law 17 = .ok (.newarray .long, 2) := by decide +kernel
theorem dL_law_19 : decode cL_law 19 = .ok (.astore_n 3, 1) := by decide +kernel
theorem dL_law_20 : decode cL_law 20 = .ok (.iconst 1, 1) := by decide +kernel
theorem dL_law_21 : decode cL_law 21 = .ok (.newarray .double, 2) := by decide +kernel
theorem dL_law_23 : decode cL_law 23 = .ok (.astore 4, 2) := by decide +kernel
theorem dL_law_25 : decode cL_law 25 = .ok (.iconst 0, 1) := by decide +kernel
theorem dL_law_26 : decode cL_law 26 = .ok (.istore 5, 2) := by decide +kernel
theorem dL_law_28 : decode cL_law 28 = .ok (.iload 5, 2) := by decide +kernel
theorem dL_law_30 : decode cL_law 30 = .ok (.aload_n 0, 1) := by decide +kernel
theorem dL_law_31 : decode cL_law 31 = .ok (.arraylength, 1) := by decide +kernel
theorem dL_law_32 : decode cL_law 32 = .ok (.iconst 5, 1) := by decide +kernel
theorem dL_law_33 : decode cL_law 33 = .ok (.isub, 1) := by decide +kernel
theorem dL_law_34 : decode cL_law 34 = .ok (.if_icmp .gt 1251, 3) := by decide +kernel
theorem dL_law_37 : decode cL_law 37 = .ok (.aload_n 0, 1) := by decide +kernel
theorem dL_law_38 : decode cL_law 38 = .ok (.iload 5, 2) := by decide +kernel
theorem dL_law_40 : decode cL_law 40 = .ok (.iaload, 1) := by decide +kernel
theorem dL_law_41 : decode cL_law 41 = .ok (.bipush 31, 2) := by decide +kernel
theorem dL_law_43 : decode cL_law 43 = .ok (.iand, 1) := by decide +kernel
theorem dL_law_44 : decode cL_law 44 = .ok (.tableswitch 1235 0 21 #[104, 212, 248, 306, 342, 378, 414, 470, 545, 601, 657, 713, 726, 739, 815, 911, 967, 1023, 1100, 1113, 1154, 1167], 104) := by decide +kernel
theorem dL_law_148 : decode cL_law 148 = .ok (.aload_n 1, 1) := by decide +kernel
theorem dL_law_149 : decode cL_law 149 = .ok (.aload_n 0, 1) := by decide +kernel
theorem dL_law_150 : decode cL_law 150 = .ok (.iload 5, 2) := by decide +kernel
theorem dL_law_152 : decode cL_law 152 = .ok (.iconst 1, 1) := by decide +kernel
theorem dL_law_153 : decode cL_law 153 = .ok (.iadd, 1) := by decide +kernel
theorem dL_law_154 : decode cL_law 154 = .ok (.iaload, 1) := by decide +kernel
theorem dL_law_155 : decode cL_law 155 = .ok (.ifCond .eq 7, 3) := by decide +kernel
theorem dL_law_158 : decode cL_law 158 = .ok (.iconst 1, 1) := by decide +kernel
theorem dL_law_159 : decode cL_law 159 = .ok (.goto 4, 3) := by decide +kernel
theorem dL_law_162 : decode cL_law 162 = .ok (.iconst 0, 1) := by decide +kernel
theorem dL_law_163 : decode cL_law 163 = .ok (.aload_n 0, 1) := by decide +kernel
theorem dL_law_164 : decode cL_law 164 = .ok (.iload 5, 2) := by decide +kernel
theorem dL_law_166 : decode cL_law 166 = .ok (.iconst 2, 1) := by decide +kernel
theorem dL_law_167 : decode cL_law 167 = .ok (.iadd, 1) := by decide +kernel
theorem dL_law_168 : decode cL_law 168 = .ok (.iaload, 1) := by decide +kernel
theorem dL_law_169 : decode cL_law 169 = .ok (.aload_n 0, 1) := by decide +kernel
theorem dL_law_170 : decode cL_law 170 = .ok (.iload 5, 2) := by decide +kernel
theorem dL_law_172 : decode cL_law 172 = .ok (.iconst 3, 1) := by decide +kernel
theorem dL_law_173 : decode cL_law 173 = .ok (.iadd, 1) := by decide +kernel
theorem dL_law_174 : decode cL_law 174 = .ok (.iaload, 1) := by decide +kernel
theorem dL_law_175 : decode cL_law 175 = .ok (.aload_n 0, 1) := by decide +kernel
theorem dL_law_176 : decode cL_law 176 = .ok (.iload 5, 2) := by decide +kernel
theorem dL_law_178 : decode cL_law 178 = .ok (.iconst 4, 1) := by decide +kernel
theorem dL_law_179 : decode cL_law 179 = .ok (.iadd, 1) := by decide +kernel
theorem dL_law_180 : decode cL_law 180 = .ok (.iaload, 1) := by decide +kernel
theorem dL_law_181 : decode cL_law 181 = .ok (.aload_n 3, 1) := by decide +kernel
theorem dL_law_182 : decode cL_law 182 = .ok (.invokestatic 77, 3) := by decide +kernel
theorem dL_law_185 : decode cL_law 185 = .ok (.istore 6, 2) := by decide +kernel
theorem dL_law_187 : decode cL_law 187 = .ok (.aload_n 2, 1) := by decide +kernel
theorem dL_law_188 : decode cL_law 188 = .ok (.aload_n 0, 1) := by decide +kernel
theorem dL_law_189 : decode cL_law 189 = .ok (.iload 5, 2) := by decide +kernel
theorem dL_law_191 : decode cL_law 191 = .ok (.iconst 1, 1) := by decide +kernel
theorem dL_law_192 : decode cL_law 192 = .ok (.iadd, 1) := by decide +kernel
theorem dL_law_193 : decode cL_law 193 = .ok (.iaload, 1) := by decide +kernel
theorem dL_law_194 : decode cL_law 194 = .ok (.ifCond .eq 7, 3) := by decide +kernel
theorem dL_law_197 : decode cL_law 197 = .ok (.iconst 1, 1) := by decide +kernel
theorem dL_law_198 : decode cL_law 198 = .ok (.goto 4, 3) := by decide +kernel
theorem dL_law_201 : decode cL_law 201 = .ok (.iconst 0, 1) := by decide +kernel
theorem dL_law_202 : decode cL_law 202 = .ok (.aload_n 0, 1) := by decide +kernel
theorem dL_law_203 : decode cL_law 203 = .ok (.iload 5, 2) := by decide +kernel
theorem dL_law_205 : decode cL_law 205 = .ok (.iconst 2, 1) := by decide +kernel
theorem dL_law_206 : decode cL_law 206 = .ok (.iadd, 1) := by decide +kernel
theorem dL_law_207 : decode cL_law 207 = .ok (.iaload, 1) := by decide +kernel
theorem dL_law_208 : decode cL_law 208 = .ok (.aload_n 0, 1) := by decide +kernel
theorem dL_law_209 : decode cL_law 209 = .ok (.iload 5, 2) := by decide +kernel
theorem dL_law_211 : decode cL_law 211 = .ok (.iconst 3, 1) := by decide +kernel
theorem dL_law_212 : decode cL_law 212 = .ok (.iadd, 1) := by decide +kernel
theorem dL_law_213 : decode cL_law 213 = .ok (.iaload, 1) := by decide +kernel
theorem dL_law_214 : decode cL_law 214 = .ok (.aload_n 0, 1) := by decide +kernel
theorem dL_law_215 : decode cL_law 215 = .ok (.iload 5, 2) := by decide +kernel
theorem dL_law_217 : decode cL_law 217 = .ok (.iconst 4, 1) := by decide +kernel
theorem dL_law_218 : decode cL_law 218 = .ok (.iadd, 1) := by decide +kernel
theorem dL_law_219 : decode cL_law 219 = .ok (.iaload, 1) := by decide +kernel
theorem dL_law_220 : decode cL_law 220 = .ok (.invokevirtual 82, 3) := by decide +kernel
theorem dL_law_223 : decode cL_law 223 = .ok (.istore 7, 2) := by decide +kernel
theorem dL_law_225 : decode cL_law 225 = .ok (.aload_n 2, 1) := by decide +kernel
theorem dL_law_226 : decode cL_law 226 = .ok (.invokevirtual 83, 3) := by decide +kernel
theorem dL_law_229 : decode cL_law 229 = .ok (.iload 6, 2) := by decide +kernel
theorem dL_law_231 : decode cL_law 231 = .ok (.if_icmp .eq 5, 3) := by decide +kernel
theorem dL_law_234 : decode cL_law 234 = .ok (.iconst 0, 1) := by decide +kernel
theorem dL_law_235 : decode cL_law 235 = .ok (.ireturn, 1) := by decide +kernel
theorem dL_law_236 : decode cL_law 236 = .ok (.iload 6, 2) := by decide +kernel
theorem dL_law_238 : decode cL_law 238 = .ok (.ifCond .ne 15, 3) := by decide +kernel
theorem dL_law_241 : decode cL_law 241 = .ok (.aload_n 3, 1) := by decide +kernel
theorem dL_law_242 : decode cL_law 242 = .ok (.iconst 0, 1) := by decide +kernel
theorem dL_law_243 : decode cL_law 243 = .ok (.laload, 1) := by decide +kernel
theorem dL_law_244 : decode cL_law 244 = .ok (.iload 7, 2) := by decide +kernel
theorem dL_law_246 : decode cL_law 246 = .ok (.i2l, 1) := by decide +kernel
theorem dL_law_247 : decode cL_law 247 = .ok (.lcmp, 1) := by decide +kernel
theorem dL_law_248 : decode cL_law 248 = .ok (.ifCond .eq 5, 3) := by decide +kernel
theorem dL_law_251 : decode cL_law 251 = .ok (.iconst 0, 1) := by decide +kernel
theorem dL_law_252 : decode cL_law 252 = .ok (.ireturn, 1) := by decide +kernel
theorem dL_law_253 : decode cL_law 253 = .ok (.goto 1026, 3) := by decide +kernel
theorem dL_law_256 : decode cL_law 256 = .ok (.aload_n 1, 1) := by decide +kernel
theorem dL_law_257 : decode cL_law 257 = .ok (.aload_n 0, 1) := by decide +kernel
theorem dL_law_258 : decode cL_law 258 = .ok (.iload 5, 2) := by decide +kernel
theorem dL_law_260 : decode cL_law 260 = .ok (.iconst 1, 1) := by decide +kernel
theorem dL_law_261 : decode cL_law 261 = .ok (.iadd, 1) := by decide +kernel
theorem dL_law_262 : decode cL_law 262 = .ok (.iaload, 1) := by decide +kernel
theorem dL_law_263 : decode cL_law 263 = .ok (.invokestatic 87, 3) := by decide +kernel
theorem dL_law_266 : decode cL_law 266 = .ok (.istore 6, 2) := by decide +kernel
theorem dL_law_268 : decode cL_law 268 = .ok (.aload_n 2, 1) := by decide +kernel
theorem dL_law_269 : decode cL_law 269 = .ok (.aload_n 0, 1) := by decide +kernel
theorem dL_law_270 : decode cL_law 270 = .ok (.iload 5, 2) := by decide +kernel
theorem dL_law_272 : decode cL_law 272 = .ok (.iconst 1, 1) := by decide +kernel
theorem dL_law_273 : decode cL_law 273 = .ok (.iadd, 1) := by decide +kernel
theorem dL_law_274 : decode cL_law 274 = .ok (.iaload, 1) := by decide +kernel
theorem dL_law_275 : decode cL_law 275 = .ok (.invokevirtual 90, 3) := by decide +kernel
theorem dL_law_278 : decode cL_law 278 = .ok (.aload_n 2, 1) := by decide +kernel
theorem dL_law_279 : decode cL_law 279 = .ok (.invokevirtual 83, 3) := by decide +kernel
theorem dL_law_282 : decode cL_law 282 = .ok (.iload 6, 2) := by decide +kernel
theorem dL_law_284 : decode cL_law 284 = .ok (.if_icmp .eq 5, 3) := by decide +kernel
theorem dL_law_287 : decode cL_law 287 = .ok (.iconst 0, 1) := by decide +kernel
theorem dL_law_288 : decode cL_law 288 = .ok (.ireturn, 1) := by decide +kernel
theorem dL_law_289 : decode cL_law 289 = .ok (.goto 990, 3) := by decide +kernel
theorem dL_law_292 : decode cL_law 292 = .ok (.aload_n 1, 1) := by decide +kernel
theorem dL_law_293 : decode cL_law 293 = .ok (.aload_n 0, 1) := by decide +kernel
theorem dL_law_294 : decode cL_law 294 = .ok (.iload 5, 2) := by decide +kernel
theorem dL_law_296 : decode cL_law 296 = .ok (.iconst 1, 1) := by decide +kernel
theorem dL_law_297 : decode cL_law 297 = .ok (.iadd, 1) := by decide +kernel
theorem dL_law_298 : decode cL_law 298 = .ok (.iaload, 1) := by decide +kernel
theorem dL_law_299 : decode cL_law 299 = .ok (.aload_n 0, 1) := by decide +kernel
theorem dL_law_300 : decode cL_law 300 = .ok (.iload 5, 2) := by decide +kernel
theorem dL_law_302 : decode cL_law 302 = .ok (.iconst 2, 1) := by decide +kernel
theorem dL_law_303 : decode cL_law 303 = .ok (.iadd, 1) := by decide +kernel
theorem dL_law_304 : decode cL_law 304 = .ok (.iaload, 1) := by decide +kernel
theorem dL_law_305 : decode cL_law 305 = .ok (.i2d, 1) := by decide +kernel
theorem dL_law_306 : decode cL_law 306 = .ok (.ldc2_w 91, 3) := by decide +kernel
theorem dL_law_309 : decode cL_law 309 = .ok (.dmul, 1) := by decide +kernel
theorem dL_law_310 : decode cL_law 310 = .ok (.invokestatic 93, 3) := by decide +kernel
theorem dL_law_313 : decode cL_law 313 = .ok (.istore 6, 2) := by decide +kernel
theorem dL_law_315 : decode cL_law 315 = .ok (.aload_n 2, 1) := by decide +kernel
theorem dL_law_316 : decode cL_law 316 = .ok (.aload_n 0, 1) := by decide +kernel
theorem dL_law_317 : decode cL_law 317 = .ok (.iload 5, 2) := by decide +kernel
theorem dL_law_319 : decode cL_law 319 = .ok (.iconst 1, 1) := by decide +kernel
theorem dL_law_320 : decode cL_law 320 = .ok (.iadd, 1) := by decide +kernel
theorem dL_law_321 : decode cL_law 321 = .ok (.iaload, 1) := by decide +kernel
theorem dL_law_322 : decode cL_law 322 = .ok (.aload_n 0, 1) := by decide +kernel
theorem dL_law_323 : decode cL_law 323 = .ok (.iload 5, 2) := by decide +kernel
theorem dL_law_325 : decode cL_law 325 = .ok (.iconst 2, 1) := by decide +kernel
theorem dL_law_326 : decode cL_law 326 = .ok (.iadd, 1) := by decide +kernel
theorem dL_law_327 : decode cL_law 327 = .ok (.iaload, 1) := by decide +kernel
theorem dL_law_328 : decode cL_law 328 = .ok (.i2d, 1) := by decide +kernel
theorem dL_law_329 : decode cL_law 329 = .ok (.ldc2_w 91, 3) := by decide +kernel
theorem dL_law_332 : decode cL_law 332 = .ok (.dmul, 1) := by decide +kernel
theorem dL_law_333 : decode cL_law 333 = .ok (.invokevirtual 96, 3) := by decide +kernel
theorem dL_law_336 : decode cL_law 336 = .ok (.aload_n 2, 1) := by decide +kernel
theorem dL_law_337 : decode cL_law 337 = .ok (.invokevirtual 83, 3) := by decide +kernel
theorem dL_law_340 : decode cL_law 340 = .ok (.iload 6, 2) := by decide +kernel
theorem dL_law_342 : decode cL_law 342 = .ok (.if_icmp .eq 5, 3) := by decide +kernel
theorem dL_law_345 : decode cL_law 345 = .ok (.iconst 0, 1) := by decide +kernel
theorem dL_law_346 : decode cL_law 346 = .ok (.ireturn, 1) := by decide +kernel
theorem dL_law_347 : decode cL_law 347 = .ok (.goto 932, 3) := by decide +kernel
theorem dL_law_350 : decode cL_law 350 = .ok (.aload_n 1, 1) := by decide +kernel
theorem dL_law_351 : decode cL_law 351 = .ok (.aload_n 0, 1) := by decide +kernel
theorem dL_law_352 : decode cL_law 352 = .ok (.iload 5, 2) := by decide +kernel
theorem dL_law_354 : decode cL_law 354 = .ok (.iconst 1, 1) := by decide +kernel
theorem dL_law_355 : decode cL_law 355 = .ok (.iadd, 1) := by decide +kernel
theorem dL_law_356 : decode cL_law 356 = .ok (.iaload, 1) := by decide +kernel
theorem dL_law_357 : decode cL_law 357 = .ok (.invokestatic 97, 3) := by decide +kernel
theorem dL_law_360 : decode cL_law 360 = .ok (.istore 6, 2) := by decide +kernel
theorem dL_law_362 : decode cL_law 362 = .ok (.aload_n 2, 1) := by decide +kernel
theorem dL_law_363 : decode cL_law 363 = .ok (.aload_n 0, 1) := by decide +kernel
theorem dL_law_364 : decode cL_law 364 = .ok (.iload 5, 2) := by decide +kernel
theorem dL_law_366 : decode cL_law 366 = .ok (.iconst 1, 1) := by decide +kernel
theorem dL_law_367 : decode cL_law 367 = .ok (.iadd, 1) := by decide +kernel
theorem dL_law_368 : decode cL_law 368 = .ok (.iaload, 1) := by decide +kernel
theorem dL_law_369 : decode cL_law 369 = .ok (.invokevirtual 99, 3) := by decide +kernel
theorem dL_law_372 : decode cL_law 372 = .ok (.aload_n 2, 1) := by decide +kernel
theorem dL_law_373 : decode cL_law 373 = .ok (.invokevirtual 83, 3) := by decide +kernel
theorem dL_law_376 : decode cL_law 376 = .ok (.iload 6, 2) := by decide +kernel
theorem dL_law_378 : decode cL_law 378 = .ok (.if_icmp .eq 5, 3) := by decide +kernel
theorem dL_law_381 : decode cL_law 381 = .ok (.iconst 0, 1) := by decide +kernel
theorem dL_law_382 : decode cL_law 382 = .ok (.ireturn, 1) := by decide +kernel
theorem dL_law_383 : decode cL_law 383 = .ok (.goto 896, 3) := by decide +kernel
theorem dL_law_386 : decode cL_law 386 = .ok (.aload_n 1, 1) := by decide +kernel
theorem dL_law_387 : decode cL_law 387 = .ok (.aload_n 0, 1) := by decide +kernel
theorem dL_law_388 : decode cL_law 388 = .ok (.iload 5, 2) := by decide +kernel
theorem dL_law_390 : decode cL_law 390 = .ok (.iconst 1, 1) := by decide +kernel
theorem dL_law_391 : decode cL_law 391 = .ok (.iadd, 1) := by decide +kernel
theorem dL_law_392 : decode cL_law 392 = .ok (.iaload, 1) := by decide +kernel
theorem dL_law_393 : decode cL_law 393 = .ok (.invokestatic 100, 3) := by decide +kernel
theorem dL_law_396 : decode cL_law 396 = .ok (.istore 6, 2) := by decide +kernel
theorem dL_law_398 : decode cL_law 398 = .ok (.aload_n 2, 1) := by decide +kernel
theorem dL_law_399 : decode cL_law 399 = .ok (.aload_n 0, 1) := by decide +kernel
theorem dL_law_400 : decode cL_law 400 = .ok (.iload 5, 2) := by decide +kernel
theorem dL_law_402 : decode cL_law 402 = .ok (.iconst 1, 1) := by decide +kernel
theorem dL_law_403 : decode cL_law 403 = .ok (.iadd, 1) := by decide +kernel
theorem dL_law_404 : decode cL_law 404 = .ok (.iaload, 1) := by decide +kernel
theorem dL_law_405 : decode cL_law 405 = .ok (.invokevirtual 102, 3) := by decide +kernel
theorem dL_law_408 : decode cL_law 408 = .ok (.aload_n 2, 1) := by decide +kernel
theorem dL_law_409 : decode cL_law 409 = .ok (.invokevirtual 83, 3) := by decide +kernel
theorem dL_law_412 : decode cL_law 412 = .ok (.iload 6, 2) := by decide +kernel
theorem dL_law_414 : decode cL_law 414 = .ok (.if_icmp .eq 5, 3) := by decide +kernel
theorem dL_law_417 : decode cL_law 417 = .ok (.iconst 0, 1) := by decide +kernel
theorem dL_law_418 : decode cL_law 418 = .ok (.ireturn, 1) := by decide +kernel
theorem dL_law_419 : decode cL_law 419 = .ok (.goto 860, 3) := by decide +kernel
theorem dL_law_422 : decode cL_law 422 = .ok (.aload_n 1, 1) := by decide +kernel
theorem dL_law_423 : decode cL_law 423 = .ok (.aload_n 0, 1) := by decide +kernel
theorem dL_law_424 : decode cL_law 424 = .ok (.iload 5, 2) := by decide +kernel
theorem dL_law_426 : decode cL_law 426 = .ok (.iconst 1, 1) := by decide +kernel
theorem dL_law_427 : decode cL_law 427 = .ok (.iadd, 1) := by decide +kernel
theorem dL_law_428 : decode cL_law 428 = .ok (.iaload, 1) := by decide +kernel
theorem dL_law_429 : decode cL_law 429 = .ok (.invokestatic 103, 3) := by decide +kernel
theorem dL_law_432 : decode cL_law 432 = .ok (.istore 6, 2) := by decide +kernel
theorem dL_law_434 : decode cL_law 434 = .ok (.aload_n 2, 1) := by decide +kernel
theorem dL_law_435 : decode cL_law 435 = .ok (.aload_n 0, 1) := by decide +kernel
theorem dL_law_436 : decode cL_law 436 = .ok (.iload 5, 2) := by decide +kernel
theorem dL_law_438 : decode cL_law 438 = .ok (.iconst 1, 1) := by decide +kernel
theorem dL_law_439 : decode cL_law 439 = .ok (.iadd, 1) := by decide +kernel
theorem dL_law_440 : decode cL_law 440 = .ok (.iaload, 1) := by decide +kernel
theorem dL_law_441 : decode cL_law 441 = .ok (.invokevirtual 105, 3) := by decide +kernel
theorem dL_law_444 : decode cL_law 444 = .ok (.aload_n 2, 1) := by decide +kernel
theorem dL_law_445 : decode cL_law 445 = .ok (.invokevirtual 83, 3) := by decide +kernel
theorem dL_law_448 : decode cL_law 448 = .ok (.iload 6, 2) := by decide +kernel
theorem dL_law_450 : decode cL_law 450 = .ok (.if_icmp .eq 5, 3) := by decide +kernel
theorem dL_law_453 : decode cL_law 453 = .ok (.iconst 0, 1) := by decide +kernel
theorem dL_law_454 : decode cL_law 454 = .ok (.ireturn, 1) := by decide +kernel
theorem dL_law_455 : decode cL_law 455 = .ok (.goto 824, 3) := by decide +kernel
theorem dL_law_458 : decode cL_law 458 = .ok (.aload_n 1, 1) := by decide +kernel
theorem dL_law_459 : decode cL_law 459 = .ok (.aload_n 0, 1) := by decide +kernel
theorem dL_law_460 : decode cL_law 460 = .ok (.iload 5, 2) := by decide +kernel
theorem dL_law_462 : decode cL_law 462 = .ok (.iconst 1, 1) := by decide +kernel
theorem dL_law_463 : decode cL_law 463 = .ok (.iadd, 1) := by decide +kernel
theorem dL_law_464 : decode cL_law 464 = .ok (.iaload, 1) := by decide +kernel
theorem dL_law_465 : decode cL_law 465 = .ok (.aload_n 3, 1) := by decide +kernel
theorem dL_law_466 : decode cL_law 466 = .ok (.invokestatic 106, 3) := by decide +kernel
theorem dL_law_469 : decode cL_law 469 = .ok (.istore 6, 2) := by decide +kernel
theorem dL_law_471 : decode cL_law 471 = .ok (.aload_n 2, 1) := by decide +kernel
theorem dL_law_472 : decode cL_law 472 = .ok (.aload_n 0, 1) := by decide +kernel
theorem dL_law_473 : decode cL_law 473 = .ok (.iload 5, 2) := by decide +kernel
theorem dL_law_475 : decode cL_law 475 = .ok (.iconst 1, 1) := by decide +kernel
theorem dL_law_476 : decode cL_law 476 = .ok (.iadd, 1) := by decide +kernel
theorem dL_law_477 : decode cL_law 477 = .ok (.iaload, 1) := by decide +kernel
theorem dL_law_478 : decode cL_law 478 = .ok (.invokevirtual 109, 3) := by decide +kernel
theorem dL_law_481 : decode cL_law 481 = .ok (.istore 7, 2) := by decide +kernel
theorem dL_law_483 : decode cL_law 483 = .ok (.aload_n 2, 1) := by decide +kernel
theorem dL_law_484 : decode cL_law 484 = .ok (.invokevirtual 83, 3) := by decide +kernel
theorem dL_law_487 : decode cL_law 487 = .ok (.iload 6, 2) := by decide +kernel
theorem dL_law_489 : decode cL_law 489 = .ok (.if_icmp .eq 5, 3) := by decide +kernel
theorem dL_law_492 : decode cL_law 492 = .ok (.iconst 0, 1) := by decide +kernel
theorem dL_law_493 : decode cL_law 493 = .ok (.ireturn, 1) := by decide +kernel
theorem dL_law_494 : decode cL_law 494 = .ok (.iload 6, 2) := by decide +kernel
theorem dL_law_496 : decode cL_law 496 = .ok (.ifCond .ne 15, 3) := by decide +kernel
theorem dL_law_499 : decode cL_law 499 = .ok (.aload_n 3, 1) := by decide +kernel
theorem dL_law_500 : decode cL_law 500 = .ok (.iconst 0, 1) := by decide +kernel
theorem dL_law_501 : decode cL_law 501 = .ok (.laload, 1) := by decide +kernel
theorem dL_law_502 : decode cL_law 502 = .ok (.iload 7, 2) := by decide +kernel
theorem dL_law_504 : decode cL_law 504 = .ok (.i2l, 1) := by decide +kernel
theorem dL_law_505 : decode cL_law 505 = .ok (.lcmp, 1) := by decide +kernel
theorem dL_law_506 : decode cL_law 506 = .ok (.ifCond .eq 5, 3) := by decide +kernel
theorem dL_law_509 : decode cL_law 509 = .ok (.iconst 0, 1) := by decide +kernel
theorem dL_law_510 : decode cL_law 510 = .ok (.ireturn, 1) := by decide +kernel
theorem dL_law_511 : decode cL_law 511 = .ok (.goto 768, 3) := by decide +kernel
theorem dL_law_514 : decode cL_law 514 = .ok (.aload_n 1, 1) := by decide +kernel
theorem dL_law_515 : decode cL_law 515 = .ok (.aload_n 0, 1) := by decide +kernel
theorem dL_law_516 : decode cL_law 516 = .ok (.iload 5, 2) := by decide +kernel
theorem dL_law_518 : decode cL_law 518 = .ok (.iconst 1, 1) := by decide +kernel
theorem dL_law_519 : decode cL_law 519 = .ok (.iadd, 1) := by decide +kernel
theorem dL_law_520 : decode cL_law 520 = .ok (.iaload, 1) := by decide +kernel
theorem dL_law_521 : decode cL_law 521 = .ok (.aload_n 0, 1) := by decide +kernel
theorem dL_law_522 : decode cL_law 522 = .ok (.iload 5, 2) := by decide +kernel
theorem dL_law_524 : decode cL_law 524 = .ok (.iconst 2, 1) := by decide +kernel
theorem dL_law_525 : decode cL_law 525 = .ok (.iadd, 1) := by decide +kernel
theorem dL_law_526 : decode cL_law 526 = .ok (.iaload, 1) := by decide +kernel
theorem dL_law_527 : decode cL_law 527 = .ok (.aload_n 3, 1) := by decide +kernel
theorem dL_law_528 : decode cL_law 528 = .ok (.invokestatic 110, 3) := by decide +kernel
theorem dL_law_531 : decode cL_law 531 = .ok (.istore 6, 2) := by decide +kernel
theorem dL_law_533 : decode cL_law 533 = .ok (.aload_n 2, 1) := by decide +kernel
theorem dL_law_534 : decode cL_law 534 = .ok (.aload_n 0, 1) := by decide +kernel
theorem dL_law_535 : decode cL_law 535 = .ok (.iload 5, 2) := by decide +kernel
theorem dL_law_537 : decode cL_law 537 = .ok (.iconst 1, 1) := by decide +kernel
theorem dL_law_538 : decode cL_law 538 = .ok (.iadd, 1) := by decide +kernel
theorem dL_law_539 : decode cL_law 539 = .ok (.iaload, 1) := by decide +kernel
theorem dL_law_540 : decode cL_law 540 = .ok (.aload_n 0, 1) := by decide +kernel
theorem dL_law_541 : decode cL_law 541 = .ok (.iload 5, 2) := by decide +kernel
theorem dL_law_543 : decode cL_law 543 = .ok (.iconst 2, 1) := by decide +kernel
theorem dL_law_544 : decode cL_law 544 = .ok (.iadd, 1) := by decide +kernel
theorem dL_law_545 : decode cL_law 545 = .ok (.iaload, 1) := by decide +kernel
theorem dL_law_546 : decode cL_law 546 = .ok (.invokevirtual 113, 3) := by decide +kernel
theorem dL_law_549 : decode cL_law 549 = .ok (.istore 7, 2) := by decide +kernel
theorem dL_law_551 : decode cL_law 551 = .ok (.aload_n 2, 1) := by decide +kernel
theorem dL_law_552 : decode cL_law 552 = .ok (.invokevirtual 83, 3) := by decide +kernel
theorem dL_law_555 : decode cL_law 555 = .ok (.iload 6, 2) := by decide +kernel
theorem dL_law_557 : decode cL_law 557 = .ok (.if_icmp .eq 5, 3) := by decide +kernel
theorem dL_law_560 : decode cL_law 560 = .ok (.iconst 0, 1) := by decide +kernel
theorem dL_law_561 : decode cL_law 561 = .ok (.ireturn, 1) := by decide +kernel
theorem dL_law_562 : decode cL_law 562 = .ok (.iload 6, 2) := by decide +kernel
theorem dL_law_564 : decode cL_law 564 = .ok (.ifCond .ne 22, 3) := by decide +kernel
theorem dL_law_567 : decode cL_law 567 = .ok (.aload_n 3, 1) := by decide +kernel
theorem dL_law_568 : decode cL_law 568 = .ok (.iconst 0, 1) := by decide +kernel
theorem dL_law_569 : decode cL_law 569 = .ok (.laload, 1) := by decide +kernel
theorem dL_law_570 : decode cL_law 570 = .ok (.iload 7, 2) := by decide +kernel
theorem dL_law_572 : decode cL_law 572 = .ok (.ifCond .eq 7, 3) := by decide +kernel
theorem dL_law_575 : decode cL_law 575 = .ok (.lconst 1, 1) := by decide +kernel
theorem dL_law_576 : decode cL_law 576 = .ok (.goto 4, 3) := by decide +kernel
theorem dL_law_579 : decode cL_law 579 = .ok (.lconst 0, 1) := by decide +kernel
theorem dL_law_580 : decode cL_law 580 = .ok (.lcmp, 1) := by decide +kernel
theorem dL_law_581 : decode cL_law 581 = .ok (.ifCond .eq 5, 3) := by decide +kernel
theorem dL_law_584 : decode cL_law 584 = .ok (.iconst 0, 1) := by decide +kernel
theorem dL_law_585 : decode cL_law 585 = .ok (.ireturn, 1) := by decide +kernel
theorem dL_law_586 : decode cL_law 586 = .ok (.goto 693, 3) := by decide +kernel
theorem dL_law_589 : decode cL_law 589 = .ok (.aload_n 1, 1) := by decide +kernel
theorem dL_law_590 : decode cL_law 590 = .ok (.aload_n 0, 1) := by decide +kernel
theorem dL_law_591 : decode cL_law 591 = .ok (.iload 5, 2) := by decide +kernel
theorem dL_law_593 : decode cL_law 593 = .ok (.iconst 1, 1) := by decide +kernel
theorem dL_law_594 : decode cL_law 594 = .ok (.iadd, 1) := by decide +kernel
theorem dL_law_595 : decode cL_law 595 = .ok (.iaload, 1) := by decide +kernel
theorem dL_law_596 : decode cL_law 596 = .ok (.aload_n 3, 1) := by decide +kernel
theorem dL_law_597 : decode cL_law 597 = .ok (.invokestatic 114, 3) := by decide +kernel
theorem dL_law_600 : decode cL_law 600 = .ok (.istore 6, 2) := by decide +kernel
theorem dL_law_602 : decode cL_law 602 = .ok (.aload_n 2, 1) := by decide +kernel
theorem dL_law_603 : decode cL_law 603 = .ok (.aload_n 0, 1) := by decide +kernel
theorem dL_law_604 : decode cL_law 604 = .ok (.iload 5, 2) := by decide +kernel
theorem dL_law_606 : decode cL_law 606 = .ok (.iconst 1, 1) := by decide +kernel
theorem dL_law_607 : decode cL_law 607 = .ok (.iadd, 1) := by decide +kernel
theorem dL_law_608 : decode cL_law 608 = .ok (.iaload, 1) := by decide +kernel
theorem dL_law_609 : decode cL_law 609 = .ok (.invokevirtual 116, 3) := by decide +kernel
theorem dL_law_612 : decode cL_law 612 = .ok (.istore 7, 2) := by decide +kernel
theorem dL_law_614 : decode cL_law 614 = .ok (.aload_n 2, 1) := by decide +kernel
theorem dL_law_615 : decode cL_law 615 = .ok (.invokevirtual 83, 3) := by decide +kernel
theorem dL_law_618 : decode cL_law 618 = .ok (.iload 6, 2) := by decide +kernel
theorem dL_law_620 : decode cL_law 620 = .ok (.if_icmp .eq 5, 3) := by decide +kernel
theorem dL_law_623 : decode cL_law 623 = .ok (.iconst 0, 1) := by decide +kernel
theorem dL_law_624 : decode cL_law 624 = .ok (.ireturn, 1) := by decide +kernel
theorem dL_law_625 : decode cL_law 625 = .ok (.iload 6, 2) := by decide +kernel
theorem dL_law_627 : decode cL_law 627 = .ok (.ifCond .ne 15, 3) := by decide +kernel
theorem dL_law_630 : decode cL_law 630 = .ok (.aload_n 3, 1) := by decide +kernel
theorem dL_law_631 : decode cL_law 631 = .ok (.iconst 0, 1) := by decide +kernel
theorem dL_law_632 : decode cL_law 632 = .ok (.laload, 1) := by decide +kernel
theorem dL_law_633 : decode cL_law 633 = .ok (.iload 7, 2) := by decide +kernel
theorem dL_law_635 : decode cL_law 635 = .ok (.i2l, 1) := by decide +kernel
theorem dL_law_636 : decode cL_law 636 = .ok (.lcmp, 1) := by decide +kernel
theorem dL_law_637 : decode cL_law 637 = .ok (.ifCond .eq 5, 3) := by decide +kernel
theorem dL_law_640 : decode cL_law 640 = .ok (.iconst 0, 1) := by decide +kernel
theorem dL_law_641 : decode cL_law 641 = .ok (.ireturn, 1) := by decide +kernel
theorem dL_law_642 : decode cL_law 642 = .ok (.goto 637, 3) := by decide +kernel
theorem dL_law_645 : decode cL_law 645 = .ok (.aload_n 1, 1) := by decide +kernel
theorem dL_law_646 : decode cL_law 646 = .ok (.aload_n 0, 1) := by decide +kernel
theorem dL_law_647 : decode cL_law 647 = .ok (.iload 5, 2) := by decide +kernel
theorem dL_law_649 : decode cL_law 649 = .ok (.iconst 1, 1) := by decide +kernel
theorem dL_law_650 : decode cL_law 650 = .ok (.iadd, 1) := by decide +kernel
theorem dL_law_651 : decode cL_law 651 = .ok (.iaload, 1) := by decide +kernel
theorem dL_law_652 : decode cL_law 652 = .ok (.aload_n 3, 1) := by decide +kernel
theorem dL_law_653 : decode cL_law 653 = .ok (.invokestatic 117, 3) := by decide +kernel
theorem dL_law_656 : decode cL_law 656 = .ok (.istore 6, 2) := by decide +kernel
theorem dL_law_658 : decode cL_law 658 = .ok (.aload_n 2, 1) := by decide +kernel
theorem dL_law_659 : decode cL_law 659 = .ok (.aload_n 0, 1) := by decide +kernel
theorem dL_law_660 : decode cL_law 660 = .ok (.iload 5, 2) := by decide +kernel
theorem dL_law_662 : decode cL_law 662 = .ok (.iconst 1, 1) := by decide +kernel
theorem dL_law_663 : decode cL_law 663 = .ok (.iadd, 1) := by decide +kernel
theorem dL_law_664 : decode cL_law 664 = .ok (.iaload, 1) := by decide +kernel
theorem dL_law_665 : decode cL_law 665 = .ok (.invokevirtual 119, 3) := by decide +kernel
theorem dL_law_668 : decode cL_law 668 = .ok (.istore 7, 2) := by decide +kernel
theorem dL_law_670 : decode cL_law 670 = .ok (.aload_n 2, 1) := by decide +kernel
theorem dL_law_671 : decode cL_law 671 = .ok (.invokevirtual 83, 3) := by decide +kernel
theorem dL_law_674 : decode cL_law 674 = .ok (.iload 6, 2) := by decide +kernel
theorem dL_law_676 : decode cL_law 676 = .ok (.if_icmp .eq 5, 3) := by decide +kernel
theorem dL_law_679 : decode cL_law 679 = .ok (.iconst 0, 1) := by decide +kernel
theorem dL_law_680 : decode cL_law 680 = .ok (.ireturn, 1) := by decide +kernel
theorem dL_law_681 : decode cL_law 681 = .ok (.iload 6, 2) := by decide +kernel
theorem dL_law_683 : decode cL_law 683 = .ok (.ifCond .ne 15, 3) := by decide +kernel
theorem dL_law_686 : decode cL_law 686 = .ok (.aload_n 3, 1) := by decide +kernel
theorem dL_law_687 : decode cL_law 687 = .ok (.iconst 0, 1) := by decide +kernel
theorem dL_law_688 : decode cL_law 688 = .ok (.laload, 1) := by decide +kernel
theorem dL_law_689 : decode cL_law 689 = .ok (.iload 7, 2) := by decide +kernel
theorem dL_law_691 : decode cL_law 691 = .ok (.i2l, 1) := by decide +kernel
theorem dL_law_692 : decode cL_law 692 = .ok (.lcmp, 1) := by decide +kernel
theorem dL_law_693 : decode cL_law 693 = .ok (.ifCond .eq 5, 3) := by decide +kernel
theorem dL_law_696 : decode cL_law 696 = .ok (.iconst 0, 1) := by decide +kernel
theorem dL_law_697 : decode cL_law 697 = .ok (.ireturn, 1) := by decide +kernel
theorem dL_law_698 : decode cL_law 698 = .ok (.goto 581, 3) := by decide +kernel
theorem dL_law_701 : decode cL_law 701 = .ok (.aload_n 1, 1) := by decide +kernel
theorem dL_law_702 : decode cL_law 702 = .ok (.aload_n 0, 1) := by decide +kernel
theorem dL_law_703 : decode cL_law 703 = .ok (.iload 5, 2) := by decide +kernel
theorem dL_law_705 : decode cL_law 705 = .ok (.iconst 1, 1) := by decide +kernel
theorem dL_law_706 : decode cL_law 706 = .ok (.iadd, 1) := by decide +kernel
theorem dL_law_707 : decode cL_law 707 = .ok (.iaload, 1) := by decide +kernel
theorem dL_law_708 : decode cL_law 708 = .ok (.aload_n 3, 1) := by decide +kernel
theorem dL_law_709 : decode cL_law 709 = .ok (.invokestatic 120, 3) := by decide +kernel
theorem dL_law_712 : decode cL_law 712 = .ok (.istore 6, 2) := by decide +kernel
theorem dL_law_714 : decode cL_law 714 = .ok (.aload_n 2, 1) := by decide +kernel
theorem dL_law_715 : decode cL_law 715 = .ok (.aload_n 0, 1) := by decide +kernel
theorem dL_law_716 : decode cL_law 716 = .ok (.iload 5, 2) := by decide +kernel
theorem dL_law_718 : decode cL_law 718 = .ok (.iconst 1, 1) := by decide +kernel
theorem dL_law_719 : decode cL_law 719 = .ok (.iadd, 1) := by decide +kernel
theorem dL_law_720 : decode cL_law 720 = .ok (.iaload, 1) := by decide +kernel
theorem dL_law_721 : decode cL_law 721 = .ok (.invokevirtual 122, 3) := by decide +kernel
theorem dL_law_724 : decode cL_law 724 = .ok (.istore 7, 2) := by decide +kernel
theorem dL_law_726 : decode cL_law 726 = .ok (.aload_n 2, 1) := by decide +kernel
theorem dL_law_727 : decode cL_law 727 = .ok (.invokevirtual 83, 3) := by decide +kernel
theorem dL_law_730 : decode cL_law 730 = .ok (.iload 6, 2) := by decide +kernel
theorem dL_law_732 : decode cL_law 732 = .ok (.if_icmp .eq 5, 3) := by decide +kernel
theorem dL_law_735 : decode cL_law 735 = .ok (.iconst 0, 1) := by decide +kernel
theorem dL_law_736 : decode cL_law 736 = .ok (.ireturn, 1) := by decide +kernel
theorem dL_law_737 : decode cL_law 737 = .ok (.iload 6, 2) := by decide +kernel
theorem dL_law_739 : decode cL_law 739 = .ok (.ifCond .ne 15, 3) := by decide +kernel
theorem dL_law_742 : decode cL_law 742 = .ok (.aload_n 3, 1) := by decide +kernel
theorem dL_law_743 : decode cL_law 743 = .ok (.iconst 0, 1) := by decide +kernel
theorem dL_law_744 : decode cL_law 744 = .ok (.laload, 1) := by decide +kernel
theorem dL_law_745 : decode cL_law 745 = .ok (.iload 7, 2) := by decide +kernel
theorem dL_law_747 : decode cL_law 747 = .ok (.i2l, 1) := by decide +kernel
theorem dL_law_748 : decode cL_law 748 = .ok (.lcmp, 1) := by decide +kernel
theorem dL_law_749 : decode cL_law 749 = .ok (.ifCond .eq 5, 3) := by decide +kernel
theorem dL_law_752 : decode cL_law 752 = .ok (.iconst 0, 1) := by decide +kernel
theorem dL_law_753 : decode cL_law 753 = .ok (.ireturn, 1) := by decide +kernel
theorem dL_law_754 : decode cL_law 754 = .ok (.goto 525, 3) := by decide +kernel
theorem dL_law_757 : decode cL_law 757 = .ok (.aload_n 1, 1) := by decide +kernel
theorem dL_law_758 : decode cL_law 758 = .ok (.invokevirtual 123, 3) := by decide +kernel
theorem dL_law_761 : decode cL_law 761 = .ok (.aload_n 2, 1) := by decide +kernel
theorem dL_law_762 : decode cL_law 762 = .ok (.invokevirtual 127, 3) := by decide +kernel
theorem dL_law_765 : decode cL_law 765 = .ok (.if_icmp .eq 514, 3) := by decide +kernel
theorem dL_law_768 : decode cL_law 768 = .ok (.iconst 0, 1) := by decide +kernel
theorem dL_law_769 : decode cL_law 769 = .ok (.ireturn, 1) := by decide +kernel
theorem dL_law_770 : decode cL_law 770 = .ok (.aload_n 1, 1) := by decide +kernel
theorem dL_law_771 : decode cL_law 771 = .ok (.invokevirtual 128, 3) := by decide +kernel
theorem dL_law_774 : decode cL_law 774 = .ok (.aload_n 2, 1) := by decide +kernel
theorem dL_law_775 : decode cL_law 775 = .ok (.invokevirtual 131, 3) := by decide +kernel
theorem dL_law_778 : decode cL_law 778 = .ok (.if_icmp .eq 501, 3) := by decide +kernel
theorem dL_law_781 : decode cL_law 781 = .ok (.iconst 0, 1) := by decide +kernel
theorem dL_law_782 : decode cL_law 782 = .ok (.ireturn, 1) := by decide +kernel
theorem dL_law_783 : decode cL_law 783 = .ok (.aload_n 1, 1) := by decide +kernel
theorem dL_law_784 : decode cL_law 784 = .ok (.aload_n 0, 1) := by decide +kernel
theorem dL_law_785 : decode cL_law 785 = .ok (.iload 5, 2) := by decide +kernel
theorem dL_law_787 : decode cL_law 787 = .ok (.iconst 1, 1) := by decide +kernel
theorem dL_law_788 : decode cL_law 788 = .ok (.iadd, 1) := by decide +kernel
theorem dL_law_789 : decode cL_law 789 = .ok (.iaload, 1) := by decide +kernel
theorem dL_law_790 : decode cL_law 790 = .ok (.aload_n 0, 1) := by decide +kernel
theorem dL_law_791 : decode cL_law 791 = .ok (.iload 5, 2) := by decide +kernel
theorem dL_law_793 : decode cL_law 793 = .ok (.iconst 2, 1) := by decide +kernel
theorem dL_law_794 : decode cL_law 794 = .ok (.iadd, 1) := by decide +kernel
theorem dL_law_795 : decode cL_law 795 = .ok (.iaload, 1) := by decide +kernel
theorem dL_law_796 : decode cL_law 796 = .ok (.ifCond .eq 7, 3) := by decide +kernel
theorem dL_law_799 : decode cL_law 799 = .ok (.iconst 1, 1) := by decide +kernel
theorem dL_law_800 : decode cL_law 800 = .ok (.goto 4, 3) := by decide +kernel
theorem dL_law_803 : decode cL_law 803 = .ok (.iconst 0, 1) := by decide +kernel
theorem dL_law_804 : decode cL_law 804 = .ok (.aload_n 0, 1) := by decide +kernel
theorem dL_law_805 : decode cL_law 805 = .ok (.iload 5, 2) := by decide +kernel
theorem dL_law_807 : decode cL_law 807 = .ok (.iconst 3, 1) := by decide +kernel
theorem dL_law_808 : decode cL_law 808 = .ok (.iadd, 1) := by decide +kernel
theorem dL_law_809 : decode cL_law 809 = .ok (.iaload, 1) := by decide +kernel
theorem dL_law_810 : decode cL_law 810 = .ok (.invokestatic 132, 3) := by decide +kernel
theorem dL_law_813 : decode cL_law 813 = .ok (.istore 6, 2) := by decide +kernel
theorem dL_law_815 : decode cL_law 815 = .ok (.aload_n 2, 1) := by decide +kernel
theorem dL_law_816 : decode cL_law 816 = .ok (.aload_n 0, 1) := by decide +kernel
theorem dL_law_817 : decode cL_law 817 = .ok (.iload 5, 2) := by decide +kernel
theorem dL_law_819 : decode cL_law 819 = .ok (.iconst 1, 1) := by decide +kernel
theorem dL_law_820 : decode cL_law 820 = .ok (.iadd, 1) := by decide +kernel
theorem dL_law_821 : decode cL_law 821 = .ok (.iaload, 1) := by decide +kernel
theorem dL_law_822 : decode cL_law 822 = .ok (.aload_n 0, 1) := by decide +kernel
theorem dL_law_823 : decode cL_law 823 = .ok (.iload 5, 2) := by decide +kernel
theorem dL_law_825 : decode cL_law 825 = .ok (.iconst 2, 1) := by decide +kernel
theorem dL_law_826 : decode cL_law 826 = .ok (.iadd, 1) := by decide +kernel
theorem dL_law_827 : decode cL_law 827 = .ok (.iaload, 1) := by decide +kernel
theorem dL_law_828 : decode cL_law 828 = .ok (.ifCond .eq 7, 3) := by decide +kernel
theorem dL_law_831 : decode cL_law 831 = .ok (.iconst 1, 1) := by decide +kernel
theorem dL_law_832 : decode cL_law 832 = .ok (.goto 4, 3) := by decide +kernel
theorem dL_law_835 : decode cL_law 835 = .ok (.iconst 0, 1) := by decide +kernel
theorem dL_law_836 : decode cL_law 836 = .ok (.aload_n 0, 1) := by decide +kernel
theorem dL_law_837 : decode cL_law 837 = .ok (.iload 5, 2) := by decide +kernel
theorem dL_law_839 : decode cL_law 839 = .ok (.iconst 3, 1) := by decide +kernel
theorem dL_law_840 : decode cL_law 840 = .ok (.iadd, 1) := by decide +kernel
theorem dL_law_841 : decode cL_law 841 = .ok (.iaload, 1) := by decide +kernel
theorem dL_law_842 : decode cL_law 842 = .ok (.invokevirtual 135, 3) := by decide +kernel
theorem dL_law_845 : decode cL_law 845 = .ok (.aload_n 2, 1) := by decide +kernel
theorem dL_law_846 : decode cL_law 846 = .ok (.invokevirtual 83, 3) := by decide +kernel
theorem dL_law_849 : decode cL_law 849 = .ok (.iload 6, 2) := by decide +kernel
theorem dL_law_851 : decode cL_law 851 = .ok (.if_icmp .eq 5, 3) := by decide +kernel
theorem dL_law_854 : decode cL_law 854 = .ok (.iconst 0, 1) := by decide +kernel
theorem dL_law_855 : decode cL_law 855 = .ok (.ireturn, 1) := by decide +kernel
theorem dL_law_856 : decode cL_law 856 = .ok (.goto 423, 3) := by decide +kernel
theorem dL_law_859 : decode cL_law 859 = .ok (.aload_n 1, 1) := by decide +kernel
theorem dL_law_860 : decode cL_law 860 = .ok (.aload_n 0, 1) := by decide +kernel
theorem dL_law_861 : decode cL_law 861 = .ok (.iload 5, 2) := by decide +kernel
theorem dL_law_863 : decode cL_law 863 = .ok (.iconst 1, 1) := by decide +kernel
theorem dL_law_864 : decode cL_law 864 = .ok (.iadd, 1) := by decide +kernel
theorem dL_law_865 : decode cL_law 865 = .ok (.iaload, 1) := by decide +kernel
theorem dL_law_866 : decode cL_law 866 = .ok (.aload_n 0, 1) := by decide +kernel
theorem dL_law_867 : decode cL_law 867 = .ok (.iload 5, 2) := by decide +kernel
theorem dL_law_869 : decode cL_law 869 = .ok (.iconst 2, 1) := by decide +kernel
theorem dL_law_870 : decode cL_law 870 = .ok (.iadd, 1) := by decide +kernel
theorem dL_law_871 : decode cL_law 871 = .ok (.iaload, 1) := by decide +kernel
theorem dL_law_872 : decode cL_law 872 = .ok (.aload_n 0, 1) := by decide +kernel
theorem dL_law_873 : decode cL_law 873 = .ok (.iload 5, 2) := by decide +kernel
theorem dL_law_875 : decode cL_law 875 = .ok (.iconst 3, 1) := by decide +kernel
theorem dL_law_876 : decode cL_law 876 = .ok (.iadd, 1) := by decide +kernel
theorem dL_law_877 : decode cL_law 877 = .ok (.iaload, 1) := by decide +kernel
theorem dL_law_878 : decode cL_law 878 = .ok (.ifCond .eq 7, 3) := by decide +kernel
theorem dL_law_881 : decode cL_law 881 = .ok (.iconst 1, 1) := by decide +kernel
theorem dL_law_882 : decode cL_law 882 = .ok (.goto 4, 3) := by decide +kernel
theorem dL_law_885 : decode cL_law 885 = .ok (.iconst 0, 1) := by decide +kernel
theorem dL_law_886 : decode cL_law 886 = .ok (.aload_n 3, 1) := by decide +kernel
theorem dL_law_887 : decode cL_law 887 = .ok (.invokestatic 136, 3) := by decide +kernel
theorem dL_law_890 : decode cL_law 890 = .ok (.istore 6, 2) := by decide +kernel
theorem dL_law_892 : decode cL_law 892 = .ok (.aload_n 2, 1) := by decide +kernel
theorem dL_law_893 : decode cL_law 893 = .ok (.aload_n 0, 1) := by decide +kernel
theorem dL_law_894 : decode cL_law 894 = .ok (.iload 5, 2) := by decide +kernel
theorem dL_law_896 : decode cL_law 896 = .ok (.iconst 1, 1) := by decide +kernel
theorem dL_law_897 : decode cL_law 897 = .ok (.iadd, 1) := by decide +kernel
theorem dL_law_898 : decode cL_law 898 = .ok (.iaload, 1) := by decide +kernel
theorem dL_law_899 : decode cL_law 899 = .ok (.aload_n 0, 1) := by decide +kernel
theorem dL_law_900 : decode cL_law 900 = .ok (.iload 5, 2) := by decide +kernel
theorem dL_law_902 : decode cL_law 902 = .ok (.iconst 2, 1) := by decide +kernel
theorem dL_law_903 : decode cL_law 903 = .ok (.iadd, 1) := by decide +kernel
theorem dL_law_904 : decode cL_law 904 = .ok (.iaload, 1) := by decide +kernel
theorem dL_law_905 : decode cL_law 905 = .ok (.aload_n 0, 1) := by decide +kernel
theorem dL_law_906 : decode cL_law 906 = .ok (.iload 5, 2) := by decide +kernel
theorem dL_law_908 : decode cL_law 908 = .ok (.iconst 3, 1) := by decide +kernel
theorem dL_law_909 : decode cL_law 909 = .ok (.iadd, 1) := by decide +kernel
theorem dL_law_910 : decode cL_law 910 = .ok (.iaload, 1) := by decide +kernel
theorem dL_law_911 : decode cL_law 911 = .ok (.ifCond .eq 7, 3) := by decide +kernel
theorem dL_law_914 : decode cL_law 914 = .ok (.iconst 1, 1) := by decide +kernel
theorem dL_law_915 : decode cL_law 915 = .ok (.goto 4, 3) := by decide +kernel
theorem dL_law_918 : decode cL_law 918 = .ok (.iconst 0, 1) := by decide +kernel
theorem dL_law_919 : decode cL_law 919 = .ok (.invokevirtual 139, 3) := by decide +kernel
theorem dL_law_922 : decode cL_law 922 = .ok (.istore 7, 2) := by decide +kernel
theorem dL_law_924 : decode cL_law 924 = .ok (.aload_n 2, 1) := by decide +kernel
theorem dL_law_925 : decode cL_law 925 = .ok (.invokevirtual 83, 3) := by decide +kernel
theorem dL_law_928 : decode cL_law 928 = .ok (.iload 6, 2) := by decide +kernel
theorem dL_law_930 : decode cL_law 930 = .ok (.if_icmp .eq 5, 3) := by decide +kernel
theorem dL_law_933 : decode cL_law 933 = .ok (.iconst 0, 1) := by decide +kernel
theorem dL_law_934 : decode cL_law 934 = .ok (.ireturn, 1) := by decide +kernel
theorem dL_law_935 : decode cL_law 935 = .ok (.iload 6, 2) := by decide +kernel
theorem dL_law_937 : decode cL_law 937 = .ok (.ifCond .ne 15, 3) := by decide +kernel
theorem dL_law_940 : decode cL_law 940 = .ok (.aload_n 3, 1) := by decide +kernel
theorem dL_law_941 : decode cL_law 941 = .ok (.iconst 0, 1) := by decide +kernel
theorem dL_law_942 : decode cL_law 942 = .ok (.laload, 1) := by decide +kernel
theorem dL_law_943 : decode cL_law 943 = .ok (.iload 7, 2) := by decide +kernel
theorem dL_law_945 : decode cL_law 945 = .ok (.i2l, 1) := by decide +kernel
theorem dL_law_946 : decode cL_law 946 = .ok (.lcmp, 1) := by decide +kernel
theorem dL_law_947 : decode cL_law 947 = .ok (.ifCond .eq 5, 3) := by decide +kernel
theorem dL_law_950 : decode cL_law 950 = .ok (.iconst 0, 1) := by decide +kernel
theorem dL_law_951 : decode cL_law 951 = .ok (.ireturn, 1) := by decide +kernel
theorem dL_law_952 : decode cL_law 952 = .ok (.goto 327, 3) := by decide +kernel
theorem dL_law_955 : decode cL_law 955 = .ok (.aload_n 1, 1) := by decide +kernel
theorem dL_law_956 : decode cL_law 956 = .ok (.aload_n 0, 1) := by decide +kernel
theorem dL_law_957 : decode cL_law 957 = .ok (.iload 5, 2) := by decide +kernel
theorem dL_law_959 : decode cL_law 959 = .ok (.iconst 1, 1) := by decide +kernel
theorem dL_law_960 : decode cL_law 960 = .ok (.iadd, 1) := by decide +kernel
theorem dL_law_961 : decode cL_law 961 = .ok (.iaload, 1) := by decide +kernel
theorem dL_law_962 : decode cL_law 962 = .ok (.aload_n 3, 1) := by decide +kernel
theorem dL_law_963 : decode cL_law 963 = .ok (.invokestatic 140, 3) := by decide +kernel
theorem dL_law_966 : decode cL_law 966 = .ok (.istore 6, 2) := by decide +kernel
theorem dL_law_968 : decode cL_law 968 = .ok (.aload_n 2, 1) := by decide +kernel
theorem dL_law_969 : decode cL_law 969 = .ok (.aload_n 0, 1) := by decide +kernel
theorem dL_law_970 : decode cL_law 970 = .ok (.iload 5, 2) := by decide +kernel
theorem dL_law_972 : decode cL_law 972 = .ok (.iconst 1, 1) := by decide +kernel
theorem dL_law_973 : decode cL_law 973 = .ok (.iadd, 1) := by decide +kernel
theorem dL_law_974 : decode cL_law 974 = .ok (.iaload, 1) := by decide +kernel
theorem dL_law_975 : decode cL_law 975 = .ok (.invokevirtual 142, 3) := by decide +kernel
theorem dL_law_978 : decode cL_law 978 = .ok (.istore 7, 2) := by decide +kernel
theorem dL_law_980 : decode cL_law 980 = .ok (.aload_n 2, 1) := by decide +kernel
theorem dL_law_981 : decode cL_law 981 = .ok (.invokevirtual 83, 3) := by decide +kernel
theorem dL_law_984 : decode cL_law 984 = .ok (.iload 6, 2) := by decide +kernel
theorem dL_law_986 : decode cL_law 986 = .ok (.if_icmp .eq 5, 3) := by decide +kernel
theorem dL_law_989 : decode cL_law 989 = .ok (.iconst 0, 1) := by decide +kernel
theorem dL_law_990 : decode cL_law 990 = .ok (.ireturn, 1) := by decide +kernel
theorem dL_law_991 : decode cL_law 991 = .ok (.iload 6, 2) := by decide +kernel
theorem dL_law_993 : decode cL_law 993 = .ok (.ifCond .ne 15, 3) := by decide +kernel
theorem dL_law_996 : decode cL_law 996 = .ok (.aload_n 3, 1) := by decide +kernel
theorem dL_law_997 : decode cL_law 997 = .ok (.iconst 0, 1) := by decide +kernel
theorem dL_law_998 : decode cL_law 998 = .ok (.laload, 1) := by decide +kernel
theorem dL_law_999 : decode cL_law 999 = .ok (.iload 7, 2) := by decide +kernel
theorem dL_law_1001 : decode cL_law 1001 = .ok (.i2l, 1) := by decide +kernel
theorem dL_law_1002 : decode cL_law 1002 = .ok (.lcmp, 1) := by decide +kernel
theorem dL_law_1003 : decode cL_law 1003 = .ok (.ifCond .eq 5, 3) := by decide +kernel
theorem dL_law_1006 : decode cL_law 1006 = .ok (.iconst 0, 1) := by decide +kernel
theorem dL_law_1007 : decode cL_law 1007 = .ok (.ireturn, 1) := by decide +kernel
theorem dL_law_1008 : decode cL_law 1008 = .ok (.goto 271, 3) := by decide +kernel
theorem dL_law_1011 : decode cL_law 1011 = .ok (.aload_n 1, 1) := by decide +kernel
theorem dL_law_1012 : decode cL_law 1012 = .ok (.aload_n 0, 1) := by decide +kernel
theorem dL_law_1013 : decode cL_law 1013 = .ok (.iload 5, 2) := by decide +kernel
theorem dL_law_1015 : decode cL_law 1015 = .ok (.iconst 1, 1) := by decide +kernel
theorem dL_law_1016 : decode cL_law 1016 = .ok (.iadd, 1) := by decide +kernel
theorem dL_law_1017 : decode cL_law 1017 = .ok (.iaload, 1) := by decide +kernel
theorem dL_law_1018 : decode cL_law 1018 = .ok (.aload_n 3, 1) := by decide +kernel
theorem dL_law_1019 : decode cL_law 1019 = .ok (.invokestatic 143, 3) := by decide +kernel
theorem dL_law_1022 : decode cL_law 1022 = .ok (.istore 6, 2) := by decide +kernel
theorem dL_law_1024 : decode cL_law 1024 = .ok (.aload_n 2, 1) := by decide +kernel
theorem dL_law_1025 : decode cL_law 1025 = .ok (.aload_n 0, 1) := by decide +kernel
theorem dL_law_1026 : decode cL_law 1026 = .ok (.iload 5, 2) := by decide +kernel
theorem dL_law_1028 : decode cL_law 1028 = .ok (.iconst 1, 1) := by decide +kernel
theorem dL_law_1029 : decode cL_law 1029 = .ok (.iadd, 1) := by decide +kernel
theorem dL_law_1030 : decode cL_law 1030 = .ok (.iaload, 1) := by decide +kernel
theorem dL_law_1031 : decode cL_law 1031 = .ok (.invokevirtual 145, 3) := by decide +kernel
theorem dL_law_1034 : decode cL_law 1034 = .ok (.istore 7, 2) := by decide +kernel
theorem dL_law_1036 : decode cL_law 1036 = .ok (.aload_n 2, 1) := by decide +kernel
theorem dL_law_1037 : decode cL_law 1037 = .ok (.invokevirtual 83, 3) := by decide +kernel
theorem dL_law_1040 : decode cL_law 1040 = .ok (.iload 6, 2) := by decide +kernel
theorem dL_law_1042 : decode cL_law 1042 = .ok (.if_icmp .eq 5, 3) := by decide +kernel
theorem dL_law_1045 : decode cL_law 1045 = .ok (.iconst 0, 1) := by decide +kernel
theorem dL_law_1046 : decode cL_law 1046 = .ok (.ireturn, 1) := by decide +kernel
theorem dL_law_1047 : decode cL_law 1047 = .ok (.iload 6, 2) := by decide +kernel
theorem dL_law_1049 : decode cL_law 1049 = .ok (.ifCond .ne 15, 3) := by decide +kernel
theorem dL_law_1052 : decode cL_law 1052 = .ok (.aload_n 3, 1) := by decide +kernel
theorem dL_law_1053 : decode cL_law 1053 = .ok (.iconst 0, 1) := by decide +kernel
theorem dL_law_1054 : decode cL_law 1054 = .ok (.laload, 1) := by decide +kernel
theorem dL_law_1055 : decode cL_law 1055 = .ok (.iload 7, 2) := by decide +kernel
theorem dL_law_1057 : decode cL_law 1057 = .ok (.i2l, 1) := by decide +kernel
theorem dL_law_1058 : decode cL_law 1058 = .ok (.lcmp, 1) := by decide +kernel
theorem dL_law_1059 : decode cL_law 1059 = .ok (.ifCond .eq 5, 3) := by decide +kernel
theorem dL_law_1062 : decode cL_law 1062 = .ok (.iconst 0, 1) := by decide +kernel
theorem dL_law_1063 : decode cL_law 1063 = .ok (.ireturn, 1) := by decide +kernel
theorem dL_law_1064 : decode cL_law 1064 = .ok (.goto 215, 3) := by decide +kernel
theorem dL_law_1067 : decode cL_law 1067 = .ok (.aload_n 1, 1) := by decide +kernel
theorem dL_law_1068 : decode cL_law 1068 = .ok (.aload_n 0, 1) := by decide +kernel
theorem dL_law_1069 : decode cL_law 1069 = .ok (.iload 5, 2) := by decide +kernel
theorem dL_law_1071 : decode cL_law 1071 = .ok (.iconst 1, 1) := by decide +kernel
theorem dL_law_1072 : decode cL_law 1072 = .ok (.iadd, 1) := by decide +kernel
theorem dL_law_1073 : decode cL_law 1073 = .ok (.iaload, 1) := by decide +kernel
theorem dL_law_1074 : decode cL_law 1074 = .ok (.aload 4, 2) := by decide +kernel
theorem dL_law_1076 : decode cL_law 1076 = .ok (.invokestatic 146, 3) := by decide +kernel
theorem dL_law_1079 : decode cL_law 1079 = .ok (.istore 6, 2) := by decide +kernel
theorem dL_law_1081 : decode cL_law 1081 = .ok (.aload_n 2, 1) := by decide +kernel
theorem dL_law_1082 : decode cL_law 1082 = .ok (.aload_n 0, 1) := by decide +kernel
theorem dL_law_1083 : decode cL_law 1083 = .ok (.iload 5, 2) := by decide +kernel
theorem dL_law_1085 : decode cL_law 1085 = .ok (.iconst 1, 1) := by decide +kernel
theorem dL_law_1086 : decode cL_law 1086 = .ok (.iadd, 1) := by decide +kernel
theorem dL_law_1087 : decode cL_law 1087 = .ok (.iaload, 1) := by decide +kernel
theorem dL_law_1088 : decode cL_law 1088 = .ok (.invokevirtual 149, 3) := by decide +kernel
theorem dL_law_1091 : decode cL_law 1091 = .ok (.dstore 7, 2) := by decide +kernel
theorem dL_law_1093 : decode cL_law 1093 = .ok (.aload_n 2, 1) := by decide +kernel
theorem dL_law_1094 : decode cL_law 1094 = .ok (.invokevirtual 83, 3) := by decide +kernel
theorem dL_law_1097 : decode cL_law 1097 = .ok (.iload 6, 2) := by decide +kernel
theorem dL_law_1099 : decode cL_law 1099 = .ok (.if_icmp .eq 5, 3) := by decide +kernel
theorem dL_law_1102 : decode cL_law 1102 = .ok (.iconst 0, 1) := by decide +kernel
theorem dL_law_1103 : decode cL_law 1103 = .ok (.ireturn, 1) := by decide +kernel
theorem dL_law_1104 : decode cL_law 1104 = .ok (.iload 6, 2) := by decide +kernel
theorem dL_law_1106 : decode cL_law 1106 = .ok (.ifCond .ne 35, 3) := by decide +kernel
theorem dL_law_1109 : decode cL_law 1109 = .ok (.aload 4, 2) := by decide +kernel
theorem dL_law_1111 : decode cL_law 1111 = .ok (.iconst 0, 1) := by decide +kernel
theorem dL_law_1112 : decode cL_law 1112 = .ok (.daload, 1) := by decide +kernel
theorem dL_law_1113 : decode cL_law 1113 = .ok (.dload 7, 2) := by decide +kernel
theorem dL_law_1115 : decode cL_law 1115 = .ok (.dcmp .l, 1) := by decide +kernel
theorem dL_law_1116 : decode cL_law 1116 = .ok (.ifCond .eq 25, 3) := by decide +kernel
theorem dL_law_1119 : decode cL_law 1119 = .ok (.aload 4, 2) := by decide +kernel
theorem dL_law_1121 : decode cL_law 1121 = .ok (.iconst 0, 1) := by decide +kernel
theorem dL_law_1122 : decode cL_law 1122 = .ok (.daload, 1) := by decide +kernel
theorem dL_law_1123 : decode cL_law 1123 = .ok (.aload 4, 2) := by decide +kernel
theorem dL_law_1125 : decode cL_law 1125 = .ok (.iconst 0, 1) := by decide +kernel
theorem dL_law_1126 : decode cL_law 1126 = .ok (.daload, 1) := by decide +kernel
theorem dL_law_1127 : decode cL_law 1127 = .ok (.dcmp .l, 1) := by decide +kernel
theorem dL_law_1128 : decode cL_law 1128 = .ok (.ifCond .eq 11, 3) := by decide +kernel
theorem dL_law_1131 : decode cL_law 1131 = .ok (.dload 7, 2) := by decide +kernel
theorem dL_law_1133 : decode cL_law 1133 = .ok (.dload 7, 2) := by decide +kernel
theorem dL_law_1135 : decode cL_law 1135 = .ok (.dcmp .l, 1) := by decide +kernel
theorem dL_law_1136 : decode cL_law 1136 = .ok (.ifCond .ne 5, 3) := by decide +kernel
theorem dL_law_1139 : decode cL_law 1139 = .ok (.iconst 0, 1) := by decide +kernel
theorem dL_law_1140 : decode cL_law 1140 = .ok (.ireturn, 1) := by decide +kernel
theorem dL_law_1141 : decode cL_law 1141 = .ok (.goto 138, 3) := by decide +kernel
theorem dL_law_1144 : decode cL_law 1144 = .ok (.aload_n 1, 1) := by decide +kernel
theorem dL_law_1145 : decode cL_law 1145 = .ok (.invokevirtual 150, 3) := by decide +kernel
theorem dL_law_1148 : decode cL_law 1148 = .ok (.aload_n 2, 1) := by decide +kernel
theorem dL_law_1149 : decode cL_law 1149 = .ok (.invokevirtual 153, 3) := by decide +kernel
theorem dL_law_1152 : decode cL_law 1152 = .ok (.if_icmp .eq 127, 3) := by decide +kernel
theorem dL_law_1155 : decode cL_law 1155 = .ok (.iconst 0, 1) := by decide +kernel
theorem dL_law_1156 : decode cL_law 1156 = .ok (.ireturn, 1) := by decide +kernel
theorem dL_law_1157 : decode cL_law 1157 = .ok (.aload_n 1, 1) := by decide +kernel
theorem dL_law_1158 : decode cL_law 1158 = .ok (.aload_n 0, 1) := by decide +kernel
theorem dL_law_1159 : decode cL_law 1159 = .ok (.iload 5, 2) := by decide +kernel
theorem dL_law_1161 : decode cL_law 1161 = .ok (.iconst 1, 1) := by decide +kernel
theorem dL_law_1162 : decode cL_law 1162 = .ok (.iadd, 1) := by decide +kernel
theorem dL_law_1163 : decode cL_law 1163 = .ok (.iaload, 1) := by decide +kernel
theorem dL_law_1164 : decode cL_law 1164 = .ok (.ifCond .eq 7, 3) := by decide +kernel
theorem dL_law_1167 : decode cL_law 1167 = .ok (.iconst 1, 1) := by decide +kernel
theorem dL_law_1168 : decode cL_law 1168 = .ok (.goto 4, 3) := by decide +kernel
theorem dL_law_1171 : decode cL_law 1171 = .ok (.iconst 0, 1) := by decide +kernel
theorem dL_law_1172 : decode cL_law 1172 = .ok (.invokevirtual 154, 3) := by decide +kernel
theorem dL_law_1175 : decode cL_law 1175 = .ok (.aload_n 2, 1) := by decide +kernel
theorem dL_law_1176 : decode cL_law 1176 = .ok (.aload_n 0, 1) := by decide +kernel
theorem dL_law_1177 : decode cL_law 1177 = .ok (.iload 5, 2) := by decide +kernel
theorem dL_law_1179 : decode cL_law 1179 = .ok (.iconst 1, 1) := by decide +kernel
theorem dL_law_1180 : decode cL_law 1180 = .ok (.iadd, 1) := by decide +kernel
theorem dL_law_1181 : decode cL_law 1181 = .ok (.iaload, 1) := by decide +kernel
theorem dL_law_1182 : decode cL_law 1182 = .ok (.ifCond .eq 7, 3) := by decide +kernel
theorem dL_law_1185 : decode cL_law 1185 = .ok (.iconst 1, 1) := by decide +kernel
theorem dL_law_1186 : decode cL_law 1186 = .ok (.goto 4, 3) := by decide +kernel
theorem dL_law_1189 : decode cL_law 1189 = .ok (.iconst 0, 1) := by decide +kernel
theorem dL_law_1190 : decode cL_law 1190 = .ok (.invokevirtual 158, 3) := by decide +kernel
theorem dL_law_1193 : decode cL_law 1193 = .ok (.if_icmp .eq 86, 3) := by decide +kernel
theorem dL_law_1196 : decode cL_law 1196 = .ok (.iconst 0, 1) := by decide +kernel
theorem dL_law_1197 : decode cL_law 1197 = .ok (.ireturn, 1) := by decide +kernel
theorem dL_law_1198 : decode cL_law 1198 = .ok (.aload_n 1, 1) := by decide +kernel
theorem dL_law_1199 : decode cL_law 1199 = .ok (.invokevirtual 159, 3) := by decide +kernel
theorem dL_law_1202 : decode cL_law 1202 = .ok (.aload_n 2, 1) := by decide +kernel
theorem dL_law_1203 : decode cL_law 1203 = .ok (.invokevirtual 162, 3) := by decide +kernel
theorem dL_law_1206 : decode cL_law 1206 = .ok (.if_icmp .eq 73, 3) := by decide +kernel
theorem dL_law_1209 : decode cL_law 1209 = .ok (.iconst 0, 1) := by decide +kernel
theorem dL_law_1210 : decode cL_law 1210 = .ok (.ireturn, 1) := by decide +kernel
theorem dL_law_1211 : decode cL_law 1211 = .ok (.aload_n 1, 1) := by decide +kernel
theorem dL_law_1212 : decode cL_law 1212 = .ok (.aload_n 0, 1) := by decide +kernel
theorem dL_law_1213 : decode cL_law 1213 = .ok (.iload 5, 2) := by decide +kernel
theorem dL_law_1215 : decode cL_law 1215 = .ok (.iconst 1, 1) := by decide +kernel
theorem dL_law_1216 : decode cL_law 1216 = .ok (.iadd, 1) := by decide +kernel
theorem dL_law_1217 : decode cL_law 1217 = .ok (.iaload, 1) := by decide +kernel
theorem dL_law_1218 : decode cL_law 1218 = .ok (.aload_n 0, 1) := by decide +kernel
theorem dL_law_1219 : decode cL_law 1219 = .ok (.iload 5, 2) := by decide +kernel
theorem dL_law_1221 : decode cL_law 1221 = .ok (.iconst 2, 1) := by decide +kernel
theorem dL_law_1222 : decode cL_law 1222 = .ok (.iadd, 1) := by decide +kernel
theorem dL_law_1223 : decode cL_law 1223 = .ok (.iaload, 1) := by decide +kernel
theorem dL_law_1224 : decode cL_law 1224 = .ok (.aload_n 3, 1) := by decide +kernel
theorem dL_law_1225 : decode cL_law 1225 = .ok (.invokestatic 163, 3) := by decide +kernel
theorem dL_law_1228 : decode cL_law 1228 = .ok (.istore 6, 2) := by decide +kernel
theorem dL_law_1230 : decode cL_law 1230 = .ok (.aload_n 2, 1) := by decide +kernel
theorem dL_law_1231 : decode cL_law 1231 = .ok (.aload_n 0, 1) := by decide +kernel
theorem dL_law_1232 : decode cL_law 1232 = .ok (.iload 5, 2) := by decide +kernel
theorem dL_law_1234 : decode cL_law 1234 = .ok (.iconst 1, 1) := by decide +kernel
theorem dL_law_1235 : decode cL_law 1235 = .ok (.iadd, 1) := by decide +kernel
theorem dL_law_1236 : decode cL_law 1236 = .ok (.iaload, 1) := by decide +kernel
theorem dL_law_1237 : decode cL_law 1237 = .ok (.aload_n 0, 1) := by decide +kernel
theorem dL_law_1238 : decode cL_law 1238 = .ok (.iload 5, 2) := by decide +kernel
theorem dL_law_1240 : decode cL_law 1240 = .ok (.iconst 2, 1) := by decide +kernel
theorem dL_law_1241 : decode cL_law 1241 = .ok (.iadd, 1) := by decide +kernel
theorem dL_law_1242 : decode cL_law 1242 = .ok (.iaload, 1) := by decide +kernel
theorem dL_law_1243 : decode cL_law 1243 = .ok (.invokevirtual 165, 3) := by decide +kernel
theorem dL_law_1246 : decode cL_law 1246 = .ok (.istore 7, 2) := by decide +kernel
theorem dL_law_1248 : decode cL_law 1248 = .ok (.aload_n 2, 1) := by decide +kernel
theorem dL_law_1249 : decode cL_law 1249 = .ok (.invokevirtual 83, 3) := by decide +kernel
theorem dL_law_1252 : decode cL_law 1252 = .ok (.iload 6, 2) := by decide +kernel
theorem dL_law_1254 : decode cL_law 1254 = .ok (.if_icmp .eq 5, 3) := by decide +kernel
theorem dL_law_1257 : decode cL_law 1257 = .ok (.iconst 0, 1) := by decide +kernel
theorem dL_law_1258 : decode cL_law 1258 = .ok (.ireturn, 1) := by decide +kernel
theorem dL_law_1259 : decode cL_law 1259 = .ok (.iload 6, 2) := by decide +kernel
theorem dL_law_1261 : decode cL_law 1261 = .ok (.ifCond .ne 15, 3) := by decide +kernel
theorem dL_law_1264 : decode cL_law 1264 = .ok (.aload_n 3, 1) := by decide +kernel
theorem dL_law_1265 : decode cL_law 1265 = .ok (.iconst 0, 1) := by decide +kernel
theorem dL_law_1266 : decode cL_law 1266 = .ok (.laload, 1) := by decide +kernel
theorem dL_law_1267 : decode cL_law 1267 = .ok (.iload 7, 2) := by decide +kernel
theorem dL_law_1269 : decode cL_law 1269 = .ok (.i2l, 1) := by decide +kernel
theorem dL_law_1270 : decode cL_law 1270 = .ok (.lcmp, 1) := by decide +kernel
theorem dL_law_1271 : decode cL_law 1271 = .ok (.ifCond .eq 5, 3) := by decide +kernel
theorem dL_law_1274 : decode cL_law 1274 = .ok (.iconst 0, 1) := by decide +kernel
theorem dL_law_1275 : decode cL_law 1275 = .ok (.ireturn, 1) := by decide +kernel
theorem dL_law_1276 : decode cL_law 1276 = .ok (.goto 3, 3) := by decide +kernel
theorem dL_law_1279 : decode cL_law 1279 = .ok (.iinc 5 5, 3) := by decide +kernel
theorem dL_law_1282 : decode cL_law 1282 = .ok (.goto (-1254), 3) := by decide +kernel
theorem dL_law_1285 : decode cL_law 1285 = .ok (.iconst 1, 1) := by decide +kernel
theorem dL_law_1286 : decode cL_law 1286 = .ok (.ireturn, 1) := by decide +kernel
