theorem dX0_placeThroughS_66 : decode cX0_placeThroughS 66 = .ok (.iadd, 1) := by decide +kernel
theorem dX0_placeThroughS_67 : decode cX0_placeThroughS 67 = .ok (.istore 5, 2) := by decide +kernel
theorem dX0_placeThroughS_69 : decode cX0_placeThroughS 69 = .ok (.aload_n 0, 1) := by decide +kernel
theorem dX0_placeThroughS_70 : decode cX0_placeThroughS 70 = .ok (.iload 5, 2) := by decide +kernel
theorem dX0_placeThroughS_72 : decode cX0_placeThroughS 72 = .ok (.iconst 4, 1) := by decide +kernel
theorem dX0_placeThroughS_73 : decode cX0_placeThroughS 73 = .ok (.invokevirtual 46, 3) := by decide +kernel
theorem dX0_placeThroughS_76 : decode cX0_placeThroughS 76 = .ok (.ifCond .ne 6, 3) := by decide +kernel
theorem dX0_placeThroughS_79 : decode cX0_placeThroughS 79 = .ok (.bipush (-100), 2) := by decide +kernel
theorem dX0_placeThroughS_81 : decode cX0_placeThroughS 81 = .ok (.ireturn, 1) := by decide +kernel
theorem dX0_placeThroughS_82 : decode cX0_placeThroughS 82 = .ok (.aload_n 0, 1) := by decide +kernel
theorem dX0_placeThroughS_83 : decode cX0_placeThroughS 83 = .ok (.iload 5, 2) := by decide +kernel
theorem dX0_placeThroughS_85 : decode cX0_placeThroughS 85 = .ok (.invokevirtual 50, 3) := by decide +kernel
theorem dX0_placeThroughS_88 : decode cX0_placeThroughS 88 = .ok (.istore 6, 2) := by decide +kernel
theorem dX0_placeThroughS_90 : decode cX0_placeThroughS 90 = .ok (.iload 6, 2) := by decide +kernel
theorem dX0_placeThroughS_92 : decode cX0_placeThroughS 92 = .ok (.invokestatic 108, 3) := by decide +kernel
theorem dX0_placeThroughS_95 : decode cX0_placeThroughS 95 = .ok (.ifCond .ne 9, 3) := by decide +kernel
theorem dX0_placeThroughS_98 : decode cX0_placeThroughS 98 = .ok (.iconst 2, 1) := by decide +kernel
theorem dX0_placeThroughS_99 : decode cX0_placeThroughS 99 = .ok (.iload_n 2, 1) := by decide +kernel
theorem dX0_placeThroughS_100 : decode cX0_placeThroughS 100 = .ok (.invokestatic 111, 3) := by decide +kernel
theorem dX0_placeThroughS_103 : decode cX0_placeThroughS 103 = .ok (.ireturn, 1) := by decide +kernel
theorem dX0_placeThroughS_104 : decode cX0_placeThroughS 104 = .ok (.iload_n 3, 1) := by decide +kernel
theorem dX0_placeThroughS_105 : decode cX0_placeThroughS 105 = .ok (.ifCond .eq 14, 3) := by decide +kernel
theorem dX0_placeThroughS_108 : decode cX0_placeThroughS 108 = .ok (.aload_n 0, 1) := by decide +kernel
theorem dX0_placeThroughS_109 : decode cX0_placeThroughS 109 = .ok (.iload 4, 2) := by decide +kernel
theorem dX0_placeThroughS_111 : decode cX0_placeThroughS 111 = .ok (.iload_n 1, 1) := by decide +kernel
theorem dX0_placeThroughS_112 : decode cX0_placeThroughS 112 = .ok (.iload 6, 2) := by decide +kernel
theorem dX0_placeThroughS_114 : decode cX0_placeThroughS 114 = .ok (.iload 5, 2) := by decide +kernel
theorem dX0_placeThroughS_116 : decode cX0_placeThroughS 116 = .ok (.invokevirtual 114, 3) := by decide +kernel
theorem dX0_placeThroughS_119 : decode cX0_placeThroughS 119 = .ok (.iload 6, 2) := by decide +kernel
theorem dX0_placeThroughS_121 : decode cX0_placeThroughS 121 = .ok (.iload_n 1, 1) := by decide +kernel
theorem dX0_placeThroughS_122 : decode cX0_placeThroughS 122 = .ok (.invokestatic 121, 3) := by decide +kernel
theorem dX0_placeThroughS_125 : decode cX0_placeThroughS 125 = .ok (.ireturn, 1) := by decide +kernel
theorem dX0_keepEntry_0 : decode cX0_keepEntry 0 = .ok (.aload_n 0, 1) := by decide +kernel
theorem dX0_keepEntry_1 : decode cX0_keepEntry 1 = .ok (.getfield 28, 3) := by decide +kernel
theorem dX0_keepEntry_4 : decode cX0_keepEntry 4 = .ok (.iload_n 1, 1) := by decide +kernel
theorem dX0_keepEntry_5 : decode cX0_keepEntry 5 = .ok (.iload_n 2, 1) := by decide +kernel
theorem dX0_keepEntry_6 : decode cX0_keepEntry 6 = .ok (.bipush 16, 2) := by decide +kernel
theorem dX0_keepEntry_8 : decode cX0_keepEntry 8 = .ok (.idiv, 1) := by decide +kernel
theorem dX0_keepEntry_9 : decode cX0_keepEntry 9 = .ok (.iastore, 1) := by decide +kernel
theorem dX0_keepEntry_10 : decode cX0_keepEntry 10 = .ok (.aload_n 0, 1) := by decide +kernel
theorem dX0_keepEntry_11 : decode cX0_keepEntry 11 = .ok (.getfield 37, 3) := by decide +kernel
theorem dX0_keepEntry_14 : decode cX0_keepEntry 14 = .ok (.iload_n 1, 1) := by decide +kernel
theorem dX0_keepEntry_15 : decode cX0_keepEntry 15 = .ok (.iload_n 3, 1) := by decide +kernel
theorem dX0_keepEntry_16 : decode cX0_keepEntry 16 = .ok (.iastore, 1) := by decide +kernel
theorem dX0_keepEntry_17 : decode cX0_keepEntry 17 = .ok (.aload_n 0, 1) := by decide +kernel
theorem dX0_keepEntry_18 : decode cX0_keepEntry 18 = .ok (.getfield 40, 3) := by decide +kernel
theorem dX0_keepEntry_21 : decode cX0_keepEntry 21 = .ok (.iload_n 1, 1) := by decide +kernel
theorem dX0_keepEntry_22 : decode cX0_keepEntry 22 = .ok (.iload 4, 2) := by decide +kernel
theorem dX0_keepEntry_24 : decode cX0_keepEntry 24 = .ok (.iastore, 1) := by decide +kernel
theorem dX0_keepEntry_25 : decode cX0_keepEntry 25 = .ok (.return_, 1) := by decide +kernel
theorem dX0_markWritten_0 : decode cX0_markWritten 0 = .ok (.aload_n 0, 1) := by decide +kernel
theorem dX0_markWritten_1 : decode cX0_markWritten 1 = .ok (.getfield 37, 3) := by decide +kernel
theorem dX0_markWritten_4 : decode cX0_markWritten 4 = .ok (.iload_n 1, 1) := by decide +kernel
theorem dX0_markWritten_5 : decode cX0_markWritten 5 = .ok (.iaload, 1) := by decide +kernel
theorem dX0_markWritten_6 : decode cX0_markWritten 6 = .ok (.ldc 137, 2) := by decide +kernel
theorem dX0_markWritten_8 : decode cX0_markWritten 8 = .ok (.iand, 1) := by decide +kernel
theorem dX0_markWritten_9 : decode cX0_markWritten 9 = .ok (.ifCond .eq 4, 3) := by decide +kernel
theorem dX0_markWritten_12 : decode cX0_markWritten 12 = .ok (.return_, 1) := by decide +kernel
theorem dX0_markWritten_13 : decode cX0_markWritten 13 = .ok (.aload_n 0, 1) := by decide +kernel
theorem dX0_markWritten_14 : decode cX0_markWritten 14 = .ok (.getfield 37, 3) := by decide +kernel
theorem dX0_markWritten_17 : decode cX0_markWritten 17 = .ok (.iload_n 1, 1) := by decide +kernel
theorem dX0_markWritten_18 : decode cX0_markWritten 18 = .ok (.dup2, 1) := by decide +kernel
theorem dX0_markWritten_19 : decode cX0_markWritten 19 = .ok (.iaload, 1) := by decide +kernel
theorem dX0_markWritten_20 : decode cX0_markWritten 20 = .ok (.ldc 137, 2) := by decide +kernel
theorem dX0_markWritten_22 : decode cX0_markWritten 22 = .ok (.ior, 1) := by decide +kernel
theorem dX0_markWritten_23 : decode cX0_markWritten 23 = .ok (.iastore, 1) := by decide +kernel
theorem dX0_markWritten_24 : decode cX0_markWritten 24 = .ok (.aload_n 0, 1) := by decide +kernel
theorem dX0_markWritten_25 : decode cX0_markWritten 25 = .ok (.getfield 9, 3) := by decide +kernel
theorem dX0_markWritten_28 : decode cX0_markWritten 28 = .ok (.aload_n 0, 1) := by decide +kernel
theorem dX0_markWritten_29 : decode cX0_markWritten 29 = .ok (.getfield 40, 3) := by decide +kernel
theorem dX0_markWritten_32 : decode cX0_markWritten 32 = .ok (.iload_n 1, 1) := by decide +kernel
theorem dX0_markWritten_33 : decode cX0_markWritten 33 = .ok (.iaload, 1) := by decide +kernel
theorem dX0_markWritten_34 : decode cX0_markWritten 34 = .ok (.iconst 4, 1) := by decide +kernel
theorem dX0_markWritten_35 : decode cX0_markWritten 35 = .ok (.iadd, 1) := by decide +kernel
theorem dX0_markWritten_36 : decode cX0_markWritten 36 = .ok (.iconst 1, 1) := by decide +kernel
theorem dX0_markWritten_37 : decode cX0_markWritten 37 = .ok (.isub, 1) := by decide +kernel
theorem dX0_markWritten_38 : decode cX0_markWritten 38 = .ok (.dup2, 1) := by decide +kernel
theorem dX0_markWritten_39 : decode cX0_markWritten 39 = .ok (.baload, 1) := by decide +kernel
theorem dX0_markWritten_40 : decode cX0_markWritten 40 = .ok (.iconst 4, 1) := by decide +kernel
theorem dX0_markWritten_41 : decode cX0_markWritten 41 = .ok (.ior, 1) := by decide +kernel
theorem dX0_markWritten_42 : decode cX0_markWritten 42 = .ok (.i2b, 1) := by decide +kernel
theorem dX0_markWritten_43 : decode cX0_markWritten 43 = .ok (.bastore, 1) := by decide +kernel
theorem dX0_markWritten_44 : decode cX0_markWritten 44 = .ok (.return_, 1) := by decide +kernel
theorem dX0_forget_0 : decode cX0_forget 0 = .ok (.iconst 0, 1) := by decide +kernel
theorem dX0_forget_1 : decode cX0_forget 1 = .ok (.istore_n 2, 1) := by decide +kernel
theorem dX0_forget_2 : decode cX0_forget 2 = .ok (.iload_n 2, 1) := by decide +kernel
theorem dX0_forget_3 : decode cX0_forget 3 = .ok (.iload_n 1, 1) := by decide +kernel
theorem dX0_forget_4 : decode cX0_forget 4 = .ok (.if_icmp .ge 16, 3) := by decide +kernel
theorem dX0_forget_7 : decode cX0_forget 7 = .ok (.aload_n 0, 1) := by decide +kernel
theorem dX0_forget_8 : decode cX0_forget 8 = .ok (.getfield 28, 3) := by decide +kernel
theorem dX0_forget_11 : decode cX0_forget 11 = .ok (.iload_n 2, 1) := by decide +kernel
theorem dX0_forget_12 : decode cX0_forget 12 = .ok (.iconst (-1), 1) := by decide +kernel
theorem dX0_forget_13 : decode cX0_forget 13 = .ok (.iastore, 1) := by decide +kernel
theorem dX0_forget_14 : decode cX0_forget 14 = .ok (.iinc 2 1, 3) := by decide +kernel
theorem dX0_forget_17 : decode cX0_forget 17 = .ok (.goto (-15), 3) := by decide +kernel
theorem dX0_forget_20 : decode cX0_forget 20 = .ok (.return_, 1) := by decide +kernel
theorem dX0_slotOf_0 : decode cX0_slotOf 0 = .ok (.iload_n 0, 1) := by decide +kernel
theorem dX0_slotOf_1 : decode cX0_slotOf 1 = .ok (.invokestatic 128, 3) := by decide +kernel
theorem dX0_slotOf_4 : decode cX0_slotOf 4 = .ok (.bipush 8, 2) := by decide +kernel
theorem dX0_slotOf_6 : decode cX0_slotOf 6 = .ok (.irem, 1) := by decide +kernel
theorem dX0_slotOf_7 : decode cX0_slotOf 7 = .ok (.istore_n 1, 1) := by decide +kernel
theorem dX0_slotOf_8 : decode cX0_slotOf 8 = .ok (.iload_n 0, 1) := by decide +kernel
theorem dX0_slotOf_9 : decode cX0_slotOf 9 = .ok (.invokestatic 125, 3) := by decide +kernel
theorem dX0_slotOf_12 : decode cX0_slotOf 12 = .ok (.iconst 2, 1) := by decide +kernel
theorem dX0_slotOf_13 : decode cX0_slotOf 13 = .ok (.if_icmp .lt 10, 3) := by decide +kernel
theorem dX0_slotOf_16 : decode cX0_slotOf 16 = .ok (.bipush 8, 2) := by decide +kernel
theorem dX0_slotOf_18 : decode cX0_slotOf 18 = .ok (.iload_n 1, 1) := by decide +kernel
theorem dX0_slotOf_19 : decode cX0_slotOf 19 = .ok (.iadd, 1) := by decide +kernel
theorem dX0_slotOf_20 : decode cX0_slotOf 20 = .ok (.goto 4, 3) := by decide +kernel
theorem dX0_slotOf_23 : decode cX0_slotOf 23 = .ok (.iload_n 1, 1) := by decide +kernel
theorem dX0_slotOf_24 : decode cX0_slotOf 24 = .ok (.ireturn, 1) := by decide +kernel
theorem dX0_counts_0 : decode cX0_counts 0 = .ok (.aload_n 0, 1) := by decide +kernel
theorem dX0_counts_1 : decode cX0_counts 1 = .ok (.getfield 28, 3) := by decide +kernel
theorem dX0_counts_4 : decode cX0_counts 4 = .ok (.iload_n 1, 1) := by decide +kernel
theorem dX0_counts_5 : decode cX0_counts 5 = .ok (.iaload, 1) := by decide +kernel
theorem dX0_counts_6 : decode cX0_counts 6 = .ok (.iload_n 2, 1) := by decide +kernel
theorem dX0_counts_7 : decode cX0_counts 7 = .ok (.bipush 16, 2) := by decide +kernel
theorem dX0_counts_9 : decode cX0_counts 9 = .ok (.idiv, 1) := by decide +kernel
theorem dX0_counts_10 : decode cX0_counts 10 = .ok (.if_icmp .ne 7, 3) := by decide +kernel
theorem dX0_counts_13 : decode cX0_counts 13 = .ok (.iconst 1, 1) := by decide +kernel
theorem dX0_counts_14 : decode cX0_counts 14 = .ok (.goto 4, 3) := by decide +kernel
theorem dX0_counts_17 : decode cX0_counts 17 = .ok (.iconst 0, 1) := by decide +kernel
theorem dX0_counts_18 : decode cX0_counts 18 = .ok (.ireturn, 1) := by decide +kernel
theorem dX0_inside_0 : decode cX0_inside 0 = .ok (.iload_n 1, 1) := by decide +kernel
theorem dX0_inside_1 : decode cX0_inside 1 = .ok (.iconst 3, 1) := by decide +kernel
theorem dX0_inside_2 : decode cX0_inside 2 = .ok (.if_icmp .lt 5, 3) := by decide +kernel
theorem dX0_inside_5 : decode cX0_inside 5 = .ok (.iconst 0, 1) := by decide +kernel
theorem dX0_inside_6 : decode cX0_inside 6 = .ok (.ireturn, 1) := by decide +kernel
theorem dX0_inside_7 : decode cX0_inside 7 = .ok (.iload_n 1, 1) := by decide +kernel
theorem dX0_inside_8 : decode cX0_inside 8 = .ok (.iconst 1, 1) := by decide +kernel
theorem dX0_inside_9 : decode cX0_inside 9 = .ok (.if_icmp .ne 21, 3) := by decide +kernel
theorem dX0_inside_12 : decode cX0_inside 12 = .ok (.iload_n 2, 1) := by decide +kernel
theorem dX0_inside_13 : decode cX0_inside 13 = .ok (.aload_n 0, 1) := by decide +kernel
theorem dX0_inside_14 : decode cX0_inside 14 = .ok (.getfield 17, 3) := by decide +kernel
theorem dX0_inside_17 : decode cX0_inside 17 = .ok (.iload_n 1, 1) := by decide +kernel
theorem dX0_inside_18 : decode cX0_inside 18 = .ok (.iaload, 1) := by decide +kernel
theorem dX0_inside_19 : decode cX0_inside 19 = .ok (.if_icmp .lt 7, 3) := by decide +kernel
theorem dX0_inside_22 : decode cX0_inside 22 = .ok (.iconst 1, 1) := by decide +kernel
theorem dX0_inside_23 : decode cX0_inside 23 = .ok (.goto 22, 3) := by decide +kernel
theorem dX0_inside_26 : decode cX0_inside 26 = .ok (.iconst 0, 1) := by decide +kernel
theorem dX0_inside_27 : decode cX0_inside 27 = .ok (.goto 18, 3) := by decide +kernel
theorem dX0_inside_30 : decode cX0_inside 30 = .ok (.iload_n 2, 1) := by decide +kernel
theorem dX0_inside_31 : decode cX0_inside 31 = .ok (.aload_n 0, 1) := by decide +kernel
theorem dX0_inside_32 : decode cX0_inside 32 = .ok (.getfield 17, 3) := by decide +kernel
theorem dX0_inside_35 : decode cX0_inside 35 = .ok (.iload_n 1, 1) := by decide +kernel
theorem dX0_inside_36 : decode cX0_inside 36 = .ok (.iaload, 1) := by decide +kernel
theorem dX0_inside_37 : decode cX0_inside 37 = .ok (.if_icmp .ge 7, 3) := by decide +kernel
theorem dX0_inside_40 : decode cX0_inside 40 = .ok (.iconst 1, 1) := by decide +kernel
theorem dX0_inside_41 : decode cX0_inside 41 = .ok (.goto 4, 3) := by decide +kernel
theorem dX0_inside_44 : decode cX0_inside 44 = .ok (.iconst 0, 1) := by decide +kernel
theorem dX0_inside_45 : decode cX0_inside 45 = .ok (.ireturn, 1) := by decide +kernel
theorem dX0_inMemory_0 : decode cX0_inMemory 0 = .ok (.iload_n 1, 1) := by decide +kernel
theorem dX0_inMemory_1 : decode cX0_inMemory 1 = .ok (.ifCond .lt 18, 3) := by decide +kernel
theorem dX0_inMemory_4 : decode cX0_inMemory 4 = .ok (.iload_n 1, 1) := by decide +kernel
theorem dX0_inMemory_5 : decode cX0_inMemory 5 = .ok (.aload_n 0, 1) := by decide +kernel
theorem dX0_inMemory_6 : decode cX0_inMemory 6 = .ok (.getfield 9, 3) := by decide +kernel
theorem dX0_inMemory_9 : decode cX0_inMemory 9 = .ok (.arraylength, 1) := by decide +kernel
theorem dX0_inMemory_10 : decode cX0_inMemory 10 = .ok (.iload_n 2, 1) := by decide +kernel
theorem dX0_inMemory_11 : decode cX0_inMemory 11 = .ok (.isub, 1) := by decide +kernel
theorem dX0_inMemory_12 : decode cX0_inMemory 12 = .ok (.if_icmp .gt 7, 3) := by decide +kernel
theorem dX0_inMemory_15 : decode cX0_inMemory 15 = .ok (.iconst 1, 1) := by decide +kernel
theorem dX0_inMemory_16 : decode cX0_inMemory 16 = .ok (.goto 4, 3) := by decide +kernel
theorem dX0_inMemory_19 : decode cX0_inMemory 19 = .ok (.iconst 0, 1) := by decide +kernel
theorem dX0_inMemory_20 : decode cX0_inMemory 20 = .ok (.ireturn, 1) := by decide +kernel
theorem dX0_byteAt_0 : decode cX0_byteAt 0 = .ok (.aload_n 0, 1) := by decide +kernel
theorem dX0_byteAt_1 : decode cX0_byteAt 1 = .ok (.getfield 9, 3) := by decide +kernel
theorem dX0_byteAt_4 : decode cX0_byteAt 4 = .ok (.iload_n 1, 1) := by decide +kernel
theorem dX0_byteAt_5 : decode cX0_byteAt 5 = .ok (.baload, 1) := by decide +kernel
theorem dX0_byteAt_6 : decode cX0_byteAt 6 = .ok (.sipush 255, 3) := by decide +kernel
theorem dX0_byteAt_9 : decode cX0_byteAt 9 = .ok (.iand, 1) := by decide +kernel
theorem dX0_byteAt_10 : decode cX0_byteAt 10 = .ok (.ireturn, 1) := by decide +kernel
theorem dX0_entryAt_0 : decode cX0_entryAt 0 = .ok (.aload_n 0, 1) := by decide +kernel
theorem dX0_entryAt_1 : decode cX0_entryAt 1 = .ok (.iload_n 1, 1) := by decide +kernel
theorem dX0_entryAt_2 : decode cX0_entryAt 2 = .ok (.invokevirtual 79, 3) := by decide +kernel
theorem dX0_entryAt_5 : decode cX0_entryAt 5 = .ok (.aload_n 0, 1) := by decide +kernel
theorem dX0_entryAt_6 : decode cX0_entryAt 6 = .ok (.iload_n 1, 1) := by decide +kernel
theorem dX0_entryAt_7 : decode cX0_entryAt 7 = .ok (.iconst 1, 1) := by decide +kernel
theorem dX0_entryAt_8 : decode cX0_entryAt 8 = .ok (.iadd, 1) := by decide +kernel
theorem dX0_entryAt_9 : decode cX0_entryAt 9 = .ok (.invokevirtual 79, 3) := by decide +kernel
theorem dX0_entryAt_12 : decode cX0_entryAt 12 = .ok (.bipush 8, 2) := by decide +kernel
theorem dX0_entryAt_14 : decode cX0_entryAt 14 = .ok (.ishl, 1) := by decide +kernel
theorem dX0_entryAt_15 : decode cX0_entryAt 15 = .ok (.ior, 1) := by decide +kernel
theorem dX0_entryAt_16 : decode cX0_entryAt 16 = .ok (.aload_n 0, 1) := by decide +kernel
theorem dX0_entryAt_17 : decode cX0_entryAt 17 = .ok (.iload_n 1, 1) := by decide +kernel
theorem dX0_entryAt_18 : decode cX0_entryAt 18 = .ok (.iconst 2, 1) := by decide +kernel
theorem dX0_entryAt_19 : decode cX0_entryAt 19 = .ok (.iadd, 1) := by decide +kernel
theorem dX0_entryAt_20 : decode cX0_entryAt 20 = .ok (.invokevirtual 79, 3) := by decide +kernel
theorem dX0_entryAt_23 : decode cX0_entryAt 23 = .ok (.bipush 16, 2) := by decide +kernel
theorem dX0_entryAt_25 : decode cX0_entryAt 25 = .ok (.ishl, 1) := by decide +kernel
theorem dX0_entryAt_26 : decode cX0_entryAt 26 = .ok (.ior, 1) := by decide +kernel
theorem dX0_entryAt_27 : decode cX0_entryAt 27 = .ok (.aload_n 0, 1) := by decide +kernel
theorem dX0_entryAt_28 : decode cX0_entryAt 28 = .ok (.iload_n 1, 1) := by decide +kernel
theorem dX0_entryAt_29 : decode cX0_entryAt 29 = .ok (.iconst 3, 1) := by decide +kernel
theorem dX0_entryAt_30 : decode cX0_entryAt 30 = .ok (.iadd, 1) := by decide +kernel
theorem dX0_entryAt_31 : decode cX0_entryAt 31 = .ok (.invokevirtual 79, 3) := by decide +kernel
theorem dX0_entryAt_34 : decode cX0_entryAt 34 = .ok (.bipush 24, 2) := by decide +kernel
theorem dX0_entryAt_36 : decode cX0_entryAt 36 = .ok (.ishl, 1) := by decide +kernel
theorem dX0_entryAt_37 : decode cX0_entryAt 37 = .ok (.ior, 1) := by decide +kernel
theorem dX0_entryAt_38 : decode cX0_entryAt 38 = .ok (.ireturn, 1) := by decide +kernel
theorem dX0_gives_0 : decode cX0_gives 0 = .ok (.iload_n 0, 1) := by decide +kernel
theorem dX0_gives_1 : decode cX0_gives 1 = .ok (.bipush 27, 2) := by decide +kernel
theorem dX0_gives_3 : decode cX0_gives 3 = .ok (.iushr, 1) := by decide +kernel
theorem dX0_gives_4 : decode cX0_gives 4 = .ok (.bipush 15, 2) := by decide +kernel
theorem dX0_gives_6 : decode cX0_gives 6 = .ok (.iand, 1) := by decide +kernel
theorem dX0_gives_7 : decode cX0_gives 7 = .ok (.istore_n 3, 1) := by decide +kernel
theorem dX0_gives_8 : decode cX0_gives 8 = .ok (.iload_n 2, 1) := by decide +kernel
theorem dX0_gives_9 : decode cX0_gives 9 = .ok (.ifCond .eq 11, 3) := by decide +kernel
theorem dX0_gives_12 : decode cX0_gives 12 = .ok (.getstatic 138, 3) := by decide +kernel
theorem dX0_gives_15 : decode cX0_gives 15 = .ok (.iload_n 3, 1) := by decide +kernel
theorem dX0_gives_16 : decode cX0_gives 16 = .ok (.iaload, 1) := by decide +kernel
theorem dX0_gives_17 : decode cX0_gives 17 = .ok (.goto 8, 3) := by decide +kernel
theorem dX0_gives_20 : decode cX0_gives 20 = .ok (.getstatic 141, 3) := by decide +kernel
theorem dX0_gives_23 : decode cX0_gives 23 = .ok (.iload_n 3, 1) := by decide +kernel
theorem dX0_gives_24 : decode cX0_gives 24 = .ok (.iaload, 1) := by decide +kernel
theorem dX0_gives_25 : decode cX0_gives 25 = .ok (.istore 4, 2) := by decide +kernel
theorem dX0_gives_27 : decode cX0_gives 27 = .ok (.iload_n 1, 1) := by decide +kernel
theorem dX0_gives_28 : decode cX0_gives 28 = .ok (.iconst 3, 1) := by decide +kernel
theorem dX0_gives_29 : decode cX0_gives 29 = .ok (.iand, 1) := by decide +kernel
theorem dX0_gives_30 : decode cX0_gives 30 = .ok (.iload 4, 2) := by decide +kernel
theorem dX0_gives_32 : decode cX0_gives 32 = .ok (.if_icmp .gt 7, 3) := by decide +kernel
theorem dX0_gives_35 : decode cX0_gives 35 = .ok (.iconst 1, 1) := by decide +kernel
theorem dX0_gives_36 : decode cX0_gives 36 = .ok (.goto 4, 3) := by decide +kernel
theorem dX0_gives_39 : decode cX0_gives 39 = .ok (.iconst 0, 1) := by decide +kernel
theorem dX0_gives_40 : decode cX0_gives 40 = .ok (.ireturn, 1) := by decide +kernel
theorem dX0_isValid_0 : decode cX0_isValid 0 = .ok (.iload_n 0, 1) := by decide +kernel
theorem dX0_isValid_1 : decode cX0_isValid 1 = .ok (.ldc 144, 2) := by decide +kernel
theorem dX0_isValid_3 : decode cX0_isValid 3 = .ok (.iand, 1) := by decide +kernel
theorem dX0_isValid_4 : decode cX0_isValid 4 = .ok (.ifCond .eq 7, 3) := by decide +kernel
theorem dX0_isValid_7 : decode cX0_isValid 7 = .ok (.iconst 1, 1) := by decide +kernel
theorem dX0_isValid_8 : decode cX0_isValid 8 = .ok (.goto 4, 3) := by decide +kernel
theorem dX0_isValid_11 : decode cX0_isValid 11 = .ok (.iconst 0, 1) := by decide +kernel
theorem dX0_isValid_12 : decode cX0_isValid 12 = .ok (.ireturn, 1) := by decide +kernel
theorem dX0_physical_0 : decode cX0_physical 0 = .ok (.iload_n 0, 1) := by decide +kernel
theorem dX0_physical_1 : decode cX0_physical 1 = .ok (.sipush 4095, 3) := by decide +kernel
theorem dX0_physical_4 : decode cX0_physical 4 = .ok (.iand, 1) := by decide +kernel
theorem dX0_physical_5 : decode cX0_physical 5 = .ok (.bipush 16, 2) := by decide +kernel
theorem dX0_physical_7 : decode cX0_physical 7 = .ok (.imul, 1) := by decide +kernel
theorem dX0_physical_8 : decode cX0_physical 8 = .ok (.iload_n 1, 1) := by decide +kernel
theorem dX0_physical_9 : decode cX0_physical 9 = .ok (.invokestatic 97, 3) := by decide +kernel
theorem dX0_physical_12 : decode cX0_physical 12 = .ok (.iadd, 1) := by decide +kernel
theorem dX0_physical_13 : decode cX0_physical 13 = .ok (.ireturn, 1) := by decide +kernel
theorem dX0_regionOf_0 : decode cX0_regionOf 0 = .ok (.iload_n 0, 1) := by decide +kernel
theorem dX0_regionOf_1 : decode cX0_regionOf 1 = .ok (.bipush 14, 2) := by decide +kernel
theorem dX0_regionOf_3 : decode cX0_regionOf 3 = .ok (.iushr, 1) := by decide +kernel
theorem dX0_regionOf_4 : decode cX0_regionOf 4 = .ok (.iconst 3, 1) := by decide +kernel
theorem dX0_regionOf_5 : decode cX0_regionOf 5 = .ok (.iand, 1) := by decide +kernel
theorem dX0_regionOf_6 : decode cX0_regionOf 6 = .ok (.ireturn, 1) := by decide +kernel
theorem dX0_pageOf_0 : decode cX0_pageOf 0 = .ok (.iload_n 0, 1) := by decide +kernel
theorem dX0_pageOf_1 : decode cX0_pageOf 1 = .ok (.iconst 4, 1) := by decide +kernel
theorem dX0_pageOf_2 : decode cX0_pageOf 2 = .ok (.iushr, 1) := by decide +kernel
theorem dX0_pageOf_3 : decode cX0_pageOf 3 = .ok (.sipush 1023, 3) := by decide +kernel
theorem dX0_pageOf_6 : decode cX0_pageOf 6 = .ok (.iand, 1) := by decide +kernel
theorem dX0_pageOf_7 : decode cX0_pageOf 7 = .ok (.ireturn, 1) := by decide +kernel
theorem dX0_placeInPage_0 : decode cX0_placeInPage 0 = .ok (.iload_n 0, 1) := by decide +kernel
theorem dX0_placeInPage_1 : decode cX0_placeInPage 1 = .ok (.bipush 15, 2) := by decide +kernel
theorem dX0_placeInPage_3 : decode cX0_placeInPage 3 = .ok (.iand, 1) := by decide +kernel
theorem dX0_placeInPage_4 : decode cX0_placeInPage 4 = .ok (.ireturn, 1) := by decide +kernel
theorem dX0_isCount_0 : decode cX0_isCount 0 = .ok (.iload_n 0, 1) := by decide +kernel
theorem dX0_isCount_1 : decode cX0_isCount 1 = .ok (.iconst 1, 1) := by decide +kernel
theorem dX0_isCount_2 : decode cX0_isCount 2 = .ok (.if_icmp .eq 13, 3) := by decide +kernel
theorem dX0_isCount_5 : decode cX0_isCount 5 = .ok (.iload_n 0, 1) := by decide +kernel
theorem dX0_isCount_6 : decode cX0_isCount 6 = .ok (.iconst 2, 1) := by decide +kernel
theorem dX0_isCount_7 : decode cX0_isCount 7 = .ok (.if_icmp .eq 8, 3) := by decide +kernel
theorem dX0_isCount_10 : decode cX0_isCount 10 = .ok (.iload_n 0, 1) := by decide +kernel
theorem dX0_isCount_11 : decode cX0_isCount 11 = .ok (.iconst 4, 1) := by decide +kernel
theorem dX0_isCount_12 : decode cX0_isCount 12 = .ok (.if_icmp .ne 7, 3) := by decide +kernel
theorem dX0_isCount_15 : decode cX0_isCount 15 = .ok (.iconst 1, 1) := by decide +kernel
theorem dX0_isCount_16 : decode cX0_isCount 16 = .ok (.goto 4, 3) := by decide +kernel
theorem dX0_isCount_19 : decode cX0_isCount 19 = .ok (.iconst 0, 1) := by decide +kernel
theorem dX0_isCount_20 : decode cX0_isCount 20 = .ok (.ireturn, 1) := by decide +kernel
theorem dX0_access_0 : decode cX0_access 0 = .ok (.iconst (-1), 1) := by decide +kernel
theorem dX0_access_1 : decode cX0_access 1 = .ok (.iload_n 0, 1) := by decide +kernel
theorem dX0_access_2 : decode cX0_access 2 = .ok (.isub, 1) := by decide +kernel
theorem dX0_access_3 : decode cX0_access 3 = .ok (.iload_n 1, 1) := by decide +kernel
theorem dX0_access_4 : decode cX0_access 4 = .ok (.ifCond .eq 7, 3) := by decide +kernel
theorem dX0_access_7 : decode cX0_access 7 = .ok (.iconst 4, 1) := by decide +kernel
theorem dX0_access_8 : decode cX0_access 8 = .ok (.goto 4, 3) := by decide +kernel
theorem dX0_access_11 : decode cX0_access 11 = .ok (.iconst 0, 1) := by decide +kernel
theorem dX0_access_12 : decode cX0_access 12 = .ok (.isub, 1) := by decide +kernel
theorem dX0_access_13 : decode cX0_access 13 = .ok (.ireturn, 1) := by decide +kernel
theorem dX0_missing_0 : decode cX0_missing 0 = .ok (.bipush (-11), 2) := by decide +kernel
theorem dX0_missing_2 : decode cX0_missing 2 = .ok (.iload_n 0, 1) := by decide +kernel
theorem dX0_missing_3 : decode cX0_missing 3 = .ok (.isub, 1) := by decide +kernel
theorem dX0_missing_4 : decode cX0_missing 4 = .ok (.iload_n 1, 1) := by decide +kernel
theorem dX0_missing_5 : decode cX0_missing 5 = .ok (.ifCond .eq 7, 3) := by decide +kernel
theorem dX0_missing_8 : decode cX0_missing 8 = .ok (.iconst 4, 1) := by decide +kernel
theorem dX0_missing_9 : decode cX0_missing 9 = .ok (.goto 4, 3) := by decide +kernel
theorem dX0_missing_12 : decode cX0_missing 12 = .ok (.iconst 0, 1) := by decide +kernel
theorem dX0_missing_13 : decode cX0_missing 13 = .ok (.isub, 1) := by decide +kernel
theorem dX0_missing_14 : decode cX0_missing 14 = .ok (.ireturn, 1) := by decide +kernel
theorem dX0_isAccess_0 : decode cX0_isAccess 0 = .ok (.iload_n 0, 1) := by decide +kernel
theorem dX0_isAccess_1 : decode cX0_isAccess 1 = .ok (.iconst (-1), 1) := by decide +kernel
theorem dX0_isAccess_2 : decode cX0_isAccess 2 = .ok (.if_icmp .gt 13, 3) := by decide +kernel
theorem dX0_isAccess_5 : decode cX0_isAccess 5 = .ok (.iload_n 0, 1) := by decide +kernel
theorem dX0_isAccess_6 : decode cX0_isAccess 6 = .ok (.bipush (-11), 2) := by decide +kernel
theorem dX0_isAccess_8 : decode cX0_isAccess 8 = .ok (.if_icmp .le 7, 3) := by decide +kernel
theorem dX0_isAccess_11 : decode cX0_isAccess 11 = .ok (.iconst 1, 1) := by decide +kernel
theorem dX0_isAccess_12 : decode cX0_isAccess 12 = .ok (.goto 4, 3) := by decide +kernel
theorem dX0_isAccess_15 : decode cX0_isAccess 15 = .ok (.iconst 0, 1) := by decide +kernel
theorem dX0_isAccess_16 : decode cX0_isAccess 16 = .ok (.ireturn, 1) := by decide +kernel
