theorem dX0_init_0 : decode cX0_init 0 = .ok (.aload_n 0, 1) := by decide +kernel
theorem dX0_init_1 : decode cX0_init 1 = .ok (.invokespecial 1, 3) := by decide +kernel
theorem dX0_init_4 : decode cX0_init 4 = .ok (.iload_n 1, 1) := by decide +kernel
theorem dX0_init_5 : decode cX0_init 5 = .ok (.iconst 4, 1) := by decide +kernel
theorem dX0_init_6 : decode cX0_init 6 = .ok (.if_icmp .lt 14, 3) := by decide +kernel
theorem dX0_init_9 : decode cX0_init 9 = .ok (.iload_n 1, 1) := by decide +kernel
theorem dX0_init_10 : decode cX0_init 10 = .ok (.sipush 128, 3) := by decide +kernel
theorem dX0_init_13 : decode cX0_init 13 = .ok (.if_icmp .gt 7, 3) := by decide +kernel
theorem dX0_init_16 : decode cX0_init 16 = .ok (.iload_n 1, 1) := by decide +kernel
theorem dX0_init_17 : decode cX0_init 17 = .ok (.goto 5, 3) := by decide +kernel
theorem dX0_init_20 : decode cX0_init 20 = .ok (.bipush 32, 2) := by decide +kernel
theorem dX0_init_22 : decode cX0_init 22 = .ok (.istore_n 2, 1) := by decide +kernel
theorem dX0_init_23 : decode cX0_init 23 = .ok (.aload_n 0, 1) := by decide +kernel
theorem dX0_init_24 : decode cX0_init 24 = .ok (.iload_n 2, 1) := by decide +kernel
theorem dX0_init_25 : decode cX0_init 25 = .ok (.bipush 16, 2) := by decide +kernel
theorem dX0_init_27 : decode cX0_init 27 = .ok (.imul, 1) := by decide +kernel
theorem dX0_init_28 : decode cX0_init 28 = .ok (.newarray .byte, 2) := by decide +kernel
theorem dX0_init_30 : decode cX0_init 30 = .ok (.putfield 9, 3) := by decide +kernel
theorem dX0_init_33 : decode cX0_init 33 = .ok (.aload_n 0, 1) := by decide +kernel
theorem dX0_init_34 : decode cX0_init 34 = .ok (.iconst 3, 1) := by decide +kernel
theorem dX0_init_35 : decode cX0_init 35 = .ok (.newarray .int, 2) := by decide +kernel
theorem dX0_init_37 : decode cX0_init 37 = .ok (.putfield 13, 3) := by decide +kernel
theorem dX0_init_40 : decode cX0_init 40 = .ok (.aload_n 0, 1) := by decide +kernel
theorem dX0_init_41 : decode cX0_init 41 = .ok (.iconst 3, 1) := by decide +kernel
theorem dX0_init_42 : decode cX0_init 42 = .ok (.newarray .int, 2) := by decide +kernel
theorem dX0_init_44 : decode cX0_init 44 = .ok (.putfield 17, 3) := by decide +kernel
theorem dX0_init_47 : decode cX0_init 47 = .ok (.aload_n 0, 1) := by decide +kernel
theorem dX0_init_48 : decode cX0_init 48 = .ok (.iconst 0, 1) := by decide +kernel
theorem dX0_init_49 : decode cX0_init 49 = .ok (.putfield 20, 3) := by decide +kernel
theorem dX0_init_52 : decode cX0_init 52 = .ok (.aload_n 0, 1) := by decide +kernel
theorem dX0_init_53 : decode cX0_init 53 = .ok (.iconst (-1), 1) := by decide +kernel
theorem dX0_init_54 : decode cX0_init 54 = .ok (.putfield 24, 3) := by decide +kernel
theorem dX0_init_57 : decode cX0_init 57 = .ok (.aload_n 0, 1) := by decide +kernel
theorem dX0_init_58 : decode cX0_init 58 = .ok (.bipush 16, 2) := by decide +kernel
theorem dX0_init_60 : decode cX0_init 60 = .ok (.newarray .int, 2) := by decide +kernel
theorem dX0_init_62 : decode cX0_init 62 = .ok (.putfield 28, 3) := by decide +kernel
theorem dX0_init_65 : decode cX0_init 65 = .ok (.aload_n 0, 1) := by decide +kernel
theorem dX0_init_66 : decode cX0_init 66 = .ok (.getfield 28, 3) := by decide +kernel
theorem dX0_init_69 : decode cX0_init 69 = .ok (.iconst (-1), 1) := by decide +kernel
theorem dX0_init_70 : decode cX0_init 70 = .ok (.invokestatic 31, 3) := by decide +kernel
theorem dX0_init_73 : decode cX0_init 73 = .ok (.aload_n 0, 1) := by decide +kernel
theorem dX0_init_74 : decode cX0_init 74 = .ok (.bipush 16, 2) := by decide +kernel
theorem dX0_init_76 : decode cX0_init 76 = .ok (.newarray .int, 2) := by decide +kernel
theorem dX0_init_78 : decode cX0_init 78 = .ok (.putfield 37, 3) := by decide +kernel
theorem dX0_init_81 : decode cX0_init 81 = .ok (.aload_n 0, 1) := by decide +kernel
theorem dX0_init_82 : decode cX0_init 82 = .ok (.bipush 16, 2) := by decide +kernel
theorem dX0_init_84 : decode cX0_init 84 = .ok (.newarray .int, 2) := by decide +kernel
theorem dX0_init_86 : decode cX0_init 86 = .ok (.putfield 40, 3) := by decide +kernel
theorem dX0_init_89 : decode cX0_init 89 = .ok (.aload_n 0, 1) := by decide +kernel
theorem dX0_init_90 : decode cX0_init 90 = .ok (.iconst 4, 1) := by decide +kernel
theorem dX0_init_91 : decode cX0_init 91 = .ok (.newarray .int, 2) := by decide +kernel
theorem dX0_init_93 : decode cX0_init 93 = .ok (.putfield 43, 3) := by decide +kernel
theorem dX0_init_96 : decode cX0_init 96 = .ok (.return_, 1) := by decide +kernel
theorem dX0_put_0 : decode cX0_put 0 = .ok (.aload_n 0, 1) := by decide +kernel
theorem dX0_put_1 : decode cX0_put 1 = .ok (.iload_n 1, 1) := by decide +kernel
theorem dX0_put_2 : decode cX0_put 2 = .ok (.iconst 1, 1) := by decide +kernel
theorem dX0_put_3 : decode cX0_put 3 = .ok (.invokevirtual 46, 3) := by decide +kernel
theorem dX0_put_6 : decode cX0_put 6 = .ok (.ifCond .ne 5, 3) := by decide +kernel
theorem dX0_put_9 : decode cX0_put 9 = .ok (.iconst 0, 1) := by decide +kernel
theorem dX0_put_10 : decode cX0_put 10 = .ok (.ireturn, 1) := by decide +kernel
theorem dX0_put_11 : decode cX0_put 11 = .ok (.aload_n 0, 1) := by decide +kernel
theorem dX0_put_12 : decode cX0_put 12 = .ok (.getfield 9, 3) := by decide +kernel
theorem dX0_put_15 : decode cX0_put 15 = .ok (.iload_n 1, 1) := by decide +kernel
theorem dX0_put_16 : decode cX0_put 16 = .ok (.iload_n 2, 1) := by decide +kernel
theorem dX0_put_17 : decode cX0_put 17 = .ok (.i2b, 1) := by decide +kernel
theorem dX0_put_18 : decode cX0_put 18 = .ok (.bastore, 1) := by decide +kernel
theorem dX0_put_19 : decode cX0_put 19 = .ok (.iconst 1, 1) := by decide +kernel
theorem dX0_put_20 : decode cX0_put 20 = .ok (.ireturn, 1) := by decide +kernel
theorem dX0_entry_0 : decode cX0_entry 0 = .ok (.aload_n 0, 1) := by decide +kernel
theorem dX0_entry_1 : decode cX0_entry 1 = .ok (.iload_n 1, 1) := by decide +kernel
theorem dX0_entry_2 : decode cX0_entry 2 = .ok (.iconst 4, 1) := by decide +kernel
theorem dX0_entry_3 : decode cX0_entry 3 = .ok (.invokevirtual 46, 3) := by decide +kernel
theorem dX0_entry_6 : decode cX0_entry 6 = .ok (.ifCond .ne 5, 3) := by decide +kernel
theorem dX0_entry_9 : decode cX0_entry 9 = .ok (.iconst 0, 1) := by decide +kernel
theorem dX0_entry_10 : decode cX0_entry 10 = .ok (.ireturn, 1) := by decide +kernel
theorem dX0_entry_11 : decode cX0_entry 11 = .ok (.iconst 0, 1) := by decide +kernel
theorem dX0_entry_12 : decode cX0_entry 12 = .ok (.istore_n 3, 1) := by decide +kernel
theorem dX0_entry_13 : decode cX0_entry 13 = .ok (.iload_n 3, 1) := by decide +kernel
theorem dX0_entry_14 : decode cX0_entry 14 = .ok (.iconst 4, 1) := by decide +kernel
theorem dX0_entry_15 : decode cX0_entry 15 = .ok (.if_icmp .ge 24, 3) := by decide +kernel
theorem dX0_entry_18 : decode cX0_entry 18 = .ok (.aload_n 0, 1) := by decide +kernel
theorem dX0_entry_19 : decode cX0_entry 19 = .ok (.getfield 9, 3) := by decide +kernel
theorem dX0_entry_22 : decode cX0_entry 22 = .ok (.iload_n 1, 1) := by decide +kernel
theorem dX0_entry_23 : decode cX0_entry 23 = .ok (.iload_n 3, 1) := by decide +kernel
theorem dX0_entry_24 : decode cX0_entry 24 = .ok (.iadd, 1) := by decide +kernel
theorem dX0_entry_25 : decode cX0_entry 25 = .ok (.iload_n 2, 1) := by decide +kernel
theorem dX0_entry_26 : decode cX0_entry 26 = .ok (.bipush 8, 2) := by decide +kernel
theorem dX0_entry_28 : decode cX0_entry 28 = .ok (.iload_n 3, 1) := by decide +kernel
theorem dX0_entry_29 : decode cX0_entry 29 = .ok (.imul, 1) := by decide +kernel
theorem dX0_entry_30 : decode cX0_entry 30 = .ok (.iushr, 1) := by decide +kernel
theorem dX0_entry_31 : decode cX0_entry 31 = .ok (.i2b, 1) := by decide +kernel
theorem dX0_entry_32 : decode cX0_entry 32 = .ok (.bastore, 1) := by decide +kernel
theorem dX0_entry_33 : decode cX0_entry 33 = .ok (.iinc 3 1, 3) := by decide +kernel
theorem dX0_entry_36 : decode cX0_entry 36 = .ok (.goto (-23), 3) := by decide +kernel
theorem dX0_entry_39 : decode cX0_entry 39 = .ok (.iconst 1, 1) := by decide +kernel
theorem dX0_entry_40 : decode cX0_entry 40 = .ok (.ireturn, 1) := by decide +kernel
theorem dX0_entryOf_0 : decode cX0_entryOf 0 = .ok (.aload_n 0, 1) := by decide +kernel
theorem dX0_entryOf_1 : decode cX0_entryOf 1 = .ok (.iload_n 1, 1) := by decide +kernel
theorem dX0_entryOf_2 : decode cX0_entryOf 2 = .ok (.iconst 4, 1) := by decide +kernel
theorem dX0_entryOf_3 : decode cX0_entryOf 3 = .ok (.invokevirtual 46, 3) := by decide +kernel
theorem dX0_entryOf_6 : decode cX0_entryOf 6 = .ok (.ifCond .eq 16, 3) := by decide +kernel
theorem dX0_entryOf_9 : decode cX0_entryOf 9 = .ok (.aload_n 0, 1) := by decide +kernel
theorem dX0_entryOf_10 : decode cX0_entryOf 10 = .ok (.iload_n 1, 1) := by decide +kernel
theorem dX0_entryOf_11 : decode cX0_entryOf 11 = .ok (.invokevirtual 50, 3) := by decide +kernel
theorem dX0_entryOf_14 : decode cX0_entryOf 14 = .ok (.i2l, 1) := by decide +kernel
theorem dX0_entryOf_15 : decode cX0_entryOf 15 = .ok (.ldc2_w 54, 3) := by decide +kernel
theorem dX0_entryOf_18 : decode cX0_entryOf 18 = .ok (.land, 1) := by decide +kernel
theorem dX0_entryOf_19 : decode cX0_entryOf 19 = .ok (.goto 6, 3) := by decide +kernel
theorem dX0_entryOf_22 : decode cX0_entryOf 22 = .ok (.ldc2_w 56, 3) := by decide +kernel
theorem dX0_entryOf_25 : decode cX0_entryOf 25 = .ok (.lreturn, 1) := by decide +kernel
theorem dX0_region_0 : decode cX0_region 0 = .ok (.iload_n 1, 1) := by decide +kernel
theorem dX0_region_1 : decode cX0_region 1 = .ok (.ifCond .lt 8, 3) := by decide +kernel
theorem dX0_region_4 : decode cX0_region 4 = .ok (.iload_n 1, 1) := by decide +kernel
theorem dX0_region_5 : decode cX0_region 5 = .ok (.iconst 3, 1) := by decide +kernel
theorem dX0_region_6 : decode cX0_region 6 = .ok (.if_icmp .lt 5, 3) := by decide +kernel
theorem dX0_region_9 : decode cX0_region 9 = .ok (.iconst 0, 1) := by decide +kernel
theorem dX0_region_10 : decode cX0_region 10 = .ok (.ireturn, 1) := by decide +kernel
theorem dX0_region_11 : decode cX0_region 11 = .ok (.aload_n 0, 1) := by decide +kernel
theorem dX0_region_12 : decode cX0_region 12 = .ok (.getfield 13, 3) := by decide +kernel
theorem dX0_region_15 : decode cX0_region 15 = .ok (.iload_n 1, 1) := by decide +kernel
theorem dX0_region_16 : decode cX0_region 16 = .ok (.iload_n 2, 1) := by decide +kernel
theorem dX0_region_17 : decode cX0_region 17 = .ok (.ldc 58, 2) := by decide +kernel
theorem dX0_region_19 : decode cX0_region 19 = .ok (.iand, 1) := by decide +kernel
theorem dX0_region_20 : decode cX0_region 20 = .ok (.iastore, 1) := by decide +kernel
theorem dX0_region_21 : decode cX0_region 21 = .ok (.aload_n 0, 1) := by decide +kernel
theorem dX0_region_22 : decode cX0_region 22 = .ok (.getfield 17, 3) := by decide +kernel
theorem dX0_region_25 : decode cX0_region 25 = .ok (.iload_n 1, 1) := by decide +kernel
theorem dX0_region_26 : decode cX0_region 26 = .ok (.iload_n 3, 1) := by decide +kernel
theorem dX0_region_27 : decode cX0_region 27 = .ok (.ldc 58, 2) := by decide +kernel
theorem dX0_region_29 : decode cX0_region 29 = .ok (.iand, 1) := by decide +kernel
theorem dX0_region_30 : decode cX0_region 30 = .ok (.iastore, 1) := by decide +kernel
theorem dX0_region_31 : decode cX0_region 31 = .ok (.aload_n 0, 1) := by decide +kernel
theorem dX0_region_32 : decode cX0_region 32 = .ok (.iload_n 1, 1) := by decide +kernel
theorem dX0_region_33 : decode cX0_region 33 = .ok (.iconst 2, 1) := by decide +kernel
theorem dX0_region_34 : decode cX0_region 34 = .ok (.if_icmp .ne 8, 3) := by decide +kernel
theorem dX0_region_37 : decode cX0_region 37 = .ok (.bipush 16, 2) := by decide +kernel
theorem dX0_region_39 : decode cX0_region 39 = .ok (.goto 5, 3) := by decide +kernel
theorem dX0_region_42 : decode cX0_region 42 = .ok (.bipush 8, 2) := by decide +kernel
theorem dX0_region_44 : decode cX0_region 44 = .ok (.invokevirtual 59, 3) := by decide +kernel
theorem dX0_region_47 : decode cX0_region 47 = .ok (.iconst 1, 1) := by decide +kernel
theorem dX0_region_48 : decode cX0_region 48 = .ok (.ireturn, 1) := by decide +kernel
theorem dX0_map_0 : decode cX0_map 0 = .ok (.aload_n 0, 1) := by decide +kernel
theorem dX0_map_1 : decode cX0_map 1 = .ok (.iload_n 1, 1) := by decide +kernel
theorem dX0_map_2 : decode cX0_map 2 = .ok (.putfield 20, 3) := by decide +kernel
theorem dX0_map_5 : decode cX0_map 5 = .ok (.aload_n 0, 1) := by decide +kernel
theorem dX0_map_6 : decode cX0_map 6 = .ok (.bipush 16, 2) := by decide +kernel
theorem dX0_map_8 : decode cX0_map 8 = .ok (.invokevirtual 59, 3) := by decide +kernel
theorem dX0_map_11 : decode cX0_map 11 = .ok (.return_, 1) := by decide +kernel
theorem dX0_drop_0 : decode cX0_drop 0 = .ok (.iload_n 1, 1) := by decide +kernel
theorem dX0_drop_1 : decode cX0_drop 1 = .ok (.ldc 58, 2) := by decide +kernel
theorem dX0_drop_3 : decode cX0_drop 3 = .ok (.iand, 1) := by decide +kernel
theorem dX0_drop_4 : decode cX0_drop 4 = .ok (.istore_n 2, 1) := by decide +kernel
theorem dX0_drop_5 : decode cX0_drop 5 = .ok (.iload_n 2, 1) := by decide +kernel
theorem dX0_drop_6 : decode cX0_drop 6 = .ok (.invokestatic 63, 3) := by decide +kernel
theorem dX0_drop_9 : decode cX0_drop 9 = .ok (.istore_n 3, 1) := by decide +kernel
theorem dX0_drop_10 : decode cX0_drop 10 = .ok (.aload_n 0, 1) := by decide +kernel
theorem dX0_drop_11 : decode cX0_drop 11 = .ok (.iload_n 3, 1) := by decide +kernel
theorem dX0_drop_12 : decode cX0_drop 12 = .ok (.iload_n 2, 1) := by decide +kernel
theorem dX0_drop_13 : decode cX0_drop 13 = .ok (.invokevirtual 66, 3) := by decide +kernel
theorem dX0_drop_16 : decode cX0_drop 16 = .ok (.ifCond .ne 5, 3) := by decide +kernel
theorem dX0_drop_19 : decode cX0_drop 19 = .ok (.iconst 0, 1) := by decide +kernel
theorem dX0_drop_20 : decode cX0_drop 20 = .ok (.ireturn, 1) := by decide +kernel
theorem dX0_drop_21 : decode cX0_drop 21 = .ok (.aload_n 0, 1) := by decide +kernel
theorem dX0_drop_22 : decode cX0_drop 22 = .ok (.getfield 28, 3) := by decide +kernel
theorem dX0_drop_25 : decode cX0_drop 25 = .ok (.iload_n 3, 1) := by decide +kernel
theorem dX0_drop_26 : decode cX0_drop 26 = .ok (.iconst (-1), 1) := by decide +kernel
theorem dX0_drop_27 : decode cX0_drop 27 = .ok (.iastore, 1) := by decide +kernel
theorem dX0_drop_28 : decode cX0_drop 28 = .ok (.iconst 1, 1) := by decide +kernel
theorem dX0_drop_29 : decode cX0_drop 29 = .ok (.ireturn, 1) := by decide +kernel
theorem dX0_read_0 : decode cX0_read 0 = .ok (.iload_n 2, 1) := by decide +kernel
theorem dX0_read_1 : decode cX0_read 1 = .ok (.invokestatic 69, 3) := by decide +kernel
theorem dX0_read_4 : decode cX0_read 4 = .ok (.ifCond .ne 7, 3) := by decide +kernel
theorem dX0_read_7 : decode cX0_read 7 = .ok (.ldc2_w 73, 3) := by decide +kernel
theorem dX0_read_10 : decode cX0_read 10 = .ok (.lreturn, 1) := by decide +kernel
theorem dX0_read_11 : decode cX0_read 11 = .ok (.aload_n 0, 1) := by decide +kernel
theorem dX0_read_12 : decode cX0_read 12 = .ok (.iload_n 1, 1) := by decide +kernel
theorem dX0_read_13 : decode cX0_read 13 = .ok (.iload_n 2, 1) := by decide +kernel
theorem dX0_read_14 : decode cX0_read 14 = .ok (.iload_n 3, 1) := by decide +kernel
theorem dX0_read_15 : decode cX0_read 15 = .ok (.iconst 0, 1) := by decide +kernel
theorem dX0_read_16 : decode cX0_read 16 = .ok (.invokevirtual 75, 3) := by decide +kernel
theorem dX0_read_19 : decode cX0_read 19 = .ok (.istore 4, 2) := by decide +kernel
theorem dX0_read_21 : decode cX0_read 21 = .ok (.iload 4, 2) := by decide +kernel
theorem dX0_read_23 : decode cX0_read 23 = .ok (.ifCond .eq 7, 3) := by decide +kernel
theorem dX0_read_26 : decode cX0_read 26 = .ok (.iload 4, 2) := by decide +kernel
theorem dX0_read_28 : decode cX0_read 28 = .ok (.i2l, 1) := by decide +kernel
theorem dX0_read_29 : decode cX0_read 29 = .ok (.lreturn, 1) := by decide +kernel
theorem dX0_read_30 : decode cX0_read 30 = .ok (.lconst 0, 1) := by decide +kernel
theorem dX0_read_31 : decode cX0_read 31 = .ok (.lstore 5, 2) := by decide +kernel
theorem dX0_read_33 : decode cX0_read 33 = .ok (.iconst 0, 1) := by decide +kernel
theorem dX0_read_34 : decode cX0_read 34 = .ok (.istore 7, 2) := by decide +kernel
theorem dX0_read_36 : decode cX0_read 36 = .ok (.iload 7, 2) := by decide +kernel
theorem dX0_read_38 : decode cX0_read 38 = .ok (.iload_n 2, 1) := by decide +kernel
theorem dX0_read_39 : decode cX0_read 39 = .ok (.if_icmp .ge 32, 3) := by decide +kernel
theorem dX0_read_42 : decode cX0_read 42 = .ok (.lload 5, 2) := by decide +kernel
theorem dX0_read_44 : decode cX0_read 44 = .ok (.aload_n 0, 1) := by decide +kernel
theorem dX0_read_45 : decode cX0_read 45 = .ok (.aload_n 0, 1) := by decide +kernel
theorem dX0_read_46 : decode cX0_read 46 = .ok (.getfield 43, 3) := by decide +kernel
theorem dX0_read_49 : decode cX0_read 49 = .ok (.iload 7, 2) := by decide +kernel
theorem dX0_read_51 : decode cX0_read 51 = .ok (.iaload, 1) := by decide +kernel
theorem dX0_read_52 : decode cX0_read 52 = .ok (.invokevirtual 79, 3) := by decide +kernel
theorem dX0_read_55 : decode cX0_read 55 = .ok (.i2l, 1) := by decide +kernel
theorem dX0_read_56 : decode cX0_read 56 = .ok (.bipush 8, 2) := by decide +kernel
theorem dX0_read_58 : decode cX0_read 58 = .ok (.iload 7, 2) := by decide +kernel
theorem dX0_read_60 : decode cX0_read 60 = .ok (.imul, 1) := by decide +kernel
theorem dX0_read_61 : decode cX0_read 61 = .ok (.lshl, 1) := by decide +kernel
theorem dX0_read_62 : decode cX0_read 62 = .ok (.lor, 1) := by decide +kernel
theorem dX0_read_63 : decode cX0_read 63 = .ok (.lstore 5, 2) := by decide +kernel
theorem dX0_read_65 : decode cX0_read 65 = .ok (.iinc 7 1, 3) := by decide +kernel
theorem dX0_read_68 : decode cX0_read 68 = .ok (.goto (-32), 3) := by decide +kernel
theorem dX0_read_71 : decode cX0_read 71 = .ok (.lload 5, 2) := by decide +kernel
theorem dX0_read_73 : decode cX0_read 73 = .ok (.lreturn, 1) := by decide +kernel
theorem dX0_write_0 : decode cX0_write 0 = .ok (.iload_n 2, 1) := by decide +kernel
theorem dX0_write_1 : decode cX0_write 1 = .ok (.invokestatic 69, 3) := by decide +kernel
theorem dX0_write_4 : decode cX0_write 4 = .ok (.ifCond .ne 6, 3) := by decide +kernel
theorem dX0_write_7 : decode cX0_write 7 = .ok (.bipush (-101), 2) := by decide +kernel
theorem dX0_write_9 : decode cX0_write 9 = .ok (.ireturn, 1) := by decide +kernel
theorem dX0_write_10 : decode cX0_write 10 = .ok (.aload_n 0, 1) := by decide +kernel
theorem dX0_write_11 : decode cX0_write 11 = .ok (.iload_n 1, 1) := by decide +kernel
theorem dX0_write_12 : decode cX0_write 12 = .ok (.iload_n 2, 1) := by decide +kernel
theorem dX0_write_13 : decode cX0_write 13 = .ok (.iload 4, 2) := by decide +kernel
theorem dX0_write_15 : decode cX0_write 15 = .ok (.iconst 1, 1) := by decide +kernel
theorem dX0_write_16 : decode cX0_write 16 = .ok (.invokevirtual 75, 3) := by decide +kernel
theorem dX0_write_19 : decode cX0_write 19 = .ok (.istore 5, 2) := by decide +kernel
theorem dX0_write_21 : decode cX0_write 21 = .ok (.iload 5, 2) := by decide +kernel
theorem dX0_write_23 : decode cX0_write 23 = .ok (.ifCond .eq 6, 3) := by decide +kernel
theorem dX0_write_26 : decode cX0_write 26 = .ok (.iload 5, 2) := by decide +kernel
theorem dX0_write_28 : decode cX0_write 28 = .ok (.ireturn, 1) := by decide +kernel
theorem dX0_write_29 : decode cX0_write 29 = .ok (.iconst 0, 1) := by decide +kernel
theorem dX0_write_30 : decode cX0_write 30 = .ok (.istore 6, 2) := by decide +kernel
theorem dX0_write_32 : decode cX0_write 32 = .ok (.iload 6, 2) := by decide +kernel
theorem dX0_write_34 : decode cX0_write 34 = .ok (.iload_n 2, 1) := by decide +kernel
theorem dX0_write_35 : decode cX0_write 35 = .ok (.if_icmp .ge 29, 3) := by decide +kernel
theorem dX0_write_38 : decode cX0_write 38 = .ok (.aload_n 0, 1) := by decide +kernel
theorem dX0_write_39 : decode cX0_write 39 = .ok (.getfield 9, 3) := by decide +kernel
theorem dX0_write_42 : decode cX0_write 42 = .ok (.aload_n 0, 1) := by decide +kernel
theorem dX0_write_43 : decode cX0_write 43 = .ok (.getfield 43, 3) := by decide +kernel
theorem dX0_write_46 : decode cX0_write 46 = .ok (.iload 6, 2) := by decide +kernel
theorem dX0_write_48 : decode cX0_write 48 = .ok (.iaload, 1) := by decide +kernel
theorem dX0_write_49 : decode cX0_write 49 = .ok (.iload_n 3, 1) := by decide +kernel
theorem dX0_write_50 : decode cX0_write 50 = .ok (.bipush 8, 2) := by decide +kernel
theorem dX0_write_52 : decode cX0_write 52 = .ok (.iload 6, 2) := by decide +kernel
theorem dX0_write_54 : decode cX0_write 54 = .ok (.imul, 1) := by decide +kernel
theorem dX0_write_55 : decode cX0_write 55 = .ok (.iushr, 1) := by decide +kernel
theorem dX0_write_56 : decode cX0_write 56 = .ok (.i2b, 1) := by decide +kernel
theorem dX0_write_57 : decode cX0_write 57 = .ok (.bastore, 1) := by decide +kernel
theorem dX0_write_58 : decode cX0_write 58 = .ok (.iinc 6 1, 3) := by decide +kernel
theorem dX0_write_61 : decode cX0_write 61 = .ok (.goto (-29), 3) := by decide +kernel
theorem dX0_write_64 : decode cX0_write 64 = .ok (.iconst 0, 1) := by decide +kernel
theorem dX0_write_65 : decode cX0_write 65 = .ok (.ireturn, 1) := by decide +kernel
theorem dX0_where_0 : decode cX0_where 0 = .ok (.aload_n 0, 1) := by decide +kernel
theorem dX0_where_1 : decode cX0_where 1 = .ok (.iload_n 1, 1) := by decide +kernel
theorem dX0_where_2 : decode cX0_where 2 = .ok (.ldc 58, 2) := by decide +kernel
theorem dX0_where_4 : decode cX0_where 4 = .ok (.iand, 1) := by decide +kernel
theorem dX0_where_5 : decode cX0_where 5 = .ok (.iload_n 2, 1) := by decide +kernel
theorem dX0_where_6 : decode cX0_where 6 = .ok (.iload_n 3, 1) := by decide +kernel
theorem dX0_where_7 : decode cX0_where 7 = .ok (.iconst 0, 1) := by decide +kernel
theorem dX0_where_8 : decode cX0_where 8 = .ok (.invokevirtual 82, 3) := by decide +kernel
theorem dX0_where_11 : decode cX0_where 11 = .ok (.istore 4, 2) := by decide +kernel
theorem dX0_where_13 : decode cX0_where 13 = .ok (.iload 4, 2) := by decide +kernel
theorem dX0_where_15 : decode cX0_where 15 = .ok (.ifCond .ge 6, 3) := by decide +kernel
theorem dX0_where_18 : decode cX0_where 18 = .ok (.iload 4, 2) := by decide +kernel
theorem dX0_where_20 : decode cX0_where 20 = .ok (.ireturn, 1) := by decide +kernel
theorem dX0_where_21 : decode cX0_where 21 = .ok (.aload_n 0, 1) := by decide +kernel
theorem dX0_where_22 : decode cX0_where 22 = .ok (.iload 4, 2) := by decide +kernel
theorem dX0_where_24 : decode cX0_where 24 = .ok (.iconst 1, 1) := by decide +kernel
theorem dX0_where_25 : decode cX0_where 25 = .ok (.invokevirtual 46, 3) := by decide +kernel
theorem dX0_where_28 : decode cX0_where 28 = .ok (.ifCond .eq 8, 3) := by decide +kernel
theorem dX0_where_31 : decode cX0_where 31 = .ok (.iload 4, 2) := by decide +kernel
theorem dX0_where_33 : decode cX0_where 33 = .ok (.goto 5, 3) := by decide +kernel
theorem dX0_where_36 : decode cX0_where 36 = .ok (.bipush (-100), 2) := by decide +kernel
theorem dX0_where_38 : decode cX0_where 38 = .ok (.ireturn, 1) := by decide +kernel
theorem dX0_may_0 : decode cX0_may 0 = .ok (.aload_n 0, 1) := by decide +kernel
theorem dX0_may_1 : decode cX0_may 1 = .ok (.getfield 20, 3) := by decide +kernel
theorem dX0_may_4 : decode cX0_may 4 = .ok (.ifCond .ne 5, 3) := by decide +kernel
theorem dX0_may_7 : decode cX0_may 7 = .ok (.iconst 1, 1) := by decide +kernel
theorem dX0_may_8 : decode cX0_may 8 = .ok (.ireturn, 1) := by decide +kernel
theorem dX0_may_9 : decode cX0_may 9 = .ok (.iload_n 1, 1) := by decide +kernel
theorem dX0_may_10 : decode cX0_may 10 = .ok (.ldc 58, 2) := by decide +kernel
theorem dX0_may_12 : decode cX0_may 12 = .ok (.iand, 1) := by decide +kernel
theorem dX0_may_13 : decode cX0_may 13 = .ok (.istore 4, 2) := by decide +kernel
theorem dX0_may_15 : decode cX0_may 15 = .ok (.iload 4, 2) := by decide +kernel
theorem dX0_may_17 : decode cX0_may 17 = .ok (.invokestatic 63, 3) := by decide +kernel
theorem dX0_may_20 : decode cX0_may 20 = .ok (.istore 5, 2) := by decide +kernel
theorem dX0_may_22 : decode cX0_may 22 = .ok (.aload_n 0, 1) := by decide +kernel
theorem dX0_may_23 : decode cX0_may 23 = .ok (.iload 5, 2) := by decide +kernel
theorem dX0_may_25 : decode cX0_may 25 = .ok (.iload 4, 2) := by decide +kernel
theorem dX0_may_27 : decode cX0_may 27 = .ok (.invokevirtual 66, 3) := by decide +kernel
theorem dX0_may_30 : decode cX0_may 30 = .ok (.ifCond .eq 24, 3) := by decide +kernel
theorem dX0_may_33 : decode cX0_may 33 = .ok (.aload_n 0, 1) := by decide +kernel
theorem dX0_may_34 : decode cX0_may 34 = .ok (.getfield 37, 3) := by decide +kernel
theorem dX0_may_37 : decode cX0_may 37 = .ok (.iload 5, 2) := by decide +kernel
theorem dX0_may_39 : decode cX0_may 39 = .ok (.iaload, 1) := by decide +kernel
theorem dX0_may_40 : decode cX0_may 40 = .ok (.iload_n 2, 1) := by decide +kernel
theorem dX0_may_41 : decode cX0_may 41 = .ok (.iload_n 3, 1) := by decide +kernel
theorem dX0_may_42 : decode cX0_may 42 = .ok (.invokestatic 86, 3) := by decide +kernel
theorem dX0_may_45 : decode cX0_may 45 = .ok (.ifCond .eq 7, 3) := by decide +kernel
theorem dX0_may_48 : decode cX0_may 48 = .ok (.iconst 1, 1) := by decide +kernel
theorem dX0_may_49 : decode cX0_may 49 = .ok (.goto 4, 3) := by decide +kernel
theorem dX0_may_52 : decode cX0_may 52 = .ok (.iconst 0, 1) := by decide +kernel
theorem dX0_may_53 : decode cX0_may 53 = .ok (.ireturn, 1) := by decide +kernel
theorem dX0_may_54 : decode cX0_may 54 = .ok (.aload_n 0, 1) := by decide +kernel
theorem dX0_may_55 : decode cX0_may 55 = .ok (.iload 4, 2) := by decide +kernel
theorem dX0_may_57 : decode cX0_may 57 = .ok (.iload_n 3, 1) := by decide +kernel
theorem dX0_may_58 : decode cX0_may 58 = .ok (.iconst 0, 1) := by decide +kernel
theorem dX0_may_59 : decode cX0_may 59 = .ok (.invokevirtual 90, 3) := by decide +kernel
theorem dX0_may_62 : decode cX0_may 62 = .ok (.istore 6, 2) := by decide +kernel
theorem dX0_may_64 : decode cX0_may 64 = .ok (.iload 6, 2) := by decide +kernel
theorem dX0_may_66 : decode cX0_may 66 = .ok (.ifCond .ge 18, 3) := by decide +kernel
theorem dX0_may_69 : decode cX0_may 69 = .ok (.iload 6, 2) := by decide +kernel
theorem dX0_may_71 : decode cX0_may 71 = .ok (.invokestatic 94, 3) := by decide +kernel
