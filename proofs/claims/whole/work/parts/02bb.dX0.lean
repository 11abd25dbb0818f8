theorem dX0_may_74 : decode cX0_may 74 = .ok (.ifCond .eq 7, 3) := by decide +kernel
theorem dX0_may_77 : decode cX0_may 77 = .ok (.iconst 0, 1) := by decide +kernel
theorem dX0_may_78 : decode cX0_may 78 = .ok (.goto 5, 3) := by decide +kernel
theorem dX0_may_81 : decode cX0_may 81 = .ok (.iload 6, 2) := by decide +kernel
theorem dX0_may_83 : decode cX0_may 83 = .ok (.ireturn, 1) := by decide +kernel
theorem dX0_may_84 : decode cX0_may 84 = .ok (.aload_n 0, 1) := by decide +kernel
theorem dX0_may_85 : decode cX0_may 85 = .ok (.iload 6, 2) := by decide +kernel
theorem dX0_may_87 : decode cX0_may 87 = .ok (.invokevirtual 50, 3) := by decide +kernel
theorem dX0_may_90 : decode cX0_may 90 = .ok (.iload_n 2, 1) := by decide +kernel
theorem dX0_may_91 : decode cX0_may 91 = .ok (.iload_n 3, 1) := by decide +kernel
theorem dX0_may_92 : decode cX0_may 92 = .ok (.invokestatic 86, 3) := by decide +kernel
theorem dX0_may_95 : decode cX0_may 95 = .ok (.ifCond .eq 7, 3) := by decide +kernel
theorem dX0_may_98 : decode cX0_may 98 = .ok (.iconst 1, 1) := by decide +kernel
theorem dX0_may_99 : decode cX0_may 99 = .ok (.goto 4, 3) := by decide +kernel
theorem dX0_may_102 : decode cX0_may 102 = .ok (.iconst 0, 1) := by decide +kernel
theorem dX0_may_103 : decode cX0_may 103 = .ok (.ireturn, 1) := by decide +kernel
theorem dX0_kept_0 : decode cX0_kept 0 = .ok (.iload_n 1, 1) := by decide +kernel
theorem dX0_kept_1 : decode cX0_kept 1 = .ok (.ifCond .lt 18, 3) := by decide +kernel
theorem dX0_kept_4 : decode cX0_kept 4 = .ok (.iload_n 1, 1) := by decide +kernel
theorem dX0_kept_5 : decode cX0_kept 5 = .ok (.bipush 16, 2) := by decide +kernel
theorem dX0_kept_7 : decode cX0_kept 7 = .ok (.if_icmp .ge 12, 3) := by decide +kernel
theorem dX0_kept_10 : decode cX0_kept 10 = .ok (.iload_n 2, 1) := by decide +kernel
theorem dX0_kept_11 : decode cX0_kept 11 = .ok (.ifCond .lt 8, 3) := by decide +kernel
theorem dX0_kept_14 : decode cX0_kept 14 = .ok (.iload_n 2, 1) := by decide +kernel
theorem dX0_kept_15 : decode cX0_kept 15 = .ok (.iconst 2, 1) := by decide +kernel
theorem dX0_kept_16 : decode cX0_kept 16 = .ok (.if_icmp .le 7, 3) := by decide +kernel
theorem dX0_kept_19 : decode cX0_kept 19 = .ok (.ldc2_w 56, 3) := by decide +kernel
theorem dX0_kept_22 : decode cX0_kept 22 = .ok (.lreturn, 1) := by decide +kernel
theorem dX0_kept_23 : decode cX0_kept 23 = .ok (.aload_n 0, 1) := by decide +kernel
theorem dX0_kept_24 : decode cX0_kept 24 = .ok (.getfield 28, 3) := by decide +kernel
theorem dX0_kept_27 : decode cX0_kept 27 = .ok (.iload_n 1, 1) := by decide +kernel
theorem dX0_kept_28 : decode cX0_kept 28 = .ok (.iaload, 1) := by decide +kernel
theorem dX0_kept_29 : decode cX0_kept 29 = .ok (.iconst (-1), 1) := by decide +kernel
theorem dX0_kept_30 : decode cX0_kept 30 = .ok (.if_icmp .eq 7, 3) := by decide +kernel
theorem dX0_kept_33 : decode cX0_kept 33 = .ok (.iconst 1, 1) := by decide +kernel
theorem dX0_kept_34 : decode cX0_kept 34 = .ok (.goto 4, 3) := by decide +kernel
theorem dX0_kept_37 : decode cX0_kept 37 = .ok (.iconst 0, 1) := by decide +kernel
theorem dX0_kept_38 : decode cX0_kept 38 = .ok (.istore_n 3, 1) := by decide +kernel
theorem dX0_kept_39 : decode cX0_kept 39 = .ok (.iload_n 2, 1) := by decide +kernel
theorem dX0_kept_40 : decode cX0_kept 40 = .ok (.ifCond .ne 13, 3) := by decide +kernel
theorem dX0_kept_43 : decode cX0_kept 43 = .ok (.iload_n 3, 1) := by decide +kernel
theorem dX0_kept_44 : decode cX0_kept 44 = .ok (.ifCond .eq 7, 3) := by decide +kernel
theorem dX0_kept_47 : decode cX0_kept 47 = .ok (.lconst 1, 1) := by decide +kernel
theorem dX0_kept_48 : decode cX0_kept 48 = .ok (.goto 4, 3) := by decide +kernel
theorem dX0_kept_51 : decode cX0_kept 51 = .ok (.lconst 0, 1) := by decide +kernel
theorem dX0_kept_52 : decode cX0_kept 52 = .ok (.lreturn, 1) := by decide +kernel
theorem dX0_kept_53 : decode cX0_kept 53 = .ok (.iload_n 3, 1) := by decide +kernel
theorem dX0_kept_54 : decode cX0_kept 54 = .ok (.ifCond .ne 7, 3) := by decide +kernel
theorem dX0_kept_57 : decode cX0_kept 57 = .ok (.ldc2_w 56, 3) := by decide +kernel
theorem dX0_kept_60 : decode cX0_kept 60 = .ok (.lreturn, 1) := by decide +kernel
theorem dX0_kept_61 : decode cX0_kept 61 = .ok (.iload_n 2, 1) := by decide +kernel
theorem dX0_kept_62 : decode cX0_kept 62 = .ok (.iconst 1, 1) := by decide +kernel
theorem dX0_kept_63 : decode cX0_kept 63 = .ok (.if_icmp .ne 16, 3) := by decide +kernel
theorem dX0_kept_66 : decode cX0_kept 66 = .ok (.aload_n 0, 1) := by decide +kernel
theorem dX0_kept_67 : decode cX0_kept 67 = .ok (.getfield 28, 3) := by decide +kernel
theorem dX0_kept_70 : decode cX0_kept 70 = .ok (.iload_n 1, 1) := by decide +kernel
theorem dX0_kept_71 : decode cX0_kept 71 = .ok (.iaload, 1) := by decide +kernel
theorem dX0_kept_72 : decode cX0_kept 72 = .ok (.bipush 16, 2) := by decide +kernel
theorem dX0_kept_74 : decode cX0_kept 74 = .ok (.imul, 1) := by decide +kernel
theorem dX0_kept_75 : decode cX0_kept 75 = .ok (.i2l, 1) := by decide +kernel
theorem dX0_kept_76 : decode cX0_kept 76 = .ok (.goto 14, 3) := by decide +kernel
theorem dX0_kept_79 : decode cX0_kept 79 = .ok (.aload_n 0, 1) := by decide +kernel
theorem dX0_kept_80 : decode cX0_kept 80 = .ok (.getfield 37, 3) := by decide +kernel
theorem dX0_kept_83 : decode cX0_kept 83 = .ok (.iload_n 1, 1) := by decide +kernel
theorem dX0_kept_84 : decode cX0_kept 84 = .ok (.iaload, 1) := by decide +kernel
theorem dX0_kept_85 : decode cX0_kept 85 = .ok (.i2l, 1) := by decide +kernel
theorem dX0_kept_86 : decode cX0_kept 86 = .ok (.ldc2_w 54, 3) := by decide +kernel
theorem dX0_kept_89 : decode cX0_kept 89 = .ok (.land, 1) := by decide +kernel
theorem dX0_kept_90 : decode cX0_kept 90 = .ok (.lreturn, 1) := by decide +kernel
theorem dX0_failed_0 : decode cX0_failed 0 = .ok (.aload_n 0, 1) := by decide +kernel
theorem dX0_failed_1 : decode cX0_failed 1 = .ok (.getfield 24, 3) := by decide +kernel
theorem dX0_failed_4 : decode cX0_failed 4 = .ok (.ireturn, 1) := by decide +kernel
theorem dX0_findPlaces_0 : decode cX0_findPlaces 0 = .ok (.iconst 0, 1) := by decide +kernel
theorem dX0_findPlaces_1 : decode cX0_findPlaces 1 = .ok (.istore 5, 2) := by decide +kernel
theorem dX0_findPlaces_3 : decode cX0_findPlaces 3 = .ok (.iload 5, 2) := by decide +kernel
theorem dX0_findPlaces_5 : decode cX0_findPlaces 5 = .ok (.iload_n 2, 1) := by decide +kernel
theorem dX0_findPlaces_6 : decode cX0_findPlaces 6 = .ok (.if_icmp .ge 89, 3) := by decide +kernel
theorem dX0_findPlaces_9 : decode cX0_findPlaces 9 = .ok (.iload_n 1, 1) := by decide +kernel
theorem dX0_findPlaces_10 : decode cX0_findPlaces 10 = .ok (.iload 5, 2) := by decide +kernel
theorem dX0_findPlaces_12 : decode cX0_findPlaces 12 = .ok (.iadd, 1) := by decide +kernel
theorem dX0_findPlaces_13 : decode cX0_findPlaces 13 = .ok (.ldc 58, 2) := by decide +kernel
theorem dX0_findPlaces_15 : decode cX0_findPlaces 15 = .ok (.iand, 1) := by decide +kernel
theorem dX0_findPlaces_16 : decode cX0_findPlaces 16 = .ok (.istore 6, 2) := by decide +kernel
theorem dX0_findPlaces_18 : decode cX0_findPlaces 18 = .ok (.iload 5, 2) := by decide +kernel
theorem dX0_findPlaces_20 : decode cX0_findPlaces 20 = .ok (.ifCond .le 32, 3) := by decide +kernel
theorem dX0_findPlaces_23 : decode cX0_findPlaces 23 = .ok (.iload 6, 2) := by decide +kernel
theorem dX0_findPlaces_25 : decode cX0_findPlaces 25 = .ok (.invokestatic 97, 3) := by decide +kernel
theorem dX0_findPlaces_28 : decode cX0_findPlaces 28 = .ok (.ifCond .eq 24, 3) := by decide +kernel
theorem dX0_findPlaces_31 : decode cX0_findPlaces 31 = .ok (.aload_n 0, 1) := by decide +kernel
theorem dX0_findPlaces_32 : decode cX0_findPlaces 32 = .ok (.getfield 43, 3) := by decide +kernel
theorem dX0_findPlaces_35 : decode cX0_findPlaces 35 = .ok (.iload 5, 2) := by decide +kernel
theorem dX0_findPlaces_37 : decode cX0_findPlaces 37 = .ok (.aload_n 0, 1) := by decide +kernel
theorem dX0_findPlaces_38 : decode cX0_findPlaces 38 = .ok (.getfield 43, 3) := by decide +kernel
theorem dX0_findPlaces_41 : decode cX0_findPlaces 41 = .ok (.iload 5, 2) := by decide +kernel
theorem dX0_findPlaces_43 : decode cX0_findPlaces 43 = .ok (.iconst 1, 1) := by decide +kernel
theorem dX0_findPlaces_44 : decode cX0_findPlaces 44 = .ok (.isub, 1) := by decide +kernel
theorem dX0_findPlaces_45 : decode cX0_findPlaces 45 = .ok (.iaload, 1) := by decide +kernel
theorem dX0_findPlaces_46 : decode cX0_findPlaces 46 = .ok (.iconst 1, 1) := by decide +kernel
theorem dX0_findPlaces_47 : decode cX0_findPlaces 47 = .ok (.iadd, 1) := by decide +kernel
theorem dX0_findPlaces_48 : decode cX0_findPlaces 48 = .ok (.iastore, 1) := by decide +kernel
theorem dX0_findPlaces_49 : decode cX0_findPlaces 49 = .ok (.goto 40, 3) := by decide +kernel
theorem dX0_findPlaces_52 : decode cX0_findPlaces 52 = .ok (.aload_n 0, 1) := by decide +kernel
theorem dX0_findPlaces_53 : decode cX0_findPlaces 53 = .ok (.iload 6, 2) := by decide +kernel
theorem dX0_findPlaces_55 : decode cX0_findPlaces 55 = .ok (.iload_n 3, 1) := by decide +kernel
theorem dX0_findPlaces_56 : decode cX0_findPlaces 56 = .ok (.iload 4, 2) := by decide +kernel
theorem dX0_findPlaces_58 : decode cX0_findPlaces 58 = .ok (.iconst 1, 1) := by decide +kernel
theorem dX0_findPlaces_59 : decode cX0_findPlaces 59 = .ok (.invokevirtual 82, 3) := by decide +kernel
theorem dX0_findPlaces_62 : decode cX0_findPlaces 62 = .ok (.istore 7, 2) := by decide +kernel
theorem dX0_findPlaces_64 : decode cX0_findPlaces 64 = .ok (.iload 7, 2) := by decide +kernel
theorem dX0_findPlaces_66 : decode cX0_findPlaces 66 = .ok (.ifCond .ge 14, 3) := by decide +kernel
theorem dX0_findPlaces_69 : decode cX0_findPlaces 69 = .ok (.aload_n 0, 1) := by decide +kernel
theorem dX0_findPlaces_70 : decode cX0_findPlaces 70 = .ok (.iload 7, 2) := by decide +kernel
theorem dX0_findPlaces_72 : decode cX0_findPlaces 72 = .ok (.iload 6, 2) := by decide +kernel
theorem dX0_findPlaces_74 : decode cX0_findPlaces 74 = .ok (.invokevirtual 100, 3) := by decide +kernel
theorem dX0_findPlaces_77 : decode cX0_findPlaces 77 = .ok (.iload 7, 2) := by decide +kernel
theorem dX0_findPlaces_79 : decode cX0_findPlaces 79 = .ok (.ireturn, 1) := by decide +kernel
theorem dX0_findPlaces_80 : decode cX0_findPlaces 80 = .ok (.aload_n 0, 1) := by decide +kernel
theorem dX0_findPlaces_81 : decode cX0_findPlaces 81 = .ok (.getfield 43, 3) := by decide +kernel
theorem dX0_findPlaces_84 : decode cX0_findPlaces 84 = .ok (.iload 5, 2) := by decide +kernel
theorem dX0_findPlaces_86 : decode cX0_findPlaces 86 = .ok (.iload 7, 2) := by decide +kernel
theorem dX0_findPlaces_88 : decode cX0_findPlaces 88 = .ok (.iastore, 1) := by decide +kernel
theorem dX0_findPlaces_89 : decode cX0_findPlaces 89 = .ok (.iinc 5 1, 3) := by decide +kernel
theorem dX0_findPlaces_92 : decode cX0_findPlaces 92 = .ok (.goto (-89), 3) := by decide +kernel
theorem dX0_findPlaces_95 : decode cX0_findPlaces 95 = .ok (.iconst 0, 1) := by decide +kernel
theorem dX0_findPlaces_96 : decode cX0_findPlaces 96 = .ok (.istore 5, 2) := by decide +kernel
theorem dX0_findPlaces_98 : decode cX0_findPlaces 98 = .ok (.iload 5, 2) := by decide +kernel
theorem dX0_findPlaces_100 : decode cX0_findPlaces 100 = .ok (.iload_n 2, 1) := by decide +kernel
theorem dX0_findPlaces_101 : decode cX0_findPlaces 101 = .ok (.if_icmp .ge 27, 3) := by decide +kernel
theorem dX0_findPlaces_104 : decode cX0_findPlaces 104 = .ok (.aload_n 0, 1) := by decide +kernel
theorem dX0_findPlaces_105 : decode cX0_findPlaces 105 = .ok (.aload_n 0, 1) := by decide +kernel
theorem dX0_findPlaces_106 : decode cX0_findPlaces 106 = .ok (.getfield 43, 3) := by decide +kernel
theorem dX0_findPlaces_109 : decode cX0_findPlaces 109 = .ok (.iload 5, 2) := by decide +kernel
theorem dX0_findPlaces_111 : decode cX0_findPlaces 111 = .ok (.iaload, 1) := by decide +kernel
theorem dX0_findPlaces_112 : decode cX0_findPlaces 112 = .ok (.iconst 1, 1) := by decide +kernel
theorem dX0_findPlaces_113 : decode cX0_findPlaces 113 = .ok (.invokevirtual 46, 3) := by decide +kernel
theorem dX0_findPlaces_116 : decode cX0_findPlaces 116 = .ok (.ifCond .ne 6, 3) := by decide +kernel
theorem dX0_findPlaces_119 : decode cX0_findPlaces 119 = .ok (.bipush (-100), 2) := by decide +kernel
theorem dX0_findPlaces_121 : decode cX0_findPlaces 121 = .ok (.ireturn, 1) := by decide +kernel
theorem dX0_findPlaces_122 : decode cX0_findPlaces 122 = .ok (.iinc 5 1, 3) := by decide +kernel
theorem dX0_findPlaces_125 : decode cX0_findPlaces 125 = .ok (.goto (-27), 3) := by decide +kernel
theorem dX0_findPlaces_128 : decode cX0_findPlaces 128 = .ok (.iconst 0, 1) := by decide +kernel
theorem dX0_findPlaces_129 : decode cX0_findPlaces 129 = .ok (.ireturn, 1) := by decide +kernel
theorem dX0_noteFault_0 : decode cX0_noteFault 0 = .ok (.iload_n 1, 1) := by decide +kernel
theorem dX0_noteFault_1 : decode cX0_noteFault 1 = .ok (.bipush (-100), 2) := by decide +kernel
theorem dX0_noteFault_3 : decode cX0_noteFault 3 = .ok (.if_icmp .eq 8, 3) := by decide +kernel
theorem dX0_noteFault_6 : decode cX0_noteFault 6 = .ok (.aload_n 0, 1) := by decide +kernel
theorem dX0_noteFault_7 : decode cX0_noteFault 7 = .ok (.iload_n 2, 1) := by decide +kernel
theorem dX0_noteFault_8 : decode cX0_noteFault 8 = .ok (.putfield 24, 3) := by decide +kernel
theorem dX0_noteFault_11 : decode cX0_noteFault 11 = .ok (.return_, 1) := by decide +kernel
theorem dX0_translate_0 : decode cX0_translate 0 = .ok (.aload_n 0, 1) := by decide +kernel
theorem dX0_translate_1 : decode cX0_translate 1 = .ok (.getfield 20, 3) := by decide +kernel
theorem dX0_translate_4 : decode cX0_translate 4 = .ok (.ifCond .ne 5, 3) := by decide +kernel
theorem dX0_translate_7 : decode cX0_translate 7 = .ok (.iload_n 1, 1) := by decide +kernel
theorem dX0_translate_8 : decode cX0_translate 8 = .ok (.ireturn, 1) := by decide +kernel
theorem dX0_translate_9 : decode cX0_translate 9 = .ok (.iload_n 1, 1) := by decide +kernel
theorem dX0_translate_10 : decode cX0_translate 10 = .ok (.invokestatic 63, 3) := by decide +kernel
theorem dX0_translate_13 : decode cX0_translate 13 = .ok (.istore 5, 2) := by decide +kernel
theorem dX0_translate_15 : decode cX0_translate 15 = .ok (.aload_n 0, 1) := by decide +kernel
theorem dX0_translate_16 : decode cX0_translate 16 = .ok (.iload 5, 2) := by decide +kernel
theorem dX0_translate_18 : decode cX0_translate 18 = .ok (.iload_n 1, 1) := by decide +kernel
theorem dX0_translate_19 : decode cX0_translate 19 = .ok (.invokevirtual 66, 3) := by decide +kernel
theorem dX0_translate_22 : decode cX0_translate 22 = .ok (.istore 6, 2) := by decide +kernel
theorem dX0_translate_24 : decode cX0_translate 24 = .ok (.iload 6, 2) := by decide +kernel
theorem dX0_translate_26 : decode cX0_translate 26 = .ok (.ifCond .eq 13, 3) := by decide +kernel
theorem dX0_translate_29 : decode cX0_translate 29 = .ok (.aload_n 0, 1) := by decide +kernel
theorem dX0_translate_30 : decode cX0_translate 30 = .ok (.getfield 40, 3) := by decide +kernel
theorem dX0_translate_33 : decode cX0_translate 33 = .ok (.iload 5, 2) := by decide +kernel
theorem dX0_translate_35 : decode cX0_translate 35 = .ok (.iaload, 1) := by decide +kernel
theorem dX0_translate_36 : decode cX0_translate 36 = .ok (.goto 11, 3) := by decide +kernel
theorem dX0_translate_39 : decode cX0_translate 39 = .ok (.aload_n 0, 1) := by decide +kernel
theorem dX0_translate_40 : decode cX0_translate 40 = .ok (.iload_n 1, 1) := by decide +kernel
theorem dX0_translate_41 : decode cX0_translate 41 = .ok (.iload_n 3, 1) := by decide +kernel
theorem dX0_translate_42 : decode cX0_translate 42 = .ok (.iload 4, 2) := by decide +kernel
theorem dX0_translate_44 : decode cX0_translate 44 = .ok (.invokevirtual 90, 3) := by decide +kernel
theorem dX0_translate_47 : decode cX0_translate 47 = .ok (.istore 7, 2) := by decide +kernel
theorem dX0_translate_49 : decode cX0_translate 49 = .ok (.iload 7, 2) := by decide +kernel
theorem dX0_translate_51 : decode cX0_translate 51 = .ok (.ifCond .ge 6, 3) := by decide +kernel
theorem dX0_translate_54 : decode cX0_translate 54 = .ok (.iload 7, 2) := by decide +kernel
theorem dX0_translate_56 : decode cX0_translate 56 = .ok (.ireturn, 1) := by decide +kernel
theorem dX0_translate_57 : decode cX0_translate 57 = .ok (.iload 6, 2) := by decide +kernel
theorem dX0_translate_59 : decode cX0_translate 59 = .ok (.ifCond .eq 13, 3) := by decide +kernel
theorem dX0_translate_62 : decode cX0_translate 62 = .ok (.aload_n 0, 1) := by decide +kernel
theorem dX0_translate_63 : decode cX0_translate 63 = .ok (.getfield 37, 3) := by decide +kernel
theorem dX0_translate_66 : decode cX0_translate 66 = .ok (.iload 5, 2) := by decide +kernel
theorem dX0_translate_68 : decode cX0_translate 68 = .ok (.iaload, 1) := by decide +kernel
theorem dX0_translate_69 : decode cX0_translate 69 = .ok (.goto 9, 3) := by decide +kernel
theorem dX0_translate_72 : decode cX0_translate 72 = .ok (.aload_n 0, 1) := by decide +kernel
theorem dX0_translate_73 : decode cX0_translate 73 = .ok (.iload 7, 2) := by decide +kernel
theorem dX0_translate_75 : decode cX0_translate 75 = .ok (.invokevirtual 50, 3) := by decide +kernel
theorem dX0_translate_78 : decode cX0_translate 78 = .ok (.istore 8, 2) := by decide +kernel
theorem dX0_translate_80 : decode cX0_translate 80 = .ok (.iload 8, 2) := by decide +kernel
theorem dX0_translate_82 : decode cX0_translate 82 = .ok (.iload_n 2, 1) := by decide +kernel
theorem dX0_translate_83 : decode cX0_translate 83 = .ok (.iload_n 3, 1) := by decide +kernel
theorem dX0_translate_84 : decode cX0_translate 84 = .ok (.invokestatic 86, 3) := by decide +kernel
theorem dX0_translate_87 : decode cX0_translate 87 = .ok (.ifCond .ne 9, 3) := by decide +kernel
theorem dX0_translate_90 : decode cX0_translate 90 = .ok (.iconst 0, 1) := by decide +kernel
theorem dX0_translate_91 : decode cX0_translate 91 = .ok (.iload_n 3, 1) := by decide +kernel
theorem dX0_translate_92 : decode cX0_translate 92 = .ok (.invokestatic 104, 3) := by decide +kernel
theorem dX0_translate_95 : decode cX0_translate 95 = .ok (.ireturn, 1) := by decide +kernel
theorem dX0_translate_96 : decode cX0_translate 96 = .ok (.iload 8, 2) := by decide +kernel
theorem dX0_translate_98 : decode cX0_translate 98 = .ok (.invokestatic 108, 3) := by decide +kernel
theorem dX0_translate_101 : decode cX0_translate 101 = .ok (.ifCond .ne 9, 3) := by decide +kernel
theorem dX0_translate_104 : decode cX0_translate 104 = .ok (.iconst 0, 1) := by decide +kernel
theorem dX0_translate_105 : decode cX0_translate 105 = .ok (.iload_n 3, 1) := by decide +kernel
theorem dX0_translate_106 : decode cX0_translate 106 = .ok (.invokestatic 111, 3) := by decide +kernel
theorem dX0_translate_109 : decode cX0_translate 109 = .ok (.ireturn, 1) := by decide +kernel
theorem dX0_translate_110 : decode cX0_translate 110 = .ok (.iload 4, 2) := by decide +kernel
theorem dX0_translate_112 : decode cX0_translate 112 = .ok (.ifCond .eq 24, 3) := by decide +kernel
theorem dX0_translate_115 : decode cX0_translate 115 = .ok (.aload_n 0, 1) := by decide +kernel
theorem dX0_translate_116 : decode cX0_translate 116 = .ok (.iload 5, 2) := by decide +kernel
theorem dX0_translate_118 : decode cX0_translate 118 = .ok (.iload_n 1, 1) := by decide +kernel
theorem dX0_translate_119 : decode cX0_translate 119 = .ok (.iload 8, 2) := by decide +kernel
theorem dX0_translate_121 : decode cX0_translate 121 = .ok (.iload 7, 2) := by decide +kernel
theorem dX0_translate_123 : decode cX0_translate 123 = .ok (.invokevirtual 114, 3) := by decide +kernel
theorem dX0_translate_126 : decode cX0_translate 126 = .ok (.iload_n 3, 1) := by decide +kernel
theorem dX0_translate_127 : decode cX0_translate 127 = .ok (.ifCond .eq 9, 3) := by decide +kernel
theorem dX0_translate_130 : decode cX0_translate 130 = .ok (.aload_n 0, 1) := by decide +kernel
theorem dX0_translate_131 : decode cX0_translate 131 = .ok (.iload 5, 2) := by decide +kernel
theorem dX0_translate_133 : decode cX0_translate 133 = .ok (.invokevirtual 118, 3) := by decide +kernel
theorem dX0_translate_136 : decode cX0_translate 136 = .ok (.iload 8, 2) := by decide +kernel
theorem dX0_translate_138 : decode cX0_translate 138 = .ok (.iload_n 1, 1) := by decide +kernel
theorem dX0_translate_139 : decode cX0_translate 139 = .ok (.invokestatic 121, 3) := by decide +kernel
theorem dX0_translate_142 : decode cX0_translate 142 = .ok (.ireturn, 1) := by decide +kernel
theorem dX0_placeOfEntry_0 : decode cX0_placeOfEntry 0 = .ok (.iload_n 1, 1) := by decide +kernel
theorem dX0_placeOfEntry_1 : decode cX0_placeOfEntry 1 = .ok (.invokestatic 125, 3) := by decide +kernel
theorem dX0_placeOfEntry_4 : decode cX0_placeOfEntry 4 = .ok (.istore 4, 2) := by decide +kernel
theorem dX0_placeOfEntry_6 : decode cX0_placeOfEntry 6 = .ok (.iload_n 1, 1) := by decide +kernel
theorem dX0_placeOfEntry_7 : decode cX0_placeOfEntry 7 = .ok (.invokestatic 128, 3) := by decide +kernel
theorem dX0_placeOfEntry_10 : decode cX0_placeOfEntry 10 = .ok (.istore 5, 2) := by decide +kernel
theorem dX0_placeOfEntry_12 : decode cX0_placeOfEntry 12 = .ok (.aload_n 0, 1) := by decide +kernel
theorem dX0_placeOfEntry_13 : decode cX0_placeOfEntry 13 = .ok (.iload 4, 2) := by decide +kernel
theorem dX0_placeOfEntry_15 : decode cX0_placeOfEntry 15 = .ok (.iload 5, 2) := by decide +kernel
theorem dX0_placeOfEntry_17 : decode cX0_placeOfEntry 17 = .ok (.invokevirtual 131, 3) := by decide +kernel
theorem dX0_placeOfEntry_20 : decode cX0_placeOfEntry 20 = .ok (.ifCond .ne 9, 3) := by decide +kernel
theorem dX0_placeOfEntry_23 : decode cX0_placeOfEntry 23 = .ok (.iconst 1, 1) := by decide +kernel
theorem dX0_placeOfEntry_24 : decode cX0_placeOfEntry 24 = .ok (.iload_n 2, 1) := by decide +kernel
theorem dX0_placeOfEntry_25 : decode cX0_placeOfEntry 25 = .ok (.invokestatic 104, 3) := by decide +kernel
theorem dX0_placeOfEntry_28 : decode cX0_placeOfEntry 28 = .ok (.ireturn, 1) := by decide +kernel
theorem dX0_placeOfEntry_29 : decode cX0_placeOfEntry 29 = .ok (.aload_n 0, 1) := by decide +kernel
theorem dX0_placeOfEntry_30 : decode cX0_placeOfEntry 30 = .ok (.getfield 13, 3) := by decide +kernel
theorem dX0_placeOfEntry_33 : decode cX0_placeOfEntry 33 = .ok (.iload 4, 2) := by decide +kernel
theorem dX0_placeOfEntry_35 : decode cX0_placeOfEntry 35 = .ok (.iaload, 1) := by decide +kernel
theorem dX0_placeOfEntry_36 : decode cX0_placeOfEntry 36 = .ok (.iconst 4, 1) := by decide +kernel
theorem dX0_placeOfEntry_37 : decode cX0_placeOfEntry 37 = .ok (.iload 5, 2) := by decide +kernel
theorem dX0_placeOfEntry_39 : decode cX0_placeOfEntry 39 = .ok (.imul, 1) := by decide +kernel
theorem dX0_placeOfEntry_40 : decode cX0_placeOfEntry 40 = .ok (.iadd, 1) := by decide +kernel
theorem dX0_placeOfEntry_41 : decode cX0_placeOfEntry 41 = .ok (.istore 6, 2) := by decide +kernel
theorem dX0_placeOfEntry_43 : decode cX0_placeOfEntry 43 = .ok (.iload 4, 2) := by decide +kernel
theorem dX0_placeOfEntry_45 : decode cX0_placeOfEntry 45 = .ok (.iconst 2, 1) := by decide +kernel
theorem dX0_placeOfEntry_46 : decode cX0_placeOfEntry 46 = .ok (.if_icmp .ne 8, 3) := by decide +kernel
theorem dX0_placeOfEntry_49 : decode cX0_placeOfEntry 49 = .ok (.iload 6, 2) := by decide +kernel
theorem dX0_placeOfEntry_51 : decode cX0_placeOfEntry 51 = .ok (.goto 14, 3) := by decide +kernel
theorem dX0_placeOfEntry_54 : decode cX0_placeOfEntry 54 = .ok (.aload_n 0, 1) := by decide +kernel
theorem dX0_placeOfEntry_55 : decode cX0_placeOfEntry 55 = .ok (.iload 6, 2) := by decide +kernel
theorem dX0_placeOfEntry_57 : decode cX0_placeOfEntry 57 = .ok (.ldc 58, 2) := by decide +kernel
theorem dX0_placeOfEntry_59 : decode cX0_placeOfEntry 59 = .ok (.iand, 1) := by decide +kernel
theorem dX0_placeOfEntry_60 : decode cX0_placeOfEntry 60 = .ok (.iload_n 2, 1) := by decide +kernel
theorem dX0_placeOfEntry_61 : decode cX0_placeOfEntry 61 = .ok (.iload_n 3, 1) := by decide +kernel
theorem dX0_placeOfEntry_62 : decode cX0_placeOfEntry 62 = .ok (.invokevirtual 134, 3) := by decide +kernel
theorem dX0_placeOfEntry_65 : decode cX0_placeOfEntry 65 = .ok (.istore 7, 2) := by decide +kernel
theorem dX0_placeOfEntry_67 : decode cX0_placeOfEntry 67 = .ok (.iload 7, 2) := by decide +kernel
theorem dX0_placeOfEntry_69 : decode cX0_placeOfEntry 69 = .ok (.ifCond .ge 6, 3) := by decide +kernel
theorem dX0_placeOfEntry_72 : decode cX0_placeOfEntry 72 = .ok (.iload 7, 2) := by decide +kernel
theorem dX0_placeOfEntry_74 : decode cX0_placeOfEntry 74 = .ok (.ireturn, 1) := by decide +kernel
theorem dX0_placeOfEntry_75 : decode cX0_placeOfEntry 75 = .ok (.aload_n 0, 1) := by decide +kernel
theorem dX0_placeOfEntry_76 : decode cX0_placeOfEntry 76 = .ok (.iload 7, 2) := by decide +kernel
theorem dX0_placeOfEntry_78 : decode cX0_placeOfEntry 78 = .ok (.iconst 4, 1) := by decide +kernel
theorem dX0_placeOfEntry_79 : decode cX0_placeOfEntry 79 = .ok (.invokevirtual 46, 3) := by decide +kernel
theorem dX0_placeOfEntry_82 : decode cX0_placeOfEntry 82 = .ok (.ifCond .eq 8, 3) := by decide +kernel
theorem dX0_placeOfEntry_85 : decode cX0_placeOfEntry 85 = .ok (.iload 7, 2) := by decide +kernel
theorem dX0_placeOfEntry_87 : decode cX0_placeOfEntry 87 = .ok (.goto 5, 3) := by decide +kernel
theorem dX0_placeOfEntry_90 : decode cX0_placeOfEntry 90 = .ok (.bipush (-100), 2) := by decide +kernel
theorem dX0_placeOfEntry_92 : decode cX0_placeOfEntry 92 = .ok (.ireturn, 1) := by decide +kernel
theorem dX0_placeThroughS_0 : decode cX0_placeThroughS 0 = .ok (.iload_n 1, 1) := by decide +kernel
theorem dX0_placeThroughS_1 : decode cX0_placeThroughS 1 = .ok (.invokestatic 125, 3) := by decide +kernel
theorem dX0_placeThroughS_4 : decode cX0_placeThroughS 4 = .ok (.iconst 2, 1) := by decide +kernel
theorem dX0_placeThroughS_5 : decode cX0_placeThroughS 5 = .ok (.if_icmp .ne 15, 3) := by decide +kernel
theorem dX0_placeThroughS_8 : decode cX0_placeThroughS 8 = .ok (.aload_n 0, 1) := by decide +kernel
theorem dX0_placeThroughS_9 : decode cX0_placeThroughS 9 = .ok (.iconst 2, 1) := by decide +kernel
theorem dX0_placeThroughS_10 : decode cX0_placeThroughS 10 = .ok (.iload_n 1, 1) := by decide +kernel
theorem dX0_placeThroughS_11 : decode cX0_placeThroughS 11 = .ok (.invokestatic 128, 3) := by decide +kernel
theorem dX0_placeThroughS_14 : decode cX0_placeThroughS 14 = .ok (.invokevirtual 131, 3) := by decide +kernel
theorem dX0_placeThroughS_17 : decode cX0_placeThroughS 17 = .ok (.ifCond .ne 9, 3) := by decide +kernel
theorem dX0_placeThroughS_20 : decode cX0_placeThroughS 20 = .ok (.iconst 3, 1) := by decide +kernel
theorem dX0_placeThroughS_21 : decode cX0_placeThroughS 21 = .ok (.iload_n 2, 1) := by decide +kernel
theorem dX0_placeThroughS_22 : decode cX0_placeThroughS 22 = .ok (.invokestatic 104, 3) := by decide +kernel
theorem dX0_placeThroughS_25 : decode cX0_placeThroughS 25 = .ok (.ireturn, 1) := by decide +kernel
theorem dX0_placeThroughS_26 : decode cX0_placeThroughS 26 = .ok (.iload_n 1, 1) := by decide +kernel
theorem dX0_placeThroughS_27 : decode cX0_placeThroughS 27 = .ok (.invokestatic 63, 3) := by decide +kernel
theorem dX0_placeThroughS_30 : decode cX0_placeThroughS 30 = .ok (.istore 4, 2) := by decide +kernel
theorem dX0_placeThroughS_32 : decode cX0_placeThroughS 32 = .ok (.aload_n 0, 1) := by decide +kernel
theorem dX0_placeThroughS_33 : decode cX0_placeThroughS 33 = .ok (.iload 4, 2) := by decide +kernel
theorem dX0_placeThroughS_35 : decode cX0_placeThroughS 35 = .ok (.iload_n 1, 1) := by decide +kernel
theorem dX0_placeThroughS_36 : decode cX0_placeThroughS 36 = .ok (.invokevirtual 66, 3) := by decide +kernel
theorem dX0_placeThroughS_39 : decode cX0_placeThroughS 39 = .ok (.ifCond .eq 15, 3) := by decide +kernel
theorem dX0_placeThroughS_42 : decode cX0_placeThroughS 42 = .ok (.aload_n 0, 1) := by decide +kernel
theorem dX0_placeThroughS_43 : decode cX0_placeThroughS 43 = .ok (.getfield 37, 3) := by decide +kernel
theorem dX0_placeThroughS_46 : decode cX0_placeThroughS 46 = .ok (.iload 4, 2) := by decide +kernel
theorem dX0_placeThroughS_48 : decode cX0_placeThroughS 48 = .ok (.iaload, 1) := by decide +kernel
theorem dX0_placeThroughS_49 : decode cX0_placeThroughS 49 = .ok (.iload_n 1, 1) := by decide +kernel
theorem dX0_placeThroughS_50 : decode cX0_placeThroughS 50 = .ok (.invokestatic 121, 3) := by decide +kernel
theorem dX0_placeThroughS_53 : decode cX0_placeThroughS 53 = .ok (.ireturn, 1) := by decide +kernel
theorem dX0_placeThroughS_54 : decode cX0_placeThroughS 54 = .ok (.aload_n 0, 1) := by decide +kernel
theorem dX0_placeThroughS_55 : decode cX0_placeThroughS 55 = .ok (.getfield 13, 3) := by decide +kernel
theorem dX0_placeThroughS_58 : decode cX0_placeThroughS 58 = .ok (.iconst 2, 1) := by decide +kernel
theorem dX0_placeThroughS_59 : decode cX0_placeThroughS 59 = .ok (.iaload, 1) := by decide +kernel
theorem dX0_placeThroughS_60 : decode cX0_placeThroughS 60 = .ok (.iconst 4, 1) := by decide +kernel
theorem dX0_placeThroughS_61 : decode cX0_placeThroughS 61 = .ok (.iload_n 1, 1) := by decide +kernel
theorem dX0_placeThroughS_62 : decode cX0_placeThroughS 62 = .ok (.invokestatic 128, 3) := by decide +kernel
theorem dX0_placeThroughS_65 : decode cX0_placeThroughS 65 = .ok (.imul, 1) := by decide +kernel
