theorem dX6_become_2 : decode cX6_become 2 = .ok (.putfield 9, 3) := by decide +kernel
theorem dX6_become_5 : decode cX6_become 5 = .ok (.aload_n 0, 1) := by decide +kernel
theorem dX6_become_6 : decode cX6_become 6 = .ok (.iload_n 1, 1) := by decide +kernel
theorem dX6_become_7 : decode cX6_become 7 = .ok (.iconst (-1), 1) := by decide +kernel
theorem dX6_become_8 : decode cX6_become 8 = .ok (.if_icmp .ne 7, 3) := by decide +kernel
theorem dX6_become_11 : decode cX6_become 11 = .ok (.iconst 0, 1) := by decide +kernel
theorem dX6_become_12 : decode cX6_become 12 = .ok (.goto 4, 3) := by decide +kernel
theorem dX6_become_15 : decode cX6_become 15 = .ok (.iload_n 2, 1) := by decide +kernel
theorem dX6_become_16 : decode cX6_become 16 = .ok (.putfield 19, 3) := by decide +kernel
theorem dX6_become_19 : decode cX6_become 19 = .ok (.aload_n 0, 1) := by decide +kernel
theorem dX6_become_20 : decode cX6_become 20 = .ok (.getfield 15, 3) := by decide +kernel
theorem dX6_become_23 : decode cX6_become 23 = .ok (.lconst 0, 1) := by decide +kernel
theorem dX6_become_24 : decode cX6_become 24 = .ok (.invokestatic 22, 3) := by decide +kernel
theorem dX6_become_27 : decode cX6_become 27 = .ok (.return_, 1) := by decide +kernel
theorem dX6_isEmpty_0 : decode cX6_isEmpty 0 = .ok (.aload_n 0, 1) := by decide +kernel
theorem dX6_isEmpty_1 : decode cX6_isEmpty 1 = .ok (.getfield 9, 3) := by decide +kernel
theorem dX6_isEmpty_4 : decode cX6_isEmpty 4 = .ok (.iconst (-1), 1) := by decide +kernel
theorem dX6_isEmpty_5 : decode cX6_isEmpty 5 = .ok (.if_icmp .ne 7, 3) := by decide +kernel
theorem dX6_isEmpty_8 : decode cX6_isEmpty 8 = .ok (.iconst 1, 1) := by decide +kernel
theorem dX6_isEmpty_9 : decode cX6_isEmpty 9 = .ok (.goto 4, 3) := by decide +kernel
theorem dX6_isEmpty_12 : decode cX6_isEmpty 12 = .ok (.iconst 0, 1) := by decide +kernel
theorem dX6_isEmpty_13 : decode cX6_isEmpty 13 = .ok (.ireturn, 1) := by decide +kernel
theorem dX6_has_0 : decode cX6_has 0 = .ok (.iload_n 1, 1) := by decide +kernel
theorem dX6_has_1 : decode cX6_has 1 = .ok (.iconst 0, 1) := by decide +kernel
theorem dX6_has_2 : decode cX6_has 2 = .ok (.aload_n 0, 1) := by decide +kernel
theorem dX6_has_3 : decode cX6_has 3 = .ok (.getfield 19, 3) := by decide +kernel
theorem dX6_has_6 : decode cX6_has 6 = .ok (.iconst 1, 1) := by decide +kernel
theorem dX6_has_7 : decode cX6_has 7 = .ok (.isub, 1) := by decide +kernel
theorem dX6_has_8 : decode cX6_has 8 = .ok (.invokestatic 28, 3) := by decide +kernel
theorem dX6_has_11 : decode cX6_has 11 = .ok (.ireturn, 1) := by decide +kernel
theorem dX6_hasRun_0 : decode cX6_hasRun 0 = .ok (.iload_n 2, 1) := by decide +kernel
theorem dX6_hasRun_1 : decode cX6_hasRun 1 = .ok (.ifCond .lt 29, 3) := by decide +kernel
theorem dX6_hasRun_4 : decode cX6_hasRun 4 = .ok (.iload_n 1, 1) := by decide +kernel
theorem dX6_hasRun_5 : decode cX6_hasRun 5 = .ok (.ifCond .lt 25, 3) := by decide +kernel
theorem dX6_hasRun_8 : decode cX6_hasRun 8 = .ok (.iload_n 1, 1) := by decide +kernel
theorem dX6_hasRun_9 : decode cX6_hasRun 9 = .ok (.aload_n 0, 1) := by decide +kernel
theorem dX6_hasRun_10 : decode cX6_hasRun 10 = .ok (.getfield 19, 3) := by decide +kernel
theorem dX6_hasRun_13 : decode cX6_hasRun 13 = .ok (.if_icmp .gt 17, 3) := by decide +kernel
theorem dX6_hasRun_16 : decode cX6_hasRun 16 = .ok (.iload_n 2, 1) := by decide +kernel
theorem dX6_hasRun_17 : decode cX6_hasRun 17 = .ok (.aload_n 0, 1) := by decide +kernel
theorem dX6_hasRun_18 : decode cX6_hasRun 18 = .ok (.getfield 19, 3) := by decide +kernel
theorem dX6_hasRun_21 : decode cX6_hasRun 21 = .ok (.iload_n 1, 1) := by decide +kernel
theorem dX6_hasRun_22 : decode cX6_hasRun 22 = .ok (.isub, 1) := by decide +kernel
theorem dX6_hasRun_23 : decode cX6_hasRun 23 = .ok (.if_icmp .gt 7, 3) := by decide +kernel
theorem dX6_hasRun_26 : decode cX6_hasRun 26 = .ok (.iconst 1, 1) := by decide +kernel
theorem dX6_hasRun_27 : decode cX6_hasRun 27 = .ok (.goto 4, 3) := by decide +kernel
theorem dX6_hasRun_30 : decode cX6_hasRun 30 = .ok (.iconst 0, 1) := by decide +kernel
theorem dX6_hasRun_31 : decode cX6_hasRun 31 = .ok (.ireturn, 1) := by decide +kernel
theorem dX6_put_0 : decode cX6_put 0 = .ok (.aload_n 0, 1) := by decide +kernel
theorem dX6_put_1 : decode cX6_put 1 = .ok (.getfield 15, 3) := by decide +kernel
theorem dX6_put_4 : decode cX6_put 4 = .ok (.iload_n 1, 1) := by decide +kernel
theorem dX6_put_5 : decode cX6_put 5 = .ok (.aload_n 0, 1) := by decide +kernel
theorem dX6_put_6 : decode cX6_put 6 = .ok (.lload_n 2, 1) := by decide +kernel
theorem dX6_put_7 : decode cX6_put 7 = .ok (.invokevirtual 32, 3) := by decide +kernel
theorem dX6_put_10 : decode cX6_put 10 = .ok (.lastore, 1) := by decide +kernel
theorem dX6_put_11 : decode cX6_put 11 = .ok (.return_, 1) := by decide +kernel
theorem dX6_cut_0 : decode cX6_cut 0 = .ok (.aload_n 0, 1) := by decide +kernel
theorem dX6_cut_1 : decode cX6_cut 1 = .ok (.getfield 9, 3) := by decide +kernel
theorem dX6_cut_4 : decode cX6_cut 4 = .ok (.tableswitch 62 0 4 #[36, 41, 46, 62, 50], 36) := by decide +kernel
theorem dX6_cut_40 : decode cX6_cut 40 = .ok (.lload_n 1, 1) := by decide +kernel
theorem dX6_cut_41 : decode cX6_cut 41 = .ok (.l2i, 1) := by decide +kernel
theorem dX6_cut_42 : decode cX6_cut 42 = .ok (.i2b, 1) := by decide +kernel
theorem dX6_cut_43 : decode cX6_cut 43 = .ok (.i2l, 1) := by decide +kernel
theorem dX6_cut_44 : decode cX6_cut 44 = .ok (.lreturn, 1) := by decide +kernel
theorem dX6_cut_45 : decode cX6_cut 45 = .ok (.lload_n 1, 1) := by decide +kernel
theorem dX6_cut_46 : decode cX6_cut 46 = .ok (.l2i, 1) := by decide +kernel
theorem dX6_cut_47 : decode cX6_cut 47 = .ok (.i2s, 1) := by decide +kernel
theorem dX6_cut_48 : decode cX6_cut 48 = .ok (.i2l, 1) := by decide +kernel
theorem dX6_cut_49 : decode cX6_cut 49 = .ok (.lreturn, 1) := by decide +kernel
theorem dX6_cut_50 : decode cX6_cut 50 = .ok (.lload_n 1, 1) := by decide +kernel
theorem dX6_cut_51 : decode cX6_cut 51 = .ok (.l2i, 1) := by decide +kernel
theorem dX6_cut_52 : decode cX6_cut 52 = .ok (.i2l, 1) := by decide +kernel
theorem dX6_cut_53 : decode cX6_cut 53 = .ok (.lreturn, 1) := by decide +kernel
theorem dX6_cut_54 : decode cX6_cut 54 = .ok (.lload_n 1, 1) := by decide +kernel
theorem dX6_cut_55 : decode cX6_cut 55 = .ok (.lconst 0, 1) := by decide +kernel
theorem dX6_cut_56 : decode cX6_cut 56 = .ok (.lcmp, 1) := by decide +kernel
theorem dX6_cut_57 : decode cX6_cut 57 = .ok (.ifCond .eq 7, 3) := by decide +kernel
theorem dX6_cut_60 : decode cX6_cut 60 = .ok (.lconst 1, 1) := by decide +kernel
theorem dX6_cut_61 : decode cX6_cut 61 = .ok (.goto 4, 3) := by decide +kernel
theorem dX6_cut_64 : decode cX6_cut 64 = .ok (.lconst 0, 1) := by decide +kernel
theorem dX6_cut_65 : decode cX6_cut 65 = .ok (.lreturn, 1) := by decide +kernel
theorem dX6_cut_66 : decode cX6_cut 66 = .ok (.lload_n 1, 1) := by decide +kernel
theorem dX6_cut_67 : decode cX6_cut 67 = .ok (.lreturn, 1) := by decide +kernel
theorem dX7_init_0 : decode cX7_init 0 = .ok (.aload_n 0, 1) := by decide +kernel
theorem dX7_init_1 : decode cX7_init 1 = .ok (.invokespecial 3, 3) := by decide +kernel
theorem dX7_init_4 : decode cX7_init 4 = .ok (.aload_n 0, 1) := by decide +kernel
theorem dX7_init_5 : decode cX7_init 5 = .ok (.new 9, 3) := by decide +kernel
theorem dX7_init_8 : decode cX7_init 8 = .ok (.dup, 1) := by decide +kernel
theorem dX7_init_9 : decode cX7_init 9 = .ok (.invokespecial 11, 3) := by decide +kernel
theorem dX7_init_12 : decode cX7_init 12 = .ok (.putfield 12, 3) := by decide +kernel
theorem dX7_init_15 : decode cX7_init 15 = .ok (.aload_n 0, 1) := by decide +kernel
theorem dX7_init_16 : decode cX7_init 16 = .ok (.new 9, 3) := by decide +kernel
theorem dX7_init_19 : decode cX7_init 19 = .ok (.dup, 1) := by decide +kernel
theorem dX7_init_20 : decode cX7_init 20 = .ok (.invokespecial 11, 3) := by decide +kernel
theorem dX7_init_23 : decode cX7_init 23 = .ok (.putfield 18, 3) := by decide +kernel
theorem dX7_init_26 : decode cX7_init 26 = .ok (.aload_n 0, 1) := by decide +kernel
theorem dX7_init_27 : decode cX7_init 27 = .ok (.new 21, 3) := by decide +kernel
theorem dX7_init_30 : decode cX7_init 30 = .ok (.dup, 1) := by decide +kernel
theorem dX7_init_31 : decode cX7_init 31 = .ok (.invokespecial 23, 3) := by decide +kernel
theorem dX7_init_34 : decode cX7_init 34 = .ok (.putfield 24, 3) := by decide +kernel
theorem dX7_init_37 : decode cX7_init 37 = .ok (.aload_n 0, 1) := by decide +kernel
theorem dX7_init_38 : decode cX7_init 38 = .ok (.new 28, 3) := by decide +kernel
theorem dX7_init_41 : decode cX7_init 41 = .ok (.dup, 1) := by decide +kernel
theorem dX7_init_42 : decode cX7_init 42 = .ok (.invokespecial 30, 3) := by decide +kernel
theorem dX7_init_45 : decode cX7_init 45 = .ok (.putfield 31, 3) := by decide +kernel
theorem dX7_init_48 : decode cX7_init 48 = .ok (.aload_n 0, 1) := by decide +kernel
theorem dX7_init_49 : decode cX7_init 49 = .ok (.bipush 6, 2) := by decide +kernel
theorem dX7_init_51 : decode cX7_init 51 = .ok (.anewarray 28, 3) := by decide +kernel
theorem dX7_init_54 : decode cX7_init 54 = .ok (.putfield 35, 3) := by decide +kernel
theorem dX7_init_57 : decode cX7_init 57 = .ok (.aload_n 0, 1) := by decide +kernel
theorem dX7_init_58 : decode cX7_init 58 = .ok (.new 39, 3) := by decide +kernel
theorem dX7_init_61 : decode cX7_init 61 = .ok (.dup, 1) := by decide +kernel
theorem dX7_init_62 : decode cX7_init 62 = .ok (.invokespecial 41, 3) := by decide +kernel
theorem dX7_init_65 : decode cX7_init 65 = .ok (.putfield 42, 3) := by decide +kernel
theorem dX7_init_68 : decode cX7_init 68 = .ok (.aload_n 0, 1) := by decide +kernel
theorem dX7_init_69 : decode cX7_init 69 = .ok (.new 46, 3) := by decide +kernel
theorem dX7_init_72 : decode cX7_init 72 = .ok (.dup, 1) := by decide +kernel
theorem dX7_init_73 : decode cX7_init 73 = .ok (.aload_n 0, 1) := by decide +kernel
theorem dX7_init_74 : decode cX7_init 74 = .ok (.getfield 42, 3) := by decide +kernel
theorem dX7_init_77 : decode cX7_init 77 = .ok (.invokespecial 48, 3) := by decide +kernel
theorem dX7_init_80 : decode cX7_init 80 = .ok (.putfield 51, 3) := by decide +kernel
theorem dX7_init_83 : decode cX7_init 83 = .ok (.aload_n 0, 1) := by decide +kernel
theorem dX7_init_84 : decode cX7_init 84 = .ok (.iconst 3, 1) := by decide +kernel
theorem dX7_init_85 : decode cX7_init 85 = .ok (.newarray .int, 2) := by decide +kernel
theorem dX7_init_87 : decode cX7_init 87 = .ok (.putfield 55, 3) := by decide +kernel
theorem dX7_init_90 : decode cX7_init 90 = .ok (.aload_n 0, 1) := by decide +kernel
theorem dX7_init_91 : decode cX7_init 91 = .ok (.new 59, 3) := by decide +kernel
theorem dX7_init_94 : decode cX7_init 94 = .ok (.dup, 1) := by decide +kernel
theorem dX7_init_95 : decode cX7_init 95 = .ok (.invokespecial 61, 3) := by decide +kernel
theorem dX7_init_98 : decode cX7_init 98 = .ok (.putfield 62, 3) := by decide +kernel
theorem dX7_init_101 : decode cX7_init 101 = .ok (.aload_n 0, 1) := by decide +kernel
theorem dX7_init_102 : decode cX7_init 102 = .ok (.bipush 6, 2) := by decide +kernel
theorem dX7_init_104 : decode cX7_init 104 = .ok (.anewarray 66, 3) := by decide +kernel
theorem dX7_init_107 : decode cX7_init 107 = .ok (.putfield 68, 3) := by decide +kernel
theorem dX7_init_110 : decode cX7_init 110 = .ok (.iconst 0, 1) := by decide +kernel
theorem dX7_init_111 : decode cX7_init 111 = .ok (.istore_n 1, 1) := by decide +kernel
theorem dX7_init_112 : decode cX7_init 112 = .ok (.iload_n 1, 1) := by decide +kernel
theorem dX7_init_113 : decode cX7_init 113 = .ok (.bipush 6, 2) := by decide +kernel
theorem dX7_init_115 : decode cX7_init 115 = .ok (.if_icmp .ge 22, 3) := by decide +kernel
theorem dX7_init_118 : decode cX7_init 118 = .ok (.aload_n 0, 1) := by decide +kernel
theorem dX7_init_119 : decode cX7_init 119 = .ok (.getfield 35, 3) := by decide +kernel
theorem dX7_init_122 : decode cX7_init 122 = .ok (.iload_n 1, 1) := by decide +kernel
theorem dX7_init_123 : decode cX7_init 123 = .ok (.new 28, 3) := by decide +kernel
theorem dX7_init_126 : decode cX7_init 126 = .ok (.dup, 1) := by decide +kernel
theorem dX7_init_127 : decode cX7_init 127 = .ok (.invokespecial 30, 3) := by decide +kernel
theorem dX7_init_130 : decode cX7_init 130 = .ok (.aastore, 1) := by decide +kernel
theorem dX7_init_131 : decode cX7_init 131 = .ok (.iinc 1 1, 3) := by decide +kernel
theorem dX7_init_134 : decode cX7_init 134 = .ok (.goto (-22), 3) := by decide +kernel
theorem dX7_init_137 : decode cX7_init 137 = .ok (.iconst 0, 1) := by decide +kernel
theorem dX7_init_138 : decode cX7_init 138 = .ok (.istore_n 1, 1) := by decide +kernel
theorem dX7_init_139 : decode cX7_init 139 = .ok (.iload_n 1, 1) := by decide +kernel
theorem dX7_init_140 : decode cX7_init 140 = .ok (.bipush 6, 2) := by decide +kernel
theorem dX7_init_142 : decode cX7_init 142 = .ok (.if_icmp .ge 22, 3) := by decide +kernel
theorem dX7_init_145 : decode cX7_init 145 = .ok (.aload_n 0, 1) := by decide +kernel
theorem dX7_init_146 : decode cX7_init 146 = .ok (.getfield 68, 3) := by decide +kernel
theorem dX7_init_149 : decode cX7_init 149 = .ok (.iload_n 1, 1) := by decide +kernel
theorem dX7_init_150 : decode cX7_init 150 = .ok (.new 66, 3) := by decide +kernel
theorem dX7_init_153 : decode cX7_init 153 = .ok (.dup, 1) := by decide +kernel
theorem dX7_init_154 : decode cX7_init 154 = .ok (.invokespecial 72, 3) := by decide +kernel
theorem dX7_init_157 : decode cX7_init 157 = .ok (.aastore, 1) := by decide +kernel
theorem dX7_init_158 : decode cX7_init 158 = .ok (.iinc 1 1, 3) := by decide +kernel
theorem dX7_init_161 : decode cX7_init 161 = .ok (.goto (-22), 3) := by decide +kernel
theorem dX7_init_164 : decode cX7_init 164 = .ok (.return_, 1) := by decide +kernel
theorem dX7_sort_0 : decode cX7_sort 0 = .ok (.iload_n 1, 1) := by decide +kernel
theorem dX7_sort_1 : decode cX7_sort 1 = .ok (.iconst 0, 1) := by decide +kernel
theorem dX7_sort_2 : decode cX7_sort 2 = .ok (.bipush 6, 2) := by decide +kernel
theorem dX7_sort_4 : decode cX7_sort 4 = .ok (.invokestatic 73, 3) := by decide +kernel
theorem dX7_sort_7 : decode cX7_sort 7 = .ok (.ifCond .ne 5, 3) := by decide +kernel
theorem dX7_sort_10 : decode cX7_sort 10 = .ok (.iconst (-1), 1) := by decide +kernel
theorem dX7_sort_11 : decode cX7_sort 11 = .ok (.ireturn, 1) := by decide +kernel
theorem dX7_sort_12 : decode cX7_sort 12 = .ok (.iload_n 2, 1) := by decide +kernel
theorem dX7_sort_13 : decode cX7_sort 13 = .ok (.invokestatic 77, 3) := by decide +kernel
theorem dX7_sort_16 : decode cX7_sort 16 = .ok (.ifCond .eq 37, 3) := by decide +kernel
theorem dX7_sort_19 : decode cX7_sort 19 = .ok (.iload_n 3, 1) := by decide +kernel
theorem dX7_sort_20 : decode cX7_sort 20 = .ok (.invokestatic 77, 3) := by decide +kernel
theorem dX7_sort_23 : decode cX7_sort 23 = .ok (.ifCond .eq 30, 3) := by decide +kernel
theorem dX7_sort_26 : decode cX7_sort 26 = .ok (.iload 4, 2) := by decide +kernel
theorem dX7_sort_28 : decode cX7_sort 28 = .ok (.invokestatic 77, 3) := by decide +kernel
theorem dX7_sort_31 : decode cX7_sort 31 = .ok (.ifCond .eq 22, 3) := by decide +kernel
theorem dX7_sort_34 : decode cX7_sort 34 = .ok (.iload 5, 2) := by decide +kernel
theorem dX7_sort_36 : decode cX7_sort 36 = .ok (.invokestatic 77, 3) := by decide +kernel
theorem dX7_sort_39 : decode cX7_sort 39 = .ok (.ifCond .eq 14, 3) := by decide +kernel
theorem dX7_sort_42 : decode cX7_sort 42 = .ok (.iload 6, 2) := by decide +kernel
theorem dX7_sort_44 : decode cX7_sort 44 = .ok (.iconst 0, 1) := by decide +kernel
theorem dX7_sort_45 : decode cX7_sort 45 = .ok (.bipush 99, 2) := by decide +kernel
theorem dX7_sort_47 : decode cX7_sort 47 = .ok (.invokestatic 73, 3) := by decide +kernel
theorem dX7_sort_50 : decode cX7_sort 50 = .ok (.ifCond .ne 6, 3) := by decide +kernel
theorem dX7_sort_53 : decode cX7_sort 53 = .ok (.bipush (-2), 2) := by decide +kernel
theorem dX7_sort_55 : decode cX7_sort 55 = .ok (.ireturn, 1) := by decide +kernel
theorem dX7_sort_56 : decode cX7_sort 56 = .ok (.aload_n 0, 1) := by decide +kernel
theorem dX7_sort_57 : decode cX7_sort 57 = .ok (.getfield 12, 3) := by decide +kernel
theorem dX7_sort_60 : decode cX7_sort 60 = .ok (.getfield 81, 3) := by decide +kernel
theorem dX7_sort_63 : decode cX7_sort 63 = .ok (.iconst 5, 1) := by decide +kernel
theorem dX7_sort_64 : decode cX7_sort 64 = .ok (.if_icmp .lt 6, 3) := by decide +kernel
theorem dX7_sort_67 : decode cX7_sort 67 = .ok (.bipush (-4), 2) := by decide +kernel
theorem dX7_sort_69 : decode cX7_sort 69 = .ok (.ireturn, 1) := by decide +kernel
theorem dX7_sort_70 : decode cX7_sort 70 = .ok (.aload_n 0, 1) := by decide +kernel
theorem dX7_sort_71 : decode cX7_sort 71 = .ok (.getfield 12, 3) := by decide +kernel
theorem dX7_sort_74 : decode cX7_sort 74 = .ok (.getfield 81, 3) := by decide +kernel
theorem dX7_sort_77 : decode cX7_sort 77 = .ok (.istore 7, 2) := by decide +kernel
theorem dX7_sort_79 : decode cX7_sort 79 = .ok (.aload_n 0, 1) := by decide +kernel
theorem dX7_sort_80 : decode cX7_sort 80 = .ok (.getfield 12, 3) := by decide +kernel
theorem dX7_sort_83 : decode cX7_sort 83 = .ok (.getfield 85, 3) := by decide +kernel
theorem dX7_sort_86 : decode cX7_sort 86 = .ok (.iload 7, 2) := by decide +kernel
theorem dX7_sort_88 : decode cX7_sort 88 = .ok (.aaload, 1) := by decide +kernel
theorem dX7_sort_89 : decode cX7_sort 89 = .ok (.astore 8, 2) := by decide +kernel
theorem dX7_sort_91 : decode cX7_sort 91 = .ok (.aload 8, 2) := by decide +kernel
theorem dX7_sort_93 : decode cX7_sort 93 = .ok (.iconst 0, 1) := by decide +kernel
theorem dX7_sort_94 : decode cX7_sort 94 = .ok (.iload_n 1, 1) := by decide +kernel
theorem dX7_sort_95 : decode cX7_sort 95 = .ok (.iastore, 1) := by decide +kernel
theorem dX7_sort_96 : decode cX7_sort 96 = .ok (.aload 8, 2) := by decide +kernel
theorem dX7_sort_98 : decode cX7_sort 98 = .ok (.iconst 1, 1) := by decide +kernel
theorem dX7_sort_99 : decode cX7_sort 99 = .ok (.iload_n 2, 1) := by decide +kernel
theorem dX7_sort_100 : decode cX7_sort 100 = .ok (.iastore, 1) := by decide +kernel
theorem dX7_sort_101 : decode cX7_sort 101 = .ok (.aload 8, 2) := by decide +kernel
theorem dX7_sort_103 : decode cX7_sort 103 = .ok (.iconst 2, 1) := by decide +kernel
theorem dX7_sort_104 : decode cX7_sort 104 = .ok (.iload_n 3, 1) := by decide +kernel
theorem dX7_sort_105 : decode cX7_sort 105 = .ok (.iastore, 1) := by decide +kernel
theorem dX7_sort_106 : decode cX7_sort 106 = .ok (.aload 8, 2) := by decide +kernel
theorem dX7_sort_108 : decode cX7_sort 108 = .ok (.iconst 3, 1) := by decide +kernel
theorem dX7_sort_109 : decode cX7_sort 109 = .ok (.iload 4, 2) := by decide +kernel
theorem dX7_sort_111 : decode cX7_sort 111 = .ok (.iastore, 1) := by decide +kernel
theorem dX7_sort_112 : decode cX7_sort 112 = .ok (.aload 8, 2) := by decide +kernel
theorem dX7_sort_114 : decode cX7_sort 114 = .ok (.iconst 4, 1) := by decide +kernel
theorem dX7_sort_115 : decode cX7_sort 115 = .ok (.iload 5, 2) := by decide +kernel
theorem dX7_sort_117 : decode cX7_sort 117 = .ok (.iastore, 1) := by decide +kernel
theorem dX7_sort_118 : decode cX7_sort 118 = .ok (.aload 8, 2) := by decide +kernel
theorem dX7_sort_120 : decode cX7_sort 120 = .ok (.iconst 5, 1) := by decide +kernel
theorem dX7_sort_121 : decode cX7_sort 121 = .ok (.iload 6, 2) := by decide +kernel
theorem dX7_sort_123 : decode cX7_sort 123 = .ok (.iastore, 1) := by decide +kernel
theorem dX7_sort_124 : decode cX7_sort 124 = .ok (.aload_n 0, 1) := by decide +kernel
theorem dX7_sort_125 : decode cX7_sort 125 = .ok (.getfield 12, 3) := by decide +kernel
theorem dX7_sort_128 : decode cX7_sort 128 = .ok (.iload 7, 2) := by decide +kernel
theorem dX7_sort_130 : decode cX7_sort 130 = .ok (.iconst 1, 1) := by decide +kernel
theorem dX7_sort_131 : decode cX7_sort 131 = .ok (.iadd, 1) := by decide +kernel
theorem dX7_sort_132 : decode cX7_sort 132 = .ok (.putfield 81, 3) := by decide +kernel
theorem dX7_sort_135 : decode cX7_sort 135 = .ok (.iload 7, 2) := by decide +kernel
theorem dX7_sort_137 : decode cX7_sort 137 = .ok (.ireturn, 1) := by decide +kernel
theorem dX7_of_0 : decode cX7_of 0 = .ok (.aload_n 0, 1) := by decide +kernel
theorem dX7_of_1 : decode cX7_of 1 = .ok (.iload_n 1, 1) := by decide +kernel
theorem dX7_of_2 : decode cX7_of 2 = .ok (.invokevirtual 89, 3) := by decide +kernel
theorem dX7_of_5 : decode cX7_of 5 = .ok (.ifCond .ne 5, 3) := by decide +kernel
theorem dX7_of_8 : decode cX7_of 8 = .ok (.iconst (-1), 1) := by decide +kernel
theorem dX7_of_9 : decode cX7_of 9 = .ok (.ireturn, 1) := by decide +kernel
theorem dX7_of_10 : decode cX7_of 10 = .ok (.iload_n 2, 1) := by decide +kernel
theorem dX7_of_11 : decode cX7_of 11 = .ok (.iconst 0, 1) := by decide +kernel
theorem dX7_of_12 : decode cX7_of 12 = .ok (.iconst 5, 1) := by decide +kernel
theorem dX7_of_13 : decode cX7_of 13 = .ok (.invokestatic 73, 3) := by decide +kernel
theorem dX7_of_16 : decode cX7_of 16 = .ok (.ifCond .eq 15, 3) := by decide +kernel
theorem dX7_of_19 : decode cX7_of 19 = .ok (.aload_n 0, 1) := by decide +kernel
theorem dX7_of_20 : decode cX7_of 20 = .ok (.getfield 12, 3) := by decide +kernel
theorem dX7_of_23 : decode cX7_of 23 = .ok (.getfield 85, 3) := by decide +kernel
theorem dX7_of_26 : decode cX7_of 26 = .ok (.iload_n 1, 1) := by decide +kernel
theorem dX7_of_27 : decode cX7_of 27 = .ok (.aaload, 1) := by decide +kernel
theorem dX7_of_28 : decode cX7_of 28 = .ok (.iload_n 2, 1) := by decide +kernel
theorem dX7_of_29 : decode cX7_of 29 = .ok (.iaload, 1) := by decide +kernel
theorem dX7_of_30 : decode cX7_of 30 = .ok (.ireturn, 1) := by decide +kernel
theorem dX7_of_31 : decode cX7_of 31 = .ok (.iload_n 2, 1) := by decide +kernel
theorem dX7_of_32 : decode cX7_of 32 = .ok (.bipush 7, 2) := by decide +kernel
theorem dX7_of_34 : decode cX7_of 34 = .ok (.if_icmp .eq 9, 3) := by decide +kernel
theorem dX7_of_37 : decode cX7_of 37 = .ok (.iload_n 2, 1) := by decide +kernel
theorem dX7_of_38 : decode cX7_of 38 = .ok (.bipush 8, 2) := by decide +kernel
theorem dX7_of_40 : decode cX7_of 40 = .ok (.if_icmp .ne 18, 3) := by decide +kernel
theorem dX7_of_43 : decode cX7_of 43 = .ok (.aload_n 0, 1) := by decide +kernel
theorem dX7_of_44 : decode cX7_of 44 = .ok (.getfield 12, 3) := by decide +kernel
theorem dX7_of_47 : decode cX7_of 47 = .ok (.getfield 92, 3) := by decide +kernel
theorem dX7_of_50 : decode cX7_of 50 = .ok (.iload_n 2, 1) := by decide +kernel
theorem dX7_of_51 : decode cX7_of 51 = .ok (.bipush 7, 2) := by decide +kernel
theorem dX7_of_53 : decode cX7_of 53 = .ok (.isub, 1) := by decide +kernel
theorem dX7_of_54 : decode cX7_of 54 = .ok (.aaload, 1) := by decide +kernel
theorem dX7_of_55 : decode cX7_of 55 = .ok (.iload_n 1, 1) := by decide +kernel
theorem dX7_of_56 : decode cX7_of 56 = .ok (.iaload, 1) := by decide +kernel
theorem dX7_of_57 : decode cX7_of 57 = .ok (.ireturn, 1) := by decide +kernel
theorem dX7_of_58 : decode cX7_of 58 = .ok (.aload_n 0, 1) := by decide +kernel
theorem dX7_of_59 : decode cX7_of 59 = .ok (.invokevirtual 95, 3) := by decide +kernel
theorem dX7_of_62 : decode cX7_of 62 = .ok (.iload_n 2, 1) := by decide +kernel
theorem dX7_of_63 : decode cX7_of 63 = .ok (.bipush 6, 2) := by decide +kernel
theorem dX7_of_65 : decode cX7_of 65 = .ok (.if_icmp .ne 13, 3) := by decide +kernel
theorem dX7_of_68 : decode cX7_of 68 = .ok (.aload_n 0, 1) := by decide +kernel
theorem dX7_of_69 : decode cX7_of 69 = .ok (.getfield 42, 3) := by decide +kernel
theorem dX7_of_72 : decode cX7_of 72 = .ok (.getfield 98, 3) := by decide +kernel
theorem dX7_of_75 : decode cX7_of 75 = .ok (.iload_n 1, 1) := by decide +kernel
theorem dX7_of_76 : decode cX7_of 76 = .ok (.iaload, 1) := by decide +kernel
theorem dX7_of_77 : decode cX7_of 77 = .ok (.ireturn, 1) := by decide +kernel
theorem dX7_of_78 : decode cX7_of 78 = .ok (.iload_n 2, 1) := by decide +kernel
theorem dX7_of_79 : decode cX7_of 79 = .ok (.bipush 10, 2) := by decide +kernel
theorem dX7_of_81 : decode cX7_of 81 = .ok (.isub, 1) := by decide +kernel
theorem dX7_of_82 : decode cX7_of 82 = .ok (.invokestatic 101, 3) := by decide +kernel
theorem dX7_of_85 : decode cX7_of 85 = .ok (.ifCond .eq 20, 3) := by decide +kernel
theorem dX7_of_88 : decode cX7_of 88 = .ok (.aload_n 0, 1) := by decide +kernel
theorem dX7_of_89 : decode cX7_of 89 = .ok (.getfield 42, 3) := by decide +kernel
theorem dX7_of_92 : decode cX7_of 92 = .ok (.getfield 104, 3) := by decide +kernel
theorem dX7_of_95 : decode cX7_of 95 = .ok (.iload_n 1, 1) := by decide +kernel
theorem dX7_of_96 : decode cX7_of 96 = .ok (.aaload, 1) := by decide +kernel
theorem dX7_of_97 : decode cX7_of 97 = .ok (.iload_n 2, 1) := by decide +kernel
theorem dX7_of_98 : decode cX7_of 98 = .ok (.bipush 10, 2) := by decide +kernel
theorem dX7_of_100 : decode cX7_of 100 = .ok (.isub, 1) := by decide +kernel
theorem dX7_of_101 : decode cX7_of 101 = .ok (.iaload, 1) := by decide +kernel
theorem dX7_of_102 : decode cX7_of 102 = .ok (.goto 4, 3) := by decide +kernel
theorem dX7_of_105 : decode cX7_of 105 = .ok (.iconst (-1), 1) := by decide +kernel
theorem dX7_of_106 : decode cX7_of 106 = .ok (.ireturn, 1) := by decide +kernel
theorem dX7_herd_0 : decode cX7_herd 0 = .ok (.aload_n 0, 1) := by decide +kernel
theorem dX7_herd_1 : decode cX7_herd 1 = .ok (.iload_n 1, 1) := by decide +kernel
theorem dX7_herd_2 : decode cX7_herd 2 = .ok (.invokevirtual 89, 3) := by decide +kernel
theorem dX7_herd_5 : decode cX7_herd 5 = .ok (.ifCond .eq 12, 3) := by decide +kernel
theorem dX7_herd_8 : decode cX7_herd 8 = .ok (.iload_n 2, 1) := by decide +kernel
theorem dX7_herd_9 : decode cX7_herd 9 = .ok (.iconst 0, 1) := by decide +kernel
theorem dX7_herd_10 : decode cX7_herd 10 = .ok (.iconst 1, 1) := by decide +kernel
theorem dX7_herd_11 : decode cX7_herd 11 = .ok (.invokestatic 73, 3) := by decide +kernel
theorem dX7_herd_14 : decode cX7_herd 14 = .ok (.ifCond .ne 5, 3) := by decide +kernel
theorem dX7_herd_17 : decode cX7_herd 17 = .ok (.iconst (-1), 1) := by decide +kernel
theorem dX7_herd_18 : decode cX7_herd 18 = .ok (.ireturn, 1) := by decide +kernel
theorem dX7_herd_19 : decode cX7_herd 19 = .ok (.iload_n 3, 1) := by decide +kernel
theorem dX7_herd_20 : decode cX7_herd 20 = .ok (.iconst 0, 1) := by decide +kernel
theorem dX7_herd_21 : decode cX7_herd 21 = .ok (.bipush 12, 2) := by decide +kernel
theorem dX7_herd_23 : decode cX7_herd 23 = .ok (.invokestatic 73, 3) := by decide +kernel
theorem dX7_herd_26 : decode cX7_herd 26 = .ok (.ifCond .ne 6, 3) := by decide +kernel
theorem dX7_herd_29 : decode cX7_herd 29 = .ok (.bipush (-2), 2) := by decide +kernel
theorem dX7_herd_31 : decode cX7_herd 31 = .ok (.ireturn, 1) := by decide +kernel
theorem dX7_herd_32 : decode cX7_herd 32 = .ok (.aload_n 0, 1) := by decide +kernel
theorem dX7_herd_33 : decode cX7_herd 33 = .ok (.getfield 12, 3) := by decide +kernel
theorem dX7_herd_36 : decode cX7_herd 36 = .ok (.getfield 92, 3) := by decide +kernel
theorem dX7_herd_39 : decode cX7_herd 39 = .ok (.iload_n 2, 1) := by decide +kernel
theorem dX7_herd_40 : decode cX7_herd 40 = .ok (.aaload, 1) := by decide +kernel
theorem dX7_herd_41 : decode cX7_herd 41 = .ok (.iload_n 1, 1) := by decide +kernel
theorem dX7_herd_42 : decode cX7_herd 42 = .ok (.iaload, 1) := by decide +kernel
theorem dX7_herd_43 : decode cX7_herd 43 = .ok (.istore 4, 2) := by decide +kernel
theorem dX7_herd_45 : decode cX7_herd 45 = .ok (.aload_n 0, 1) := by decide +kernel
theorem dX7_herd_46 : decode cX7_herd 46 = .ok (.getfield 12, 3) := by decide +kernel
theorem dX7_herd_49 : decode cX7_herd 49 = .ok (.getfield 92, 3) := by decide +kernel
theorem dX7_herd_52 : decode cX7_herd 52 = .ok (.iload_n 2, 1) := by decide +kernel
theorem dX7_herd_53 : decode cX7_herd 53 = .ok (.aaload, 1) := by decide +kernel
theorem dX7_herd_54 : decode cX7_herd 54 = .ok (.iload_n 1, 1) := by decide +kernel
theorem dX7_herd_55 : decode cX7_herd 55 = .ok (.iload_n 3, 1) := by decide +kernel
theorem dX7_herd_56 : decode cX7_herd 56 = .ok (.iastore, 1) := by decide +kernel
theorem dX7_herd_57 : decode cX7_herd 57 = .ok (.iload 4, 2) := by decide +kernel
theorem dX7_herd_59 : decode cX7_herd 59 = .ok (.ireturn, 1) := by decide +kernel
theorem dX7_row_0 : decode cX7_row 0 = .ok (.aload_n 0, 1) := by decide +kernel
theorem dX7_row_1 : decode cX7_row 1 = .ok (.iload_n 1, 1) := by decide +kernel
theorem dX7_row_2 : decode cX7_row 2 = .ok (.invokevirtual 89, 3) := by decide +kernel
theorem dX7_row_5 : decode cX7_row 5 = .ok (.ifCond .eq 12, 3) := by decide +kernel
theorem dX7_row_8 : decode cX7_row 8 = .ok (.iload_n 2, 1) := by decide +kernel
theorem dX7_row_9 : decode cX7_row 9 = .ok (.iconst 0, 1) := by decide +kernel
theorem dX7_row_10 : decode cX7_row 10 = .ok (.iconst 2, 1) := by decide +kernel
theorem dX7_row_11 : decode cX7_row 11 = .ok (.invokestatic 73, 3) := by decide +kernel
theorem dX7_row_14 : decode cX7_row 14 = .ok (.ifCond .ne 5, 3) := by decide +kernel
theorem dX7_row_17 : decode cX7_row 17 = .ok (.iconst (-1), 1) := by decide +kernel
theorem dX7_row_18 : decode cX7_row 18 = .ok (.ireturn, 1) := by decide +kernel
theorem dX7_row_19 : decode cX7_row 19 = .ok (.iload_n 3, 1) := by decide +kernel
theorem dX7_row_20 : decode cX7_row 20 = .ok (.invokestatic 77, 3) := by decide +kernel
theorem dX7_row_23 : decode cX7_row 23 = .ok (.ifCond .ne 6, 3) := by decide +kernel
theorem dX7_row_26 : decode cX7_row 26 = .ok (.bipush (-2), 2) := by decide +kernel
theorem dX7_row_28 : decode cX7_row 28 = .ok (.ireturn, 1) := by decide +kernel
theorem dX7_row_29 : decode cX7_row 29 = .ok (.aload_n 0, 1) := by decide +kernel
theorem dX7_row_30 : decode cX7_row 30 = .ok (.getfield 12, 3) := by decide +kernel
theorem dX7_row_33 : decode cX7_row 33 = .ok (.getfield 85, 3) := by decide +kernel
theorem dX7_row_36 : decode cX7_row 36 = .ok (.iload_n 1, 1) := by decide +kernel
theorem dX7_row_37 : decode cX7_row 37 = .ok (.aaload, 1) := by decide +kernel
theorem dX7_row_38 : decode cX7_row 38 = .ok (.iconst 0, 1) := by decide +kernel
theorem dX7_row_39 : decode cX7_row 39 = .ok (.iaload, 1) := by decide +kernel
theorem dX7_row_40 : decode cX7_row 40 = .ok (.bipush 6, 2) := by decide +kernel
theorem dX7_row_42 : decode cX7_row 42 = .ok (.if_icmp .eq 6, 3) := by decide +kernel
theorem dX7_row_45 : decode cX7_row 45 = .ok (.bipush (-3), 2) := by decide +kernel
theorem dX7_row_47 : decode cX7_row 47 = .ok (.ireturn, 1) := by decide +kernel
theorem dX7_row_48 : decode cX7_row 48 = .ok (.aload_n 0, 1) := by decide +kernel
theorem dX7_row_49 : decode cX7_row 49 = .ok (.getfield 12, 3) := by decide +kernel
theorem dX7_row_52 : decode cX7_row 52 = .ok (.getfield 107, 3) := by decide +kernel
theorem dX7_row_55 : decode cX7_row 55 = .ok (.iload_n 1, 1) := by decide +kernel
theorem dX7_row_56 : decode cX7_row 56 = .ok (.aaload, 1) := by decide +kernel
theorem dX7_row_57 : decode cX7_row 57 = .ok (.iload_n 2, 1) := by decide +kernel
theorem dX7_row_58 : decode cX7_row 58 = .ok (.iaload, 1) := by decide +kernel
theorem dX7_row_59 : decode cX7_row 59 = .ok (.istore 4, 2) := by decide +kernel
theorem dX7_row_61 : decode cX7_row 61 = .ok (.aload_n 0, 1) := by decide +kernel
theorem dX7_row_62 : decode cX7_row 62 = .ok (.getfield 12, 3) := by decide +kernel
theorem dX7_row_65 : decode cX7_row 65 = .ok (.getfield 107, 3) := by decide +kernel
theorem dX7_row_68 : decode cX7_row 68 = .ok (.iload_n 1, 1) := by decide +kernel
theorem dX7_row_69 : decode cX7_row 69 = .ok (.aaload, 1) := by decide +kernel
theorem dX7_row_70 : decode cX7_row 70 = .ok (.iload_n 2, 1) := by decide +kernel
theorem dX7_row_71 : decode cX7_row 71 = .ok (.iload_n 3, 1) := by decide +kernel
theorem dX7_row_72 : decode cX7_row 72 = .ok (.iastore, 1) := by decide +kernel
theorem dX7_row_73 : decode cX7_row 73 = .ok (.iload 4, 2) := by decide +kernel
theorem dX7_row_75 : decode cX7_row 75 = .ok (.ireturn, 1) := by decide +kernel
theorem dX7_month_0 : decode cX7_month 0 = .ok (.iload_n 1, 1) := by decide +kernel
theorem dX7_month_1 : decode cX7_month 1 = .ok (.iconst 0, 1) := by decide +kernel
theorem dX7_month_2 : decode cX7_month 2 = .ok (.bipush 11, 2) := by decide +kernel
theorem dX7_month_4 : decode cX7_month 4 = .ok (.invokestatic 73, 3) := by decide +kernel
theorem dX7_month_7 : decode cX7_month 7 = .ok (.ifCond .ne 6, 3) := by decide +kernel
theorem dX7_month_10 : decode cX7_month 10 = .ok (.bipush (-2), 2) := by decide +kernel
theorem dX7_month_12 : decode cX7_month 12 = .ok (.ireturn, 1) := by decide +kernel
theorem dX7_month_13 : decode cX7_month 13 = .ok (.aload_n 0, 1) := by decide +kernel
theorem dX7_month_14 : decode cX7_month 14 = .ok (.getfield 12, 3) := by decide +kernel
theorem dX7_month_17 : decode cX7_month 17 = .ok (.getfield 110, 3) := by decide +kernel
theorem dX7_month_20 : decode cX7_month 20 = .ok (.istore_n 2, 1) := by decide +kernel
theorem dX7_month_21 : decode cX7_month 21 = .ok (.aload_n 0, 1) := by decide +kernel
theorem dX7_month_22 : decode cX7_month 22 = .ok (.getfield 12, 3) := by decide +kernel
theorem dX7_month_25 : decode cX7_month 25 = .ok (.iload_n 1, 1) := by decide +kernel
theorem dX7_month_26 : decode cX7_month 26 = .ok (.putfield 110, 3) := by decide +kernel
theorem dX7_month_29 : decode cX7_month 29 = .ok (.iload_n 2, 1) := by decide +kernel
theorem dX7_month_30 : decode cX7_month 30 = .ok (.ireturn, 1) := by decide +kernel
theorem dX7_tell_0 : decode cX7_tell 0 = .ok (.iload_n 1, 1) := by decide +kernel
theorem dX7_tell_1 : decode cX7_tell 1 = .ok (.invokestatic 101, 3) := by decide +kernel
theorem dX7_tell_4 : decode cX7_tell 4 = .ok (.ifCond .ne 5, 3) := by decide +kernel
theorem dX7_tell_7 : decode cX7_tell 7 = .ok (.iconst (-1), 1) := by decide +kernel
theorem dX7_tell_8 : decode cX7_tell 8 = .ok (.ireturn, 1) := by decide +kernel
theorem dX7_tell_9 : decode cX7_tell 9 = .ok (.iload_n 2, 1) := by decide +kernel
theorem dX7_tell_10 : decode cX7_tell 10 = .ok (.iconst (-1), 1) := by decide +kernel
theorem dX7_tell_11 : decode cX7_tell 11 = .ok (.if_icmp .eq 17, 3) := by decide +kernel
theorem dX7_tell_14 : decode cX7_tell 14 = .ok (.iload_n 2, 1) := by decide +kernel
theorem dX7_tell_15 : decode cX7_tell 15 = .ok (.iconst 0, 1) := by decide +kernel
theorem dX7_tell_16 : decode cX7_tell 16 = .ok (.sipush 999, 3) := by decide +kernel
theorem dX7_tell_19 : decode cX7_tell 19 = .ok (.invokestatic 73, 3) := by decide +kernel
theorem dX7_tell_22 : decode cX7_tell 22 = .ok (.ifCond .ne 6, 3) := by decide +kernel
theorem dX7_tell_25 : decode cX7_tell 25 = .ok (.bipush (-2), 2) := by decide +kernel
theorem dX7_tell_27 : decode cX7_tell 27 = .ok (.ireturn, 1) := by decide +kernel
theorem dX7_tell_28 : decode cX7_tell 28 = .ok (.aload_n 0, 1) := by decide +kernel
theorem dX7_tell_29 : decode cX7_tell 29 = .ok (.getfield 12, 3) := by decide +kernel
theorem dX7_tell_32 : decode cX7_tell 32 = .ok (.getfield 113, 3) := by decide +kernel
theorem dX7_tell_35 : decode cX7_tell 35 = .ok (.iload_n 1, 1) := by decide +kernel
theorem dX7_tell_36 : decode cX7_tell 36 = .ok (.iload_n 2, 1) := by decide +kernel
theorem dX7_tell_37 : decode cX7_tell 37 = .ok (.iastore, 1) := by decide +kernel
theorem dX7_tell_38 : decode cX7_tell 38 = .ok (.iconst 1, 1) := by decide +kernel
theorem dX7_tell_39 : decode cX7_tell 39 = .ok (.ireturn, 1) := by decide +kernel
theorem dX7_feed_0 : decode cX7_feed 0 = .ok (.iload_n 1, 1) := by decide +kernel
theorem dX7_feed_1 : decode cX7_feed 1 = .ok (.iconst 0, 1) := by decide +kernel
theorem dX7_feed_2 : decode cX7_feed 2 = .ok (.bipush 127, 2) := by decide +kernel
theorem dX7_feed_4 : decode cX7_feed 4 = .ok (.invokestatic 73, 3) := by decide +kernel
theorem dX7_feed_7 : decode cX7_feed 7 = .ok (.ifCond .ne 6, 3) := by decide +kernel
theorem dX7_feed_10 : decode cX7_feed 10 = .ok (.bipush (-2), 2) := by decide +kernel
theorem dX7_feed_12 : decode cX7_feed 12 = .ok (.ireturn, 1) := by decide +kernel
theorem dX7_feed_13 : decode cX7_feed 13 = .ok (.aload_n 0, 1) := by decide +kernel
theorem dX7_feed_14 : decode cX7_feed 14 = .ok (.getfield 24, 3) := by decide +kernel
theorem dX7_feed_17 : decode cX7_feed 17 = .ok (.getfield 116, 3) := by decide +kernel
theorem dX7_feed_20 : decode cX7_feed 20 = .ok (.bipush 100, 2) := by decide +kernel
theorem dX7_feed_22 : decode cX7_feed 22 = .ok (.if_icmp .lt 6, 3) := by decide +kernel
theorem dX7_feed_25 : decode cX7_feed 25 = .ok (.bipush (-4), 2) := by decide +kernel
theorem dX7_feed_27 : decode cX7_feed 27 = .ok (.ireturn, 1) := by decide +kernel
theorem dX7_feed_28 : decode cX7_feed 28 = .ok (.aload_n 0, 1) := by decide +kernel
theorem dX7_feed_29 : decode cX7_feed 29 = .ok (.getfield 24, 3) := by decide +kernel
theorem dX7_feed_32 : decode cX7_feed 32 = .ok (.iload_n 1, 1) := by decide +kernel
theorem dX7_feed_33 : decode cX7_feed 33 = .ok (.invokevirtual 119, 3) := by decide +kernel
theorem dX7_feed_36 : decode cX7_feed 36 = .ok (.aload_n 0, 1) := by decide +kernel
theorem dX7_feed_37 : decode cX7_feed 37 = .ok (.getfield 24, 3) := by decide +kernel
theorem dX7_feed_40 : decode cX7_feed 40 = .ok (.getfield 116, 3) := by decide +kernel
theorem dX7_feed_43 : decode cX7_feed 43 = .ok (.ireturn, 1) := by decide +kernel
theorem dX7_fence_0 : decode cX7_fence 0 = .ok (.aload_n 0, 1) := by decide +kernel
theorem dX7_fence_1 : decode cX7_fence 1 = .ok (.getfield 123, 3) := by decide +kernel
theorem dX7_fence_4 : decode cX7_fence 4 = .ok (.bipush 6, 2) := by decide +kernel
theorem dX7_fence_6 : decode cX7_fence 6 = .ok (.if_icmp .lt 6, 3) := by decide +kernel
theorem dX7_fence_9 : decode cX7_fence 9 = .ok (.bipush (-4), 2) := by decide +kernel
theorem dX7_fence_11 : decode cX7_fence 11 = .ok (.ireturn, 1) := by decide +kernel
theorem dX7_fence_12 : decode cX7_fence 12 = .ok (.aload_n 0, 1) := by decide +kernel
theorem dX7_fence_13 : decode cX7_fence 13 = .ok (.getfield 24, 3) := by decide +kernel
theorem dX7_fence_16 : decode cX7_fence 16 = .ok (.aload_n 0, 1) := by decide +kernel
theorem dX7_fence_17 : decode cX7_fence 17 = .ok (.getfield 35, 3) := by decide +kernel
theorem dX7_fence_20 : decode cX7_fence 20 = .ok (.aload_n 0, 1) := by decide +kernel
theorem dX7_fence_21 : decode cX7_fence 21 = .ok (.getfield 123, 3) := by decide +kernel
theorem dX7_fence_24 : decode cX7_fence 24 = .ok (.aaload, 1) := by decide +kernel
theorem dX7_fence_25 : decode cX7_fence 25 = .ok (.invokevirtual 126, 3) := by decide +kernel
theorem dX7_fence_28 : decode cX7_fence 28 = .ok (.istore_n 1, 1) := by decide +kernel
theorem dX7_fence_29 : decode cX7_fence 29 = .ok (.aload_n 0, 1) := by decide +kernel
theorem dX7_fence_30 : decode cX7_fence 30 = .ok (.getfield 24, 3) := by decide +kernel
theorem dX7_fence_33 : decode cX7_fence 33 = .ok (.iconst 0, 1) := by decide +kernel
theorem dX7_fence_34 : decode cX7_fence 34 = .ok (.putfield 116, 3) := by decide +kernel
theorem dX7_fence_37 : decode cX7_fence 37 = .ok (.iload_n 1, 1) := by decide +kernel
theorem dX7_fence_38 : decode cX7_fence 38 = .ok (.ifCond .lt 8, 3) := by decide +kernel
theorem dX7_fence_41 : decode cX7_fence 41 = .ok (.bipush (-10), 2) := by decide +kernel
theorem dX7_fence_43 : decode cX7_fence 43 = .ok (.iload_n 1, 1) := by decide +kernel
theorem dX7_fence_44 : decode cX7_fence 44 = .ok (.isub, 1) := by decide +kernel
theorem dX7_fence_45 : decode cX7_fence 45 = .ok (.ireturn, 1) := by decide +kernel
theorem dX7_fence_46 : decode cX7_fence 46 = .ok (.aload_n 0, 1) := by decide +kernel
theorem dX7_fence_47 : decode cX7_fence 47 = .ok (.getfield 12, 3) := by decide +kernel
theorem dX7_fence_50 : decode cX7_fence 50 = .ok (.aload_n 0, 1) := by decide +kernel
theorem dX7_fence_51 : decode cX7_fence 51 = .ok (.getfield 123, 3) := by decide +kernel
theorem dX7_fence_54 : decode cX7_fence 54 = .ok (.putfield 130, 3) := by decide +kernel
theorem dX7_fence_57 : decode cX7_fence 57 = .ok (.aload_n 0, 1) := by decide +kernel
theorem dX7_fence_58 : decode cX7_fence 58 = .ok (.dup, 1) := by decide +kernel
theorem dX7_fence_59 : decode cX7_fence 59 = .ok (.getfield 123, 3) := by decide +kernel
theorem dX7_fence_62 : decode cX7_fence 62 = .ok (.iconst 1, 1) := by decide +kernel
theorem dX7_fence_63 : decode cX7_fence 63 = .ok (.iadd, 1) := by decide +kernel
theorem dX7_fence_64 : decode cX7_fence 64 = .ok (.putfield 123, 3) := by decide +kernel
theorem dX7_fence_67 : decode cX7_fence 67 = .ok (.aload_n 0, 1) := by decide +kernel
theorem dX7_fence_68 : decode cX7_fence 68 = .ok (.getfield 12, 3) := by decide +kernel
theorem dX7_fence_71 : decode cX7_fence 71 = .ok (.getfield 130, 3) := by decide +kernel
theorem dX7_fence_74 : decode cX7_fence 74 = .ok (.ireturn, 1) := by decide +kernel
theorem dX7_told_0 : decode cX7_told 0 = .ok (.aload_n 0, 1) := by decide +kernel
theorem dX7_told_1 : decode cX7_told 1 = .ok (.invokevirtual 95, 3) := by decide +kernel
theorem dX7_told_4 : decode cX7_told 4 = .ok (.iload_n 1, 1) := by decide +kernel
theorem dX7_told_5 : decode cX7_told 5 = .ok (.tableswitch 66 0 3 #[31, 39, 47, 47], 31) := by decide +kernel
theorem dX7_told_36 : decode cX7_told 36 = .ok (.aload_n 0, 1) := by decide +kernel
theorem dX7_told_37 : decode cX7_told 37 = .ok (.getfield 42, 3) := by decide +kernel
theorem dX7_told_40 : decode cX7_told 40 = .ok (.getfield 133, 3) := by decide +kernel
theorem dX7_told_43 : decode cX7_told 43 = .ok (.ireturn, 1) := by decide +kernel
theorem dX7_told_44 : decode cX7_told 44 = .ok (.aload_n 0, 1) := by decide +kernel
theorem dX7_told_45 : decode cX7_told 45 = .ok (.getfield 12, 3) := by decide +kernel
theorem dX7_told_48 : decode cX7_told 48 = .ok (.getfield 110, 3) := by decide +kernel
theorem dX7_told_51 : decode cX7_told 51 = .ok (.ireturn, 1) := by decide +kernel
theorem dX7_told_52 : decode cX7_told 52 = .ok (.aload_n 0, 1) := by decide +kernel
theorem dX7_told_53 : decode cX7_told 53 = .ok (.getfield 42, 3) := by decide +kernel
theorem dX7_told_56 : decode cX7_told 56 = .ok (.aload_n 0, 1) := by decide +kernel
theorem dX7_told_57 : decode cX7_told 57 = .ok (.getfield 12, 3) := by decide +kernel
theorem dX7_told_60 : decode cX7_told 60 = .ok (.getfield 92, 3) := by decide +kernel
theorem dX7_told_63 : decode cX7_told 63 = .ok (.iload_n 1, 1) := by decide +kernel
theorem dX7_told_64 : decode cX7_told 64 = .ok (.iconst 2, 1) := by decide +kernel
theorem dX7_told_65 : decode cX7_told 65 = .ok (.isub, 1) := by decide +kernel
theorem dX7_told_66 : decode cX7_told 66 = .ok (.aaload, 1) := by decide +kernel
theorem dX7_told_67 : decode cX7_told 67 = .ok (.invokevirtual 136, 3) := by decide +kernel
theorem dX7_told_70 : decode cX7_told 70 = .ok (.ireturn, 1) := by decide +kernel
theorem dX7_told_71 : decode cX7_told 71 = .ok (.aload_n 0, 1) := by decide +kernel
theorem dX7_told_72 : decode cX7_told 72 = .ok (.iload_n 1, 1) := by decide +kernel
theorem dX7_told_73 : decode cX7_told 73 = .ok (.invokevirtual 140, 3) := by decide +kernel
theorem dX7_told_76 : decode cX7_told 76 = .ok (.ireturn, 1) := by decide +kernel
theorem dX7_toldByHole_0 : decode cX7_toldByHole 0 = .ok (.iload_n 1, 1) := by decide +kernel
theorem dX7_toldByHole_1 : decode cX7_toldByHole 1 = .ok (.bipush 10, 2) := by decide +kernel
theorem dX7_toldByHole_3 : decode cX7_toldByHole 3 = .ok (.isub, 1) := by decide +kernel
theorem dX7_toldByHole_4 : decode cX7_toldByHole 4 = .ok (.invokestatic 101, 3) := by decide +kernel
theorem dX7_toldByHole_7 : decode cX7_toldByHole 7 = .ok (.ifCond .eq 24, 3) := by decide +kernel
theorem dX7_toldByHole_10 : decode cX7_toldByHole 10 = .ok (.aload_n 0, 1) := by decide +kernel
theorem dX7_toldByHole_11 : decode cX7_toldByHole 11 = .ok (.getfield 42, 3) := by decide +kernel
theorem dX7_toldByHole_14 : decode cX7_toldByHole 14 = .ok (.aload_n 0, 1) := by decide +kernel
theorem dX7_toldByHole_15 : decode cX7_toldByHole 15 = .ok (.getfield 12, 3) := by decide +kernel
theorem dX7_toldByHole_18 : decode cX7_toldByHole 18 = .ok (.getfield 92, 3) := by decide +kernel
theorem dX7_toldByHole_21 : decode cX7_toldByHole 21 = .ok (.iconst 0, 1) := by decide +kernel
theorem dX7_toldByHole_22 : decode cX7_toldByHole 22 = .ok (.aaload, 1) := by decide +kernel
theorem dX7_toldByHole_23 : decode cX7_toldByHole 23 = .ok (.iload_n 1, 1) := by decide +kernel
theorem dX7_toldByHole_24 : decode cX7_toldByHole 24 = .ok (.bipush 10, 2) := by decide +kernel
theorem dX7_toldByHole_26 : decode cX7_toldByHole 26 = .ok (.isub, 1) := by decide +kernel
theorem dX7_toldByHole_27 : decode cX7_toldByHole 27 = .ok (.invokevirtual 144, 3) := by decide +kernel
theorem dX7_toldByHole_30 : decode cX7_toldByHole 30 = .ok (.ireturn, 1) := by decide +kernel
theorem dX7_toldByHole_31 : decode cX7_toldByHole 31 = .ok (.iload_n 1, 1) := by decide +kernel
theorem dX7_toldByHole_32 : decode cX7_toldByHole 32 = .ok (.bipush 20, 2) := by decide +kernel
theorem dX7_toldByHole_34 : decode cX7_toldByHole 34 = .ok (.isub, 1) := by decide +kernel
theorem dX7_toldByHole_35 : decode cX7_toldByHole 35 = .ok (.invokestatic 101, 3) := by decide +kernel
theorem dX7_toldByHole_38 : decode cX7_toldByHole 38 = .ok (.ifCond .eq 24, 3) := by decide +kernel
theorem dX7_toldByHole_41 : decode cX7_toldByHole 41 = .ok (.aload_n 0, 1) := by decide +kernel
theorem dX7_toldByHole_42 : decode cX7_toldByHole 42 = .ok (.getfield 42, 3) := by decide +kernel
theorem dX7_toldByHole_45 : decode cX7_toldByHole 45 = .ok (.aload_n 0, 1) := by decide +kernel
theorem dX7_toldByHole_46 : decode cX7_toldByHole 46 = .ok (.getfield 12, 3) := by decide +kernel
theorem dX7_toldByHole_49 : decode cX7_toldByHole 49 = .ok (.getfield 92, 3) := by decide +kernel
theorem dX7_toldByHole_52 : decode cX7_toldByHole 52 = .ok (.iconst 1, 1) := by decide +kernel
theorem dX7_toldByHole_53 : decode cX7_toldByHole 53 = .ok (.aaload, 1) := by decide +kernel
theorem dX7_toldByHole_54 : decode cX7_toldByHole 54 = .ok (.iload_n 1, 1) := by decide +kernel
theorem dX7_toldByHole_55 : decode cX7_toldByHole 55 = .ok (.bipush 20, 2) := by decide +kernel
theorem dX7_toldByHole_57 : decode cX7_toldByHole 57 = .ok (.isub, 1) := by decide +kernel
theorem dX7_toldByHole_58 : decode cX7_toldByHole 58 = .ok (.invokevirtual 144, 3) := by decide +kernel
theorem dX7_toldByHole_61 : decode cX7_toldByHole 61 = .ok (.ireturn, 1) := by decide +kernel
theorem dX7_toldByHole_62 : decode cX7_toldByHole 62 = .ok (.iload_n 1, 1) := by decide +kernel
theorem dX7_toldByHole_63 : decode cX7_toldByHole 63 = .ok (.bipush 30, 2) := by decide +kernel
theorem dX7_toldByHole_65 : decode cX7_toldByHole 65 = .ok (.isub, 1) := by decide +kernel
theorem dX7_toldByHole_66 : decode cX7_toldByHole 66 = .ok (.invokestatic 101, 3) := by decide +kernel
theorem dX7_toldByHole_69 : decode cX7_toldByHole 69 = .ok (.ifCond .eq 28, 3) := by decide +kernel
theorem dX7_toldByHole_72 : decode cX7_toldByHole 72 = .ok (.aload_n 0, 1) := by decide +kernel
theorem dX7_toldByHole_73 : decode cX7_toldByHole 73 = .ok (.getfield 12, 3) := by decide +kernel
theorem dX7_toldByHole_76 : decode cX7_toldByHole 76 = .ok (.getfield 113, 3) := by decide +kernel
theorem dX7_toldByHole_79 : decode cX7_toldByHole 79 = .ok (.iload_n 1, 1) := by decide +kernel
theorem dX7_toldByHole_80 : decode cX7_toldByHole 80 = .ok (.bipush 30, 2) := by decide +kernel
theorem dX7_toldByHole_82 : decode cX7_toldByHole 82 = .ok (.isub, 1) := by decide +kernel
theorem dX7_toldByHole_83 : decode cX7_toldByHole 83 = .ok (.iaload, 1) := by decide +kernel
theorem dX7_toldByHole_84 : decode cX7_toldByHole 84 = .ok (.istore_n 2, 1) := by decide +kernel
theorem dX7_toldByHole_85 : decode cX7_toldByHole 85 = .ok (.iload_n 2, 1) := by decide +kernel
theorem dX7_toldByHole_86 : decode cX7_toldByHole 86 = .ok (.iconst (-1), 1) := by decide +kernel
theorem dX7_toldByHole_87 : decode cX7_toldByHole 87 = .ok (.if_icmp .ne 8, 3) := by decide +kernel
theorem dX7_toldByHole_90 : decode cX7_toldByHole 90 = .ok (.bipush (-5), 2) := by decide +kernel
theorem dX7_toldByHole_92 : decode cX7_toldByHole 92 = .ok (.goto 4, 3) := by decide +kernel
theorem dX7_toldByHole_95 : decode cX7_toldByHole 95 = .ok (.iload_n 2, 1) := by decide +kernel
theorem dX7_toldByHole_96 : decode cX7_toldByHole 96 = .ok (.ireturn, 1) := by decide +kernel
theorem dX7_toldByHole_97 : decode cX7_toldByHole 97 = .ok (.sipush (-1001), 3) := by decide +kernel
theorem dX7_toldByHole_100 : decode cX7_toldByHole 100 = .ok (.ireturn, 1) := by decide +kernel
theorem dX7_fits_0 : decode cX7_fits 0 = .ok (.aload_n 0, 1) := by decide +kernel
theorem dX7_fits_1 : decode cX7_fits 1 = .ok (.iload_n 1, 1) := by decide +kernel
theorem dX7_fits_2 : decode cX7_fits 2 = .ok (.bipush 10, 2) := by decide +kernel
theorem dX7_fits_4 : decode cX7_fits 4 = .ok (.isub, 1) := by decide +kernel
theorem dX7_fits_5 : decode cX7_fits 5 = .ok (.invokevirtual 89, 3) := by decide +kernel
theorem dX7_fits_8 : decode cX7_fits 8 = .ok (.istore_n 2, 1) := by decide +kernel
theorem dX7_fits_9 : decode cX7_fits 9 = .ok (.iload_n 2, 1) := by decide +kernel
theorem dX7_fits_10 : decode cX7_fits 10 = .ok (.ifCond .ne 16, 3) := by decide +kernel
theorem dX7_fits_13 : decode cX7_fits 13 = .ok (.iload_n 1, 1) := by decide +kernel
theorem dX7_fits_14 : decode cX7_fits 14 = .ok (.iconst 0, 1) := by decide +kernel
theorem dX7_fits_15 : decode cX7_fits 15 = .ok (.iconst 2, 1) := by decide +kernel
theorem dX7_fits_16 : decode cX7_fits 16 = .ok (.invokestatic 73, 3) := by decide +kernel
theorem dX7_fits_19 : decode cX7_fits 19 = .ok (.ifCond .ne 7, 3) := by decide +kernel
theorem dX7_fits_22 : decode cX7_fits 22 = .ok (.sipush (-1001), 3) := by decide +kernel
theorem dX7_fits_25 : decode cX7_fits 25 = .ok (.ireturn, 1) := by decide +kernel
theorem dX7_fits_26 : decode cX7_fits 26 = .ok (.aload_n 0, 1) := by decide +kernel
theorem dX7_fits_27 : decode cX7_fits 27 = .ok (.invokevirtual 148, 3) := by decide +kernel
theorem dX7_fits_30 : decode cX7_fits 30 = .ok (.iload_n 1, 1) := by decide +kernel
theorem dX7_fits_31 : decode cX7_fits 31 = .ok (.ifCond .ne 11, 3) := by decide +kernel
theorem dX7_fits_34 : decode cX7_fits 34 = .ok (.aload_n 0, 1) := by decide +kernel
theorem dX7_fits_35 : decode cX7_fits 35 = .ok (.getfield 51, 3) := by decide +kernel
theorem dX7_fits_38 : decode cX7_fits 38 = .ok (.getfield 151, 3) := by decide +kernel
theorem dX7_fits_41 : decode cX7_fits 41 = .ok (.ireturn, 1) := by decide +kernel
theorem dX7_fits_42 : decode cX7_fits 42 = .ok (.aload_n 0, 1) := by decide +kernel
theorem dX7_fits_43 : decode cX7_fits 43 = .ok (.getfield 51, 3) := by decide +kernel
theorem dX7_fits_46 : decode cX7_fits 46 = .ok (.getfield 151, 3) := by decide +kernel
theorem dX7_fits_49 : decode cX7_fits 49 = .ok (.ifCond .ne 6, 3) := by decide +kernel
theorem dX7_fits_52 : decode cX7_fits 52 = .ok (.bipush (-5), 2) := by decide +kernel
theorem dX7_fits_54 : decode cX7_fits 54 = .ok (.ireturn, 1) := by decide +kernel
theorem dX7_fits_55 : decode cX7_fits 55 = .ok (.iload_n 2, 1) := by decide +kernel
theorem dX7_fits_56 : decode cX7_fits 56 = .ok (.ifCond .eq 16, 3) := by decide +kernel
theorem dX7_fits_59 : decode cX7_fits 59 = .ok (.aload_n 0, 1) := by decide +kernel
theorem dX7_fits_60 : decode cX7_fits 60 = .ok (.getfield 51, 3) := by decide +kernel
theorem dX7_fits_63 : decode cX7_fits 63 = .ok (.getfield 154, 3) := by decide +kernel
theorem dX7_fits_66 : decode cX7_fits 66 = .ok (.iload_n 1, 1) := by decide +kernel
theorem dX7_fits_67 : decode cX7_fits 67 = .ok (.bipush 10, 2) := by decide +kernel
theorem dX7_fits_69 : decode cX7_fits 69 = .ok (.isub, 1) := by decide +kernel
theorem dX7_fits_70 : decode cX7_fits 70 = .ok (.iaload, 1) := by decide +kernel
theorem dX7_fits_71 : decode cX7_fits 71 = .ok (.ireturn, 1) := by decide +kernel
theorem dX7_fits_72 : decode cX7_fits 72 = .ok (.iload_n 1, 1) := by decide +kernel
theorem dX7_fits_73 : decode cX7_fits 73 = .ok (.iconst 1, 1) := by decide +kernel
theorem dX7_fits_74 : decode cX7_fits 74 = .ok (.if_icmp .ne 13, 3) := by decide +kernel
theorem dX7_fits_77 : decode cX7_fits 77 = .ok (.aload_n 0, 1) := by decide +kernel
theorem dX7_fits_78 : decode cX7_fits 78 = .ok (.getfield 51, 3) := by decide +kernel
theorem dX7_fits_81 : decode cX7_fits 81 = .ok (.getfield 157, 3) := by decide +kernel
theorem dX7_fits_84 : decode cX7_fits 84 = .ok (.goto 10, 3) := by decide +kernel
theorem dX7_fits_87 : decode cX7_fits 87 = .ok (.aload_n 0, 1) := by decide +kernel
theorem dX7_fits_88 : decode cX7_fits 88 = .ok (.getfield 51, 3) := by decide +kernel
theorem dX7_fits_91 : decode cX7_fits 91 = .ok (.getfield 160, 3) := by decide +kernel
theorem dX7_fits_94 : decode cX7_fits 94 = .ok (.ireturn, 1) := by decide +kernel
theorem dX7_bars_0 : decode cX7_bars 0 = .ok (.aload_n 0, 1) := by decide +kernel
theorem dX7_bars_1 : decode cX7_bars 1 = .ok (.invokevirtual 95, 3) := by decide +kernel
theorem dX7_bars_4 : decode cX7_bars 4 = .ok (.iconst 2, 1) := by decide +kernel
theorem dX7_bars_5 : decode cX7_bars 5 = .ok (.istore_n 1, 1) := by decide +kernel
theorem dX7_bars_6 : decode cX7_bars 6 = .ok (.iload_n 1, 1) := by decide +kernel
theorem dX7_bars_7 : decode cX7_bars 7 = .ok (.bipush 30, 2) := by decide +kernel
theorem dX7_bars_9 : decode cX7_bars 9 = .ok (.if_icmp .gt 51, 3) := by decide +kernel
theorem dX7_bars_12 : decode cX7_bars 12 = .ok (.iconst 0, 1) := by decide +kernel
theorem dX7_bars_13 : decode cX7_bars 13 = .ok (.istore_n 2, 1) := by decide +kernel
theorem dX7_bars_14 : decode cX7_bars 14 = .ok (.iload_n 2, 1) := by decide +kernel
theorem dX7_bars_15 : decode cX7_bars 15 = .ok (.iconst 3, 1) := by decide +kernel
theorem dX7_bars_16 : decode cX7_bars 16 = .ok (.if_icmp .ge 38, 3) := by decide +kernel
theorem dX7_bars_19 : decode cX7_bars 19 = .ok (.aload_n 0, 1) := by decide +kernel
theorem dX7_bars_20 : decode cX7_bars 20 = .ok (.getfield 12, 3) := by decide +kernel
theorem dX7_bars_23 : decode cX7_bars 23 = .ok (.getfield 113, 3) := by decide +kernel
theorem dX7_bars_26 : decode cX7_bars 26 = .ok (.iload_n 2, 1) := by decide +kernel
theorem dX7_bars_27 : decode cX7_bars 27 = .ok (.iaload, 1) := by decide +kernel
theorem dX7_bars_28 : decode cX7_bars 28 = .ok (.iconst (-1), 1) := by decide +kernel
theorem dX7_bars_29 : decode cX7_bars 29 = .ok (.if_icmp .eq 19, 3) := by decide +kernel
theorem dX7_bars_32 : decode cX7_bars 32 = .ok (.aload_n 0, 1) := by decide +kernel
theorem dX7_bars_33 : decode cX7_bars 33 = .ok (.iload_n 1, 1) := by decide +kernel
theorem dX7_bars_34 : decode cX7_bars 34 = .ok (.iload_n 2, 1) := by decide +kernel
theorem dX7_bars_35 : decode cX7_bars 35 = .ok (.invokevirtual 163, 3) := by decide +kernel
theorem dX7_bars_38 : decode cX7_bars 38 = .ok (.ifCond .eq 10, 3) := by decide +kernel
theorem dX7_bars_41 : decode cX7_bars 41 = .ok (.bipush 100, 2) := by decide +kernel
theorem dX7_bars_43 : decode cX7_bars 43 = .ok (.iload_n 1, 1) := by decide +kernel
theorem dX7_bars_44 : decode cX7_bars 44 = .ok (.imul, 1) := by decide +kernel
theorem dX7_bars_45 : decode cX7_bars 45 = .ok (.iload_n 2, 1) := by decide +kernel
theorem dX7_bars_46 : decode cX7_bars 46 = .ok (.iadd, 1) := by decide +kernel
theorem dX7_bars_47 : decode cX7_bars 47 = .ok (.ireturn, 1) := by decide +kernel
theorem dX7_bars_48 : decode cX7_bars 48 = .ok (.iinc 2 1, 3) := by decide +kernel
theorem dX7_bars_51 : decode cX7_bars 51 = .ok (.goto (-37), 3) := by decide +kernel
theorem dX7_bars_54 : decode cX7_bars 54 = .ok (.iinc 1 1, 3) := by decide +kernel
theorem dX7_bars_57 : decode cX7_bars 57 = .ok (.goto (-51), 3) := by decide +kernel
theorem dX7_bars_60 : decode cX7_bars 60 = .ok (.bipush (-5), 2) := by decide +kernel
theorem dX7_bars_62 : decode cX7_bars 62 = .ok (.ireturn, 1) := by decide +kernel
theorem dX7_isBarred_0 : decode cX7_isBarred 0 = .ok (.iload_n 1, 1) := by decide +kernel
theorem dX7_isBarred_1 : decode cX7_isBarred 1 = .ok (.i2l, 1) := by decide +kernel
theorem dX7_isBarred_2 : decode cX7_isBarred 2 = .ok (.lstore_n 3, 1) := by decide +kernel
theorem dX7_isBarred_3 : decode cX7_isBarred 3 = .ok (.iconst 0, 1) := by decide +kernel
theorem dX7_isBarred_4 : decode cX7_isBarred 4 = .ok (.istore 5, 2) := by decide +kernel
theorem dX7_isBarred_6 : decode cX7_isBarred 6 = .ok (.iload 5, 2) := by decide +kernel
theorem dX7_isBarred_8 : decode cX7_isBarred 8 = .ok (.aload_n 0, 1) := by decide +kernel
theorem dX7_isBarred_9 : decode cX7_isBarred 9 = .ok (.getfield 12, 3) := by decide +kernel
theorem dX7_isBarred_12 : decode cX7_isBarred 12 = .ok (.getfield 81, 3) := by decide +kernel
theorem dX7_isBarred_15 : decode cX7_isBarred 15 = .ok (.if_icmp .ge 27, 3) := by decide +kernel
theorem dX7_isBarred_18 : decode cX7_isBarred 18 = .ok (.lload_n 3, 1) := by decide +kernel
theorem dX7_isBarred_19 : decode cX7_isBarred 19 = .ok (.aload_n 0, 1) := by decide +kernel
theorem dX7_isBarred_20 : decode cX7_isBarred 20 = .ok (.getfield 42, 3) := by decide +kernel
theorem dX7_isBarred_23 : decode cX7_isBarred 23 = .ok (.getfield 104, 3) := by decide +kernel
theorem dX7_isBarred_26 : decode cX7_isBarred 26 = .ok (.iload 5, 2) := by decide +kernel
theorem dX7_isBarred_28 : decode cX7_isBarred 28 = .ok (.aaload, 1) := by decide +kernel
theorem dX7_isBarred_29 : decode cX7_isBarred 29 = .ok (.iload_n 2, 1) := by decide +kernel
theorem dX7_isBarred_30 : decode cX7_isBarred 30 = .ok (.iaload, 1) := by decide +kernel
theorem dX7_isBarred_31 : decode cX7_isBarred 31 = .ok (.i2l, 1) := by decide +kernel
theorem dX7_isBarred_32 : decode cX7_isBarred 32 = .ok (.invokestatic 167, 3) := by decide +kernel
theorem dX7_isBarred_35 : decode cX7_isBarred 35 = .ok (.lstore_n 3, 1) := by decide +kernel
theorem dX7_isBarred_36 : decode cX7_isBarred 36 = .ok (.iinc 5 1, 3) := by decide +kernel
theorem dX7_isBarred_39 : decode cX7_isBarred 39 = .ok (.goto (-33), 3) := by decide +kernel
theorem dX7_isBarred_42 : decode cX7_isBarred 42 = .ok (.lload_n 3, 1) := by decide +kernel
theorem dX7_isBarred_43 : decode cX7_isBarred 43 = .ok (.lconst 0, 1) := by decide +kernel
theorem dX7_isBarred_44 : decode cX7_isBarred 44 = .ok (.lcmp, 1) := by decide +kernel
theorem dX7_isBarred_45 : decode cX7_isBarred 45 = .ok (.ifCond .le 24, 3) := by decide +kernel
theorem dX7_isBarred_48 : decode cX7_isBarred 48 = .ok (.aload_n 0, 1) := by decide +kernel
theorem dX7_isBarred_49 : decode cX7_isBarred 49 = .ok (.getfield 12, 3) := by decide +kernel
theorem dX7_isBarred_52 : decode cX7_isBarred 52 = .ok (.getfield 113, 3) := by decide +kernel
theorem dX7_isBarred_55 : decode cX7_isBarred 55 = .ok (.iload_n 2, 1) := by decide +kernel
theorem dX7_isBarred_56 : decode cX7_isBarred 56 = .ok (.iaload, 1) := by decide +kernel
theorem dX7_isBarred_57 : decode cX7_isBarred 57 = .ok (.i2l, 1) := by decide +kernel
theorem dX7_isBarred_58 : decode cX7_isBarred 58 = .ok (.lload_n 3, 1) := by decide +kernel
theorem dX7_isBarred_59 : decode cX7_isBarred 59 = .ok (.lrem, 1) := by decide +kernel
theorem dX7_isBarred_60 : decode cX7_isBarred 60 = .ok (.lconst 0, 1) := by decide +kernel
theorem dX7_isBarred_61 : decode cX7_isBarred 61 = .ok (.lcmp, 1) := by decide +kernel
theorem dX7_isBarred_62 : decode cX7_isBarred 62 = .ok (.ifCond .eq 7, 3) := by decide +kernel
theorem dX7_isBarred_65 : decode cX7_isBarred 65 = .ok (.iconst 1, 1) := by decide +kernel
theorem dX7_isBarred_66 : decode cX7_isBarred 66 = .ok (.goto 4, 3) := by decide +kernel
theorem dX7_isBarred_69 : decode cX7_isBarred 69 = .ok (.iconst 0, 1) := by decide +kernel
theorem dX7_isBarred_70 : decode cX7_isBarred 70 = .ok (.ireturn, 1) := by decide +kernel
theorem dX7_hole_0 : decode cX7_hole 0 = .ok (.iload_n 1, 1) := by decide +kernel
theorem dX7_hole_1 : decode cX7_hole 1 = .ok (.iconst 0, 1) := by decide +kernel
theorem dX7_hole_2 : decode cX7_hole 2 = .ok (.iconst 1, 1) := by decide +kernel
theorem dX7_hole_3 : decode cX7_hole 3 = .ok (.invokestatic 73, 3) := by decide +kernel
theorem dX7_hole_6 : decode cX7_hole 6 = .ok (.ifCond .ne 5, 3) := by decide +kernel
theorem dX7_hole_9 : decode cX7_hole 9 = .ok (.iconst (-1), 1) := by decide +kernel
theorem dX7_hole_10 : decode cX7_hole 10 = .ok (.ireturn, 1) := by decide +kernel
theorem dX7_hole_11 : decode cX7_hole 11 = .ok (.aload_n 0, 1) := by decide +kernel
theorem dX7_hole_12 : decode cX7_hole 12 = .ok (.invokevirtual 95, 3) := by decide +kernel
theorem dX7_hole_15 : decode cX7_hole 15 = .ok (.bipush (-5), 2) := by decide +kernel
theorem dX7_hole_17 : decode cX7_hole 17 = .ok (.istore_n 2, 1) := by decide +kernel
theorem dX7_hole_18 : decode cX7_hole 18 = .ok (.bipush (-5), 2) := by decide +kernel
theorem dX7_hole_20 : decode cX7_hole 20 = .ok (.istore_n 3, 1) := by decide +kernel
theorem dX7_hole_21 : decode cX7_hole 21 = .ok (.iconst 0, 1) := by decide +kernel
theorem dX7_hole_22 : decode cX7_hole 22 = .ok (.istore 4, 2) := by decide +kernel
theorem dX7_hole_24 : decode cX7_hole 24 = .ok (.iload 4, 2) := by decide +kernel
theorem dX7_hole_26 : decode cX7_hole 26 = .ok (.iconst 3, 1) := by decide +kernel
theorem dX7_hole_27 : decode cX7_hole 27 = .ok (.if_icmp .ge 49, 3) := by decide +kernel
theorem dX7_hole_30 : decode cX7_hole 30 = .ok (.aload_n 0, 1) := by decide +kernel
theorem dX7_hole_31 : decode cX7_hole 31 = .ok (.getfield 12, 3) := by decide +kernel
theorem dX7_hole_34 : decode cX7_hole 34 = .ok (.getfield 113, 3) := by decide +kernel
theorem dX7_hole_37 : decode cX7_hole 37 = .ok (.iload 4, 2) := by decide +kernel
theorem dX7_hole_39 : decode cX7_hole 39 = .ok (.iaload, 1) := by decide +kernel
theorem dX7_hole_40 : decode cX7_hole 40 = .ok (.iconst (-1), 1) := by decide +kernel
theorem dX7_hole_41 : decode cX7_hole 41 = .ok (.if_icmp .ne 29, 3) := by decide +kernel
theorem dX7_hole_44 : decode cX7_hole 44 = .ok (.aload_n 0, 1) := by decide +kernel
theorem dX7_hole_45 : decode cX7_hole 45 = .ok (.iload 4, 2) := by decide +kernel
theorem dX7_hole_47 : decode cX7_hole 47 = .ok (.invokevirtual 171, 3) := by decide +kernel
theorem dX7_hole_50 : decode cX7_hole 50 = .ok (.istore 5, 2) := by decide +kernel
theorem dX7_hole_52 : decode cX7_hole 52 = .ok (.iload_n 2, 1) := by decide +kernel
theorem dX7_hole_53 : decode cX7_hole 53 = .ok (.bipush (-5), 2) := by decide +kernel
theorem dX7_hole_55 : decode cX7_hole 55 = .ok (.if_icmp .eq 9, 3) := by decide +kernel
theorem dX7_hole_58 : decode cX7_hole 58 = .ok (.iload 5, 2) := by decide +kernel
theorem dX7_hole_60 : decode cX7_hole 60 = .ok (.iload_n 3, 1) := by decide +kernel
theorem dX7_hole_61 : decode cX7_hole 61 = .ok (.if_icmp .ge 9, 3) := by decide +kernel
theorem dX7_hole_64 : decode cX7_hole 64 = .ok (.iload 4, 2) := by decide +kernel
theorem dX7_hole_66 : decode cX7_hole 66 = .ok (.istore_n 2, 1) := by decide +kernel
theorem dX7_hole_67 : decode cX7_hole 67 = .ok (.iload 5, 2) := by decide +kernel
theorem dX7_hole_69 : decode cX7_hole 69 = .ok (.istore_n 3, 1) := by decide +kernel
theorem dX7_hole_70 : decode cX7_hole 70 = .ok (.iinc 4 1, 3) := by decide +kernel
theorem dX7_hole_73 : decode cX7_hole 73 = .ok (.goto (-49), 3) := by decide +kernel
theorem dX7_hole_76 : decode cX7_hole 76 = .ok (.iload_n 1, 1) := by decide +kernel
theorem dX7_hole_77 : decode cX7_hole 77 = .ok (.ifCond .ne 7, 3) := by decide +kernel
theorem dX7_hole_80 : decode cX7_hole 80 = .ok (.iload_n 2, 1) := by decide +kernel
theorem dX7_hole_81 : decode cX7_hole 81 = .ok (.goto 4, 3) := by decide +kernel
theorem dX7_hole_84 : decode cX7_hole 84 = .ok (.iload_n 3, 1) := by decide +kernel
theorem dX7_hole_85 : decode cX7_hole 85 = .ok (.ireturn, 1) := by decide +kernel
theorem dX7_foundIfTold_0 : decode cX7_foundIfTold 0 = .ok (.aload_n 0, 1) := by decide +kernel
theorem dX7_foundIfTold_1 : decode cX7_foundIfTold 1 = .ok (.getfield 12, 3) := by decide +kernel
theorem dX7_foundIfTold_4 : decode cX7_foundIfTold 4 = .ok (.getfield 113, 3) := by decide +kernel
theorem dX7_foundIfTold_7 : decode cX7_foundIfTold 7 = .ok (.iconst 0, 1) := by decide +kernel
theorem dX7_foundIfTold_8 : decode cX7_foundIfTold 8 = .ok (.aload_n 0, 1) := by decide +kernel
theorem dX7_foundIfTold_9 : decode cX7_foundIfTold 9 = .ok (.getfield 55, 3) := by decide +kernel
theorem dX7_foundIfTold_12 : decode cX7_foundIfTold 12 = .ok (.iconst 0, 1) := by decide +kernel
theorem dX7_foundIfTold_13 : decode cX7_foundIfTold 13 = .ok (.iconst 3, 1) := by decide +kernel
theorem dX7_foundIfTold_14 : decode cX7_foundIfTold 14 = .ok (.invokestatic 174, 3) := by decide +kernel
theorem dX7_foundIfTold_17 : decode cX7_foundIfTold 17 = .ok (.aload_n 0, 1) := by decide +kernel
theorem dX7_foundIfTold_18 : decode cX7_foundIfTold 18 = .ok (.getfield 55, 3) := by decide +kernel
theorem dX7_foundIfTold_21 : decode cX7_foundIfTold 21 = .ok (.iload_n 1, 1) := by decide +kernel
theorem dX7_foundIfTold_22 : decode cX7_foundIfTold 22 = .ok (.aload_n 0, 1) := by decide +kernel
theorem dX7_foundIfTold_23 : decode cX7_foundIfTold 23 = .ok (.getfield 42, 3) := by decide +kernel
theorem dX7_foundIfTold_26 : decode cX7_foundIfTold 26 = .ok (.aload_n 0, 1) := by decide +kernel
theorem dX7_foundIfTold_27 : decode cX7_foundIfTold 27 = .ok (.getfield 12, 3) := by decide +kernel
theorem dX7_foundIfTold_30 : decode cX7_foundIfTold 30 = .ok (.getfield 92, 3) := by decide +kernel
theorem dX7_foundIfTold_33 : decode cX7_foundIfTold 33 = .ok (.iconst 0, 1) := by decide +kernel
theorem dX7_foundIfTold_34 : decode cX7_foundIfTold 34 = .ok (.aaload, 1) := by decide +kernel
theorem dX7_foundIfTold_35 : decode cX7_foundIfTold 35 = .ok (.iload_n 1, 1) := by decide +kernel
theorem dX7_foundIfTold_36 : decode cX7_foundIfTold 36 = .ok (.invokevirtual 144, 3) := by decide +kernel
theorem dX7_foundIfTold_39 : decode cX7_foundIfTold 39 = .ok (.iastore, 1) := by decide +kernel
theorem dX7_foundIfTold_40 : decode cX7_foundIfTold 40 = .ok (.aload_n 0, 1) := by decide +kernel
theorem dX7_foundIfTold_41 : decode cX7_foundIfTold 41 = .ok (.getfield 51, 3) := by decide +kernel
theorem dX7_foundIfTold_44 : decode cX7_foundIfTold 44 = .ok (.aload_n 0, 1) := by decide +kernel
theorem dX7_foundIfTold_45 : decode cX7_foundIfTold 45 = .ok (.getfield 42, 3) := by decide +kernel
theorem dX7_foundIfTold_48 : decode cX7_foundIfTold 48 = .ok (.getfield 133, 3) := by decide +kernel
theorem dX7_foundIfTold_51 : decode cX7_foundIfTold 51 = .ok (.aload_n 0, 1) := by decide +kernel
theorem dX7_foundIfTold_52 : decode cX7_foundIfTold 52 = .ok (.getfield 55, 3) := by decide +kernel
theorem dX7_foundIfTold_55 : decode cX7_foundIfTold 55 = .ok (.invokevirtual 180, 3) := by decide +kernel
theorem dX7_foundIfTold_58 : decode cX7_foundIfTold 58 = .ok (.aload_n 0, 1) := by decide +kernel
theorem dX7_foundIfTold_59 : decode cX7_foundIfTold 59 = .ok (.getfield 51, 3) := by decide +kernel
theorem dX7_foundIfTold_62 : decode cX7_foundIfTold 62 = .ok (.getfield 151, 3) := by decide +kernel
theorem dX7_foundIfTold_65 : decode cX7_foundIfTold 65 = .ok (.ireturn, 1) := by decide +kernel
theorem dX7_alike_0 : decode cX7_alike 0 = .ok (.aload_n 0, 1) := by decide +kernel
theorem dX7_alike_1 : decode cX7_alike 1 = .ok (.iload_n 1, 1) := by decide +kernel
theorem dX7_alike_2 : decode cX7_alike 2 = .ok (.bipush 10, 2) := by decide +kernel
theorem dX7_alike_4 : decode cX7_alike 4 = .ok (.isub, 1) := by decide +kernel
theorem dX7_alike_5 : decode cX7_alike 5 = .ok (.invokevirtual 89, 3) := by decide +kernel
theorem dX7_alike_8 : decode cX7_alike 8 = .ok (.istore_n 2, 1) := by decide +kernel
theorem dX7_alike_9 : decode cX7_alike 9 = .ok (.iload_n 2, 1) := by decide +kernel
theorem dX7_alike_10 : decode cX7_alike 10 = .ok (.ifCond .ne 11, 3) := by decide +kernel
theorem dX7_alike_13 : decode cX7_alike 13 = .ok (.iload_n 1, 1) := by decide +kernel
theorem dX7_alike_14 : decode cX7_alike 14 = .ok (.ifCond .eq 7, 3) := by decide +kernel
theorem dX7_alike_17 : decode cX7_alike 17 = .ok (.sipush (-1001), 3) := by decide +kernel
theorem dX7_alike_20 : decode cX7_alike 20 = .ok (.ireturn, 1) := by decide +kernel
theorem dX7_alike_21 : decode cX7_alike 21 = .ok (.aload_n 0, 1) := by decide +kernel
theorem dX7_alike_22 : decode cX7_alike 22 = .ok (.invokevirtual 95, 3) := by decide +kernel
theorem dX7_alike_25 : decode cX7_alike 25 = .ok (.aload_n 0, 1) := by decide +kernel
theorem dX7_alike_26 : decode cX7_alike 26 = .ok (.invokevirtual 184, 3) := by decide +kernel
theorem dX7_alike_29 : decode cX7_alike 29 = .ok (.aload_n 0, 1) := by decide +kernel
theorem dX7_alike_30 : decode cX7_alike 30 = .ok (.getfield 51, 3) := by decide +kernel
theorem dX7_alike_33 : decode cX7_alike 33 = .ok (.aload_n 0, 1) := by decide +kernel
theorem dX7_alike_34 : decode cX7_alike 34 = .ok (.getfield 42, 3) := by decide +kernel
theorem dX7_alike_37 : decode cX7_alike 37 = .ok (.getfield 133, 3) := by decide +kernel
theorem dX7_alike_40 : decode cX7_alike 40 = .ok (.aload_n 0, 1) := by decide +kernel
theorem dX7_alike_41 : decode cX7_alike 41 = .ok (.getfield 55, 3) := by decide +kernel
theorem dX7_alike_44 : decode cX7_alike 44 = .ok (.invokevirtual 180, 3) := by decide +kernel
theorem dX7_alike_47 : decode cX7_alike 47 = .ok (.aload_n 0, 1) := by decide +kernel
theorem dX7_alike_48 : decode cX7_alike 48 = .ok (.getfield 51, 3) := by decide +kernel
theorem dX7_alike_51 : decode cX7_alike 51 = .ok (.getfield 151, 3) := by decide +kernel
theorem dX7_alike_54 : decode cX7_alike 54 = .ok (.ifCond .ne 6, 3) := by decide +kernel
theorem dX7_alike_57 : decode cX7_alike 57 = .ok (.bipush (-5), 2) := by decide +kernel
theorem dX7_alike_59 : decode cX7_alike 59 = .ok (.ireturn, 1) := by decide +kernel
theorem dX7_alike_60 : decode cX7_alike 60 = .ok (.iload_n 2, 1) := by decide +kernel
theorem dX7_alike_61 : decode cX7_alike 61 = .ok (.ifCond .eq 18, 3) := by decide +kernel
theorem dX7_alike_64 : decode cX7_alike 64 = .ok (.aload_n 0, 1) := by decide +kernel
theorem dX7_alike_65 : decode cX7_alike 65 = .ok (.getfield 51, 3) := by decide +kernel
theorem dX7_alike_68 : decode cX7_alike 68 = .ok (.getfield 154, 3) := by decide +kernel
theorem dX7_alike_71 : decode cX7_alike 71 = .ok (.iload_n 1, 1) := by decide +kernel
theorem dX7_alike_72 : decode cX7_alike 72 = .ok (.bipush 10, 2) := by decide +kernel
theorem dX7_alike_74 : decode cX7_alike 74 = .ok (.isub, 1) := by decide +kernel
theorem dX7_alike_75 : decode cX7_alike 75 = .ok (.iaload, 1) := by decide +kernel
theorem dX7_alike_76 : decode cX7_alike 76 = .ok (.goto 10, 3) := by decide +kernel
theorem dX7_alike_79 : decode cX7_alike 79 = .ok (.aload_n 0, 1) := by decide +kernel
theorem dX7_alike_80 : decode cX7_alike 80 = .ok (.getfield 51, 3) := by decide +kernel
theorem dX7_alike_83 : decode cX7_alike 83 = .ok (.getfield 157, 3) := by decide +kernel
theorem dX7_alike_86 : decode cX7_alike 86 = .ok (.ireturn, 1) := by decide +kernel
theorem dX7_missed_0 : decode cX7_missed 0 = .ok (.aload_n 0, 1) := by decide +kernel
theorem dX7_missed_1 : decode cX7_missed 1 = .ok (.invokevirtual 95, 3) := by decide +kernel
theorem dX7_missed_4 : decode cX7_missed 4 = .ok (.aload_n 0, 1) := by decide +kernel
theorem dX7_missed_5 : decode cX7_missed 5 = .ok (.getfield 51, 3) := by decide +kernel
theorem dX7_missed_8 : decode cX7_missed 8 = .ok (.aload_n 0, 1) := by decide +kernel
theorem dX7_missed_9 : decode cX7_missed 9 = .ok (.getfield 42, 3) := by decide +kernel
theorem dX7_missed_12 : decode cX7_missed 12 = .ok (.getfield 133, 3) := by decide +kernel
theorem dX7_missed_15 : decode cX7_missed 15 = .ok (.aload_n 0, 1) := by decide +kernel
theorem dX7_missed_16 : decode cX7_missed 16 = .ok (.getfield 12, 3) := by decide +kernel
theorem dX7_missed_19 : decode cX7_missed 19 = .ok (.getfield 113, 3) := by decide +kernel
theorem dX7_missed_22 : decode cX7_missed 22 = .ok (.invokevirtual 187, 3) := by decide +kernel
theorem dX7_missed_25 : decode cX7_missed 25 = .ok (.istore_n 1, 1) := by decide +kernel
theorem dX7_missed_26 : decode cX7_missed 26 = .ok (.iload_n 1, 1) := by decide +kernel
theorem dX7_missed_27 : decode cX7_missed 27 = .ok (.ifCond .ge 8, 3) := by decide +kernel
theorem dX7_missed_30 : decode cX7_missed 30 = .ok (.bipush (-5), 2) := by decide +kernel
theorem dX7_missed_32 : decode cX7_missed 32 = .ok (.goto 4, 3) := by decide +kernel
theorem dX7_missed_35 : decode cX7_missed 35 = .ok (.iload_n 1, 1) := by decide +kernel
theorem dX7_missed_36 : decode cX7_missed 36 = .ok (.ireturn, 1) := by decide +kernel
theorem dX7_mix_0 : decode cX7_mix 0 = .ok (.aload_n 0, 1) := by decide +kernel
theorem dX7_mix_1 : decode cX7_mix 1 = .ok (.invokevirtual 95, 3) := by decide +kernel
theorem dX7_mix_4 : decode cX7_mix 4 = .ok (.aload_n 0, 1) := by decide +kernel
theorem dX7_mix_5 : decode cX7_mix 5 = .ok (.invokevirtual 184, 3) := by decide +kernel
theorem dX7_mix_8 : decode cX7_mix 8 = .ok (.iconst 0, 1) := by decide +kernel
theorem dX7_mix_9 : decode cX7_mix 9 = .ok (.istore_n 1, 1) := by decide +kernel
theorem dX7_mix_10 : decode cX7_mix 10 = .ok (.iload_n 1, 1) := by decide +kernel
theorem dX7_mix_11 : decode cX7_mix 11 = .ok (.iconst 3, 1) := by decide +kernel
theorem dX7_mix_12 : decode cX7_mix 12 = .ok (.if_icmp .ge 35, 3) := by decide +kernel
theorem dX7_mix_15 : decode cX7_mix 15 = .ok (.aload_n 0, 1) := by decide +kernel
theorem dX7_mix_16 : decode cX7_mix 16 = .ok (.getfield 55, 3) := by decide +kernel
theorem dX7_mix_19 : decode cX7_mix 19 = .ok (.iload_n 1, 1) := by decide +kernel
theorem dX7_mix_20 : decode cX7_mix 20 = .ok (.dup2, 1) := by decide +kernel
theorem dX7_mix_21 : decode cX7_mix 21 = .ok (.iaload, 1) := by decide +kernel
theorem dX7_mix_22 : decode cX7_mix 22 = .ok (.aload_n 0, 1) := by decide +kernel
theorem dX7_mix_23 : decode cX7_mix 23 = .ok (.getfield 42, 3) := by decide +kernel
theorem dX7_mix_26 : decode cX7_mix 26 = .ok (.aload_n 0, 1) := by decide +kernel
theorem dX7_mix_27 : decode cX7_mix 27 = .ok (.getfield 12, 3) := by decide +kernel
theorem dX7_mix_30 : decode cX7_mix 30 = .ok (.getfield 92, 3) := by decide +kernel
theorem dX7_mix_33 : decode cX7_mix 33 = .ok (.iconst 1, 1) := by decide +kernel
theorem dX7_mix_34 : decode cX7_mix 34 = .ok (.aaload, 1) := by decide +kernel
theorem dX7_mix_35 : decode cX7_mix 35 = .ok (.iload_n 1, 1) := by decide +kernel
theorem dX7_mix_36 : decode cX7_mix 36 = .ok (.invokevirtual 144, 3) := by decide +kernel
theorem dX7_mix_39 : decode cX7_mix 39 = .ok (.iadd, 1) := by decide +kernel
theorem dX7_mix_40 : decode cX7_mix 40 = .ok (.iastore, 1) := by decide +kernel
theorem dX7_mix_41 : decode cX7_mix 41 = .ok (.iinc 1 1, 3) := by decide +kernel
theorem dX7_mix_44 : decode cX7_mix 44 = .ok (.goto (-34), 3) := by decide +kernel
theorem dX7_mix_47 : decode cX7_mix 47 = .ok (.aload_n 0, 1) := by decide +kernel
theorem dX7_mix_48 : decode cX7_mix 48 = .ok (.getfield 51, 3) := by decide +kernel
theorem dX7_mix_51 : decode cX7_mix 51 = .ok (.iconst 2, 1) := by decide +kernel
theorem dX7_mix_52 : decode cX7_mix 52 = .ok (.aload_n 0, 1) := by decide +kernel
theorem dX7_mix_53 : decode cX7_mix 53 = .ok (.getfield 42, 3) := by decide +kernel
theorem dX7_mix_56 : decode cX7_mix 56 = .ok (.getfield 133, 3) := by decide +kernel
theorem dX7_mix_59 : decode cX7_mix 59 = .ok (.imul, 1) := by decide +kernel
theorem dX7_mix_60 : decode cX7_mix 60 = .ok (.aload_n 0, 1) := by decide +kernel
theorem dX7_mix_61 : decode cX7_mix 61 = .ok (.getfield 55, 3) := by decide +kernel
theorem dX7_mix_64 : decode cX7_mix 64 = .ok (.invokevirtual 180, 3) := by decide +kernel
theorem dX7_mix_67 : decode cX7_mix 67 = .ok (.aload_n 0, 1) := by decide +kernel
theorem dX7_mix_68 : decode cX7_mix 68 = .ok (.getfield 51, 3) := by decide +kernel
theorem dX7_mix_71 : decode cX7_mix 71 = .ok (.getfield 151, 3) := by decide +kernel
theorem dX7_mix_74 : decode cX7_mix 74 = .ok (.ifCond .ne 6, 3) := by decide +kernel
theorem dX7_mix_77 : decode cX7_mix 77 = .ok (.ldc 191, 2) := by decide +kernel
theorem dX7_mix_79 : decode cX7_mix 79 = .ok (.ireturn, 1) := by decide +kernel
theorem dX7_mix_80 : decode cX7_mix 80 = .ok (.aload_n 0, 1) := by decide +kernel
theorem dX7_mix_81 : decode cX7_mix 81 = .ok (.getfield 42, 3) := by decide +kernel
theorem dX7_mix_84 : decode cX7_mix 84 = .ok (.aload_n 0, 1) := by decide +kernel
theorem dX7_mix_85 : decode cX7_mix 85 = .ok (.getfield 12, 3) := by decide +kernel
theorem dX7_mix_88 : decode cX7_mix 88 = .ok (.getfield 92, 3) := by decide +kernel
theorem dX7_mix_91 : decode cX7_mix 91 = .ok (.iconst 0, 1) := by decide +kernel
theorem dX7_mix_92 : decode cX7_mix 92 = .ok (.aaload, 1) := by decide +kernel
theorem dX7_mix_93 : decode cX7_mix 93 = .ok (.invokevirtual 136, 3) := by decide +kernel
theorem dX7_mix_96 : decode cX7_mix 96 = .ok (.aload_n 0, 1) := by decide +kernel
theorem dX7_mix_97 : decode cX7_mix 97 = .ok (.getfield 42, 3) := by decide +kernel
theorem dX7_mix_100 : decode cX7_mix 100 = .ok (.aload_n 0, 1) := by decide +kernel
theorem dX7_mix_101 : decode cX7_mix 101 = .ok (.getfield 12, 3) := by decide +kernel
theorem dX7_mix_104 : decode cX7_mix 104 = .ok (.getfield 92, 3) := by decide +kernel
theorem dX7_mix_107 : decode cX7_mix 107 = .ok (.iconst 1, 1) := by decide +kernel
theorem dX7_mix_108 : decode cX7_mix 108 = .ok (.aaload, 1) := by decide +kernel
theorem dX7_mix_109 : decode cX7_mix 109 = .ok (.invokevirtual 136, 3) := by decide +kernel
theorem dX7_mix_112 : decode cX7_mix 112 = .ok (.iadd, 1) := by decide +kernel
theorem dX7_mix_113 : decode cX7_mix 113 = .ok (.aload_n 0, 1) := by decide +kernel
theorem dX7_mix_114 : decode cX7_mix 114 = .ok (.getfield 51, 3) := by decide +kernel
theorem dX7_mix_117 : decode cX7_mix 117 = .ok (.getfield 157, 3) := by decide +kernel
theorem dX7_mix_120 : decode cX7_mix 120 = .ok (.isub, 1) := by decide +kernel
theorem dX7_mix_121 : decode cX7_mix 121 = .ok (.ireturn, 1) := by decide +kernel
theorem dX7_prices_0 : decode cX7_prices 0 = .ok (.iload_n 1, 1) := by decide +kernel
theorem dX7_prices_1 : decode cX7_prices 1 = .ok (.iconst 1, 1) := by decide +kernel
theorem dX7_prices_2 : decode cX7_prices 2 = .ok (.isub, 1) := by decide +kernel
theorem dX7_prices_3 : decode cX7_prices 3 = .ok (.invokestatic 101, 3) := by decide +kernel
theorem dX7_prices_6 : decode cX7_prices 6 = .ok (.istore_n 2, 1) := by decide +kernel
theorem dX7_prices_7 : decode cX7_prices 7 = .ok (.iload_n 2, 1) := by decide +kernel
theorem dX7_prices_8 : decode cX7_prices 8 = .ok (.ifCond .ne 9, 3) := by decide +kernel
theorem dX7_prices_11 : decode cX7_prices 11 = .ok (.iload_n 1, 1) := by decide +kernel
theorem dX7_prices_12 : decode cX7_prices 12 = .ok (.ifCond .eq 5, 3) := by decide +kernel
theorem dX7_prices_15 : decode cX7_prices 15 = .ok (.iconst (-1), 1) := by decide +kernel
theorem dX7_prices_16 : decode cX7_prices 16 = .ok (.ireturn, 1) := by decide +kernel
theorem dX7_prices_17 : decode cX7_prices 17 = .ok (.aload_n 0, 1) := by decide +kernel
theorem dX7_prices_18 : decode cX7_prices 18 = .ok (.invokevirtual 95, 3) := by decide +kernel
theorem dX7_prices_21 : decode cX7_prices 21 = .ok (.aload_n 0, 1) := by decide +kernel
theorem dX7_prices_22 : decode cX7_prices 22 = .ok (.invokevirtual 184, 3) := by decide +kernel
theorem dX7_prices_25 : decode cX7_prices 25 = .ok (.aload_n 0, 1) := by decide +kernel
theorem dX7_prices_26 : decode cX7_prices 26 = .ok (.aload_n 0, 1) := by decide +kernel
theorem dX7_prices_27 : decode cX7_prices 27 = .ok (.getfield 55, 3) := by decide +kernel
theorem dX7_prices_30 : decode cX7_prices 30 = .ok (.invokevirtual 192, 3) := by decide +kernel
theorem dX7_prices_33 : decode cX7_prices 33 = .ok (.istore_n 3, 1) := by decide +kernel
theorem dX7_prices_34 : decode cX7_prices 34 = .ok (.iload_n 2, 1) := by decide +kernel
theorem dX7_prices_35 : decode cX7_prices 35 = .ok (.ifCond .eq 13, 3) := by decide +kernel
theorem dX7_prices_38 : decode cX7_prices 38 = .ok (.iload_n 3, 1) := by decide +kernel
theorem dX7_prices_39 : decode cX7_prices 39 = .ok (.iload_n 1, 1) := by decide +kernel
theorem dX7_prices_40 : decode cX7_prices 40 = .ok (.iconst 1, 1) := by decide +kernel
theorem dX7_prices_41 : decode cX7_prices 41 = .ok (.isub, 1) := by decide +kernel
theorem dX7_prices_42 : decode cX7_prices 42 = .ok (.invokestatic 195, 3) := by decide +kernel
theorem dX7_prices_45 : decode cX7_prices 45 = .ok (.goto 11, 3) := by decide +kernel
theorem dX7_prices_48 : decode cX7_prices 48 = .ok (.iload_n 3, 1) := by decide +kernel
theorem dX7_prices_49 : decode cX7_prices 49 = .ok (.aload_n 0, 1) := by decide +kernel
theorem dX7_prices_50 : decode cX7_prices 50 = .ok (.getfield 55, 3) := by decide +kernel
theorem dX7_prices_53 : decode cX7_prices 53 = .ok (.invokestatic 199, 3) := by decide +kernel
theorem dX7_prices_56 : decode cX7_prices 56 = .ok (.ireturn, 1) := by decide +kernel
theorem dX7_bestPrices_0 : decode cX7_bestPrices 0 = .ok (.iconst 0, 1) := by decide +kernel
theorem dX7_bestPrices_1 : decode cX7_bestPrices 1 = .ok (.istore_n 2, 1) := by decide +kernel
theorem dX7_bestPrices_2 : decode cX7_bestPrices 2 = .ok (.iconst 1, 1) := by decide +kernel
theorem dX7_bestPrices_3 : decode cX7_bestPrices 3 = .ok (.istore_n 3, 1) := by decide +kernel
theorem dX7_bestPrices_4 : decode cX7_bestPrices 4 = .ok (.iload_n 3, 1) := by decide +kernel
theorem dX7_bestPrices_5 : decode cX7_bestPrices 5 = .ok (.sipush 1000, 3) := by decide +kernel
theorem dX7_bestPrices_8 : decode cX7_bestPrices 8 = .ok (.if_icmp .ge 32, 3) := by decide +kernel
theorem dX7_bestPrices_11 : decode cX7_bestPrices 11 = .ok (.iload_n 3, 1) := by decide +kernel
theorem dX7_bestPrices_12 : decode cX7_bestPrices 12 = .ok (.aload_n 1, 1) := by decide +kernel
theorem dX7_bestPrices_13 : decode cX7_bestPrices 13 = .ok (.invokestatic 199, 3) := by decide +kernel
theorem dX7_bestPrices_16 : decode cX7_bestPrices 16 = .ok (.iload_n 2, 1) := by decide +kernel
theorem dX7_bestPrices_17 : decode cX7_bestPrices 17 = .ok (.aload_n 1, 1) := by decide +kernel
theorem dX7_bestPrices_18 : decode cX7_bestPrices 18 = .ok (.invokestatic 199, 3) := by decide +kernel
theorem dX7_bestPrices_21 : decode cX7_bestPrices 21 = .ok (.if_icmp .le 13, 3) := by decide +kernel
theorem dX7_bestPrices_24 : decode cX7_bestPrices 24 = .ok (.aload_n 0, 1) := by decide +kernel
theorem dX7_bestPrices_25 : decode cX7_bestPrices 25 = .ok (.iload_n 3, 1) := by decide +kernel
theorem dX7_bestPrices_26 : decode cX7_bestPrices 26 = .ok (.invokevirtual 202, 3) := by decide +kernel
theorem dX7_bestPrices_29 : decode cX7_bestPrices 29 = .ok (.ifCond .eq 5, 3) := by decide +kernel
theorem dX7_bestPrices_32 : decode cX7_bestPrices 32 = .ok (.iload_n 3, 1) := by decide +kernel
theorem dX7_bestPrices_33 : decode cX7_bestPrices 33 = .ok (.istore_n 2, 1) := by decide +kernel
theorem dX7_bestPrices_34 : decode cX7_bestPrices 34 = .ok (.iinc 3 1, 3) := by decide +kernel
theorem dX7_bestPrices_37 : decode cX7_bestPrices 37 = .ok (.goto (-33), 3) := by decide +kernel
theorem dX7_bestPrices_40 : decode cX7_bestPrices 40 = .ok (.iload_n 2, 1) := by decide +kernel
theorem dX7_bestPrices_41 : decode cX7_bestPrices 41 = .ok (.ireturn, 1) := by decide +kernel
theorem dX7_isFair_0 : decode cX7_isFair 0 = .ok (.iconst 0, 1) := by decide +kernel
theorem dX7_isFair_1 : decode cX7_isFair 1 = .ok (.istore_n 2, 1) := by decide +kernel
theorem dX7_isFair_2 : decode cX7_isFair 2 = .ok (.iload_n 2, 1) := by decide +kernel
theorem dX7_isFair_3 : decode cX7_isFair 3 = .ok (.aload_n 0, 1) := by decide +kernel
theorem dX7_isFair_4 : decode cX7_isFair 4 = .ok (.getfield 12, 3) := by decide +kernel
theorem dX7_isFair_7 : decode cX7_isFair 7 = .ok (.getfield 81, 3) := by decide +kernel
theorem dX7_isFair_10 : decode cX7_isFair 10 = .ok (.if_icmp .ge 36, 3) := by decide +kernel
theorem dX7_isFair_13 : decode cX7_isFair 13 = .ok (.iload_n 1, 1) := by decide +kernel
theorem dX7_isFair_14 : decode cX7_isFair 14 = .ok (.aload_n 0, 1) := by decide +kernel
theorem dX7_isFair_15 : decode cX7_isFair 15 = .ok (.getfield 42, 3) := by decide +kernel
theorem dX7_isFair_18 : decode cX7_isFair 18 = .ok (.getfield 104, 3) := by decide +kernel
theorem dX7_isFair_21 : decode cX7_isFair 21 = .ok (.iload_n 2, 1) := by decide +kernel
theorem dX7_isFair_22 : decode cX7_isFair 22 = .ok (.aaload, 1) := by decide +kernel
theorem dX7_isFair_23 : decode cX7_isFair 23 = .ok (.invokestatic 199, 3) := by decide +kernel
theorem dX7_isFair_26 : decode cX7_isFair 26 = .ok (.aload_n 0, 1) := by decide +kernel
theorem dX7_isFair_27 : decode cX7_isFair 27 = .ok (.getfield 42, 3) := by decide +kernel
theorem dX7_isFair_30 : decode cX7_isFair 30 = .ok (.getfield 98, 3) := by decide +kernel
theorem dX7_isFair_33 : decode cX7_isFair 33 = .ok (.iload_n 2, 1) := by decide +kernel
theorem dX7_isFair_34 : decode cX7_isFair 34 = .ok (.iaload, 1) := by decide +kernel
theorem dX7_isFair_35 : decode cX7_isFair 35 = .ok (.if_icmp .le 5, 3) := by decide +kernel
theorem dX7_isFair_38 : decode cX7_isFair 38 = .ok (.iconst 0, 1) := by decide +kernel
theorem dX7_isFair_39 : decode cX7_isFair 39 = .ok (.ireturn, 1) := by decide +kernel
theorem dX7_isFair_40 : decode cX7_isFair 40 = .ok (.iinc 2 1, 3) := by decide +kernel
theorem dX7_isFair_43 : decode cX7_isFair 43 = .ok (.goto (-41), 3) := by decide +kernel
theorem dX7_isFair_46 : decode cX7_isFair 46 = .ok (.iconst 1, 1) := by decide +kernel
theorem dX7_isFair_47 : decode cX7_isFair 47 = .ok (.ireturn, 1) := by decide +kernel
theorem dX7_pays_0 : decode cX7_pays 0 = .ok (.iconst 0, 1) := by decide +kernel
theorem dX7_pays_1 : decode cX7_pays 1 = .ok (.istore_n 2, 1) := by decide +kernel
theorem dX7_pays_2 : decode cX7_pays 2 = .ok (.iconst 0, 1) := by decide +kernel
theorem dX7_pays_3 : decode cX7_pays 3 = .ok (.istore_n 3, 1) := by decide +kernel
theorem dX7_pays_4 : decode cX7_pays 4 = .ok (.iload_n 3, 1) := by decide +kernel
theorem dX7_pays_5 : decode cX7_pays 5 = .ok (.iconst 3, 1) := by decide +kernel
theorem dX7_pays_6 : decode cX7_pays 6 = .ok (.if_icmp .ge 21, 3) := by decide +kernel
theorem dX7_pays_9 : decode cX7_pays 9 = .ok (.iload_n 2, 1) := by decide +kernel
theorem dX7_pays_10 : decode cX7_pays 10 = .ok (.iload_n 0, 1) := by decide +kernel
theorem dX7_pays_11 : decode cX7_pays 11 = .ok (.iload_n 3, 1) := by decide +kernel
theorem dX7_pays_12 : decode cX7_pays 12 = .ok (.invokestatic 195, 3) := by decide +kernel
theorem dX7_pays_15 : decode cX7_pays 15 = .ok (.aload_n 1, 1) := by decide +kernel
theorem dX7_pays_16 : decode cX7_pays 16 = .ok (.iload_n 3, 1) := by decide +kernel
theorem dX7_pays_17 : decode cX7_pays 17 = .ok (.iaload, 1) := by decide +kernel
theorem dX7_pays_18 : decode cX7_pays 18 = .ok (.imul, 1) := by decide +kernel
theorem dX7_pays_19 : decode cX7_pays 19 = .ok (.iadd, 1) := by decide +kernel
theorem dX7_pays_20 : decode cX7_pays 20 = .ok (.istore_n 2, 1) := by decide +kernel
theorem dX7_pays_21 : decode cX7_pays 21 = .ok (.iinc 3 1, 3) := by decide +kernel
theorem dX7_pays_24 : decode cX7_pays 24 = .ok (.goto (-20), 3) := by decide +kernel
theorem dX7_pays_27 : decode cX7_pays 27 = .ok (.iload_n 2, 1) := by decide +kernel
theorem dX7_pays_28 : decode cX7_pays 28 = .ok (.ireturn, 1) := by decide +kernel
theorem dX7_priceBy_0 : decode cX7_priceBy 0 = .ok (.iload_n 1, 1) := by decide +kernel
theorem dX7_priceBy_1 : decode cX7_priceBy 1 = .ok (.ifCond .ne 8, 3) := by decide +kernel
theorem dX7_priceBy_4 : decode cX7_priceBy 4 = .ok (.iload_n 0, 1) := by decide +kernel
theorem dX7_priceBy_5 : decode cX7_priceBy 5 = .ok (.bipush 100, 2) := by decide +kernel
theorem dX7_priceBy_7 : decode cX7_priceBy 7 = .ok (.idiv, 1) := by decide +kernel
theorem dX7_priceBy_8 : decode cX7_priceBy 8 = .ok (.ireturn, 1) := by decide +kernel
theorem dX7_priceBy_9 : decode cX7_priceBy 9 = .ok (.iload_n 1, 1) := by decide +kernel
theorem dX7_priceBy_10 : decode cX7_priceBy 10 = .ok (.iconst 1, 1) := by decide +kernel
theorem dX7_priceBy_11 : decode cX7_priceBy 11 = .ok (.if_icmp .ne 13, 3) := by decide +kernel
theorem dX7_priceBy_14 : decode cX7_priceBy 14 = .ok (.iload_n 0, 1) := by decide +kernel
theorem dX7_priceBy_15 : decode cX7_priceBy 15 = .ok (.bipush 10, 2) := by decide +kernel
theorem dX7_priceBy_17 : decode cX7_priceBy 17 = .ok (.idiv, 1) := by decide +kernel
theorem dX7_priceBy_18 : decode cX7_priceBy 18 = .ok (.bipush 10, 2) := by decide +kernel
theorem dX7_priceBy_20 : decode cX7_priceBy 20 = .ok (.irem, 1) := by decide +kernel
theorem dX7_priceBy_21 : decode cX7_priceBy 21 = .ok (.goto 7, 3) := by decide +kernel
theorem dX7_priceBy_24 : decode cX7_priceBy 24 = .ok (.iload_n 0, 1) := by decide +kernel
theorem dX7_priceBy_25 : decode cX7_priceBy 25 = .ok (.bipush 10, 2) := by decide +kernel
theorem dX7_priceBy_27 : decode cX7_priceBy 27 = .ok (.irem, 1) := by decide +kernel
theorem dX7_priceBy_28 : decode cX7_priceBy 28 = .ok (.ireturn, 1) := by decide +kernel
theorem dX7_hid_0 : decode cX7_hid 0 = .ok (.aload_n 0, 1) := by decide +kernel
theorem dX7_hid_1 : decode cX7_hid 1 = .ok (.invokevirtual 95, 3) := by decide +kernel
theorem dX7_hid_4 : decode cX7_hid 4 = .ok (.iconst 0, 1) := by decide +kernel
theorem dX7_hid_5 : decode cX7_hid 5 = .ok (.istore_n 1, 1) := by decide +kernel
theorem dX7_hid_6 : decode cX7_hid 6 = .ok (.iload_n 1, 1) := by decide +kernel
theorem dX7_hid_7 : decode cX7_hid 7 = .ok (.aload_n 0, 1) := by decide +kernel
theorem dX7_hid_8 : decode cX7_hid 8 = .ok (.getfield 12, 3) := by decide +kernel
theorem dX7_hid_11 : decode cX7_hid 11 = .ok (.getfield 81, 3) := by decide +kernel
theorem dX7_hid_14 : decode cX7_hid 14 = .ok (.if_icmp .ge 48, 3) := by decide +kernel
theorem dX7_hid_17 : decode cX7_hid 17 = .ok (.iconst 1, 1) := by decide +kernel
theorem dX7_hid_18 : decode cX7_hid 18 = .ok (.istore_n 2, 1) := by decide +kernel
theorem dX7_hid_19 : decode cX7_hid 19 = .ok (.iload_n 2, 1) := by decide +kernel
theorem dX7_hid_20 : decode cX7_hid 20 = .ok (.aload_n 0, 1) := by decide +kernel
theorem dX7_hid_21 : decode cX7_hid 21 = .ok (.getfield 12, 3) := by decide +kernel
theorem dX7_hid_24 : decode cX7_hid 24 = .ok (.getfield 92, 3) := by decide +kernel
theorem dX7_hid_27 : decode cX7_hid 27 = .ok (.iconst 0, 1) := by decide +kernel
theorem dX7_hid_28 : decode cX7_hid 28 = .ok (.aaload, 1) := by decide +kernel
theorem dX7_hid_29 : decode cX7_hid 29 = .ok (.iload_n 1, 1) := by decide +kernel
theorem dX7_hid_30 : decode cX7_hid 30 = .ok (.iaload, 1) := by decide +kernel
theorem dX7_hid_31 : decode cX7_hid 31 = .ok (.if_icmp .gt 25, 3) := by decide +kernel
theorem dX7_hid_34 : decode cX7_hid 34 = .ok (.aload_n 0, 1) := by decide +kernel
theorem dX7_hid_35 : decode cX7_hid 35 = .ok (.iload_n 1, 1) := by decide +kernel
theorem dX7_hid_36 : decode cX7_hid 36 = .ok (.iload_n 2, 1) := by decide +kernel
theorem dX7_hid_37 : decode cX7_hid 37 = .ok (.invokevirtual 205, 3) := by decide +kernel
theorem dX7_hid_40 : decode cX7_hid 40 = .ok (.ifCond .eq 10, 3) := by decide +kernel
theorem dX7_hid_43 : decode cX7_hid 43 = .ok (.bipush 100, 2) := by decide +kernel
theorem dX7_hid_45 : decode cX7_hid 45 = .ok (.iload_n 1, 1) := by decide +kernel
theorem dX7_hid_46 : decode cX7_hid 46 = .ok (.imul, 1) := by decide +kernel
theorem dX7_hid_47 : decode cX7_hid 47 = .ok (.iload_n 2, 1) := by decide +kernel
theorem dX7_hid_48 : decode cX7_hid 48 = .ok (.iadd, 1) := by decide +kernel
theorem dX7_hid_49 : decode cX7_hid 49 = .ok (.ireturn, 1) := by decide +kernel
theorem dX7_hid_50 : decode cX7_hid 50 = .ok (.iinc 2 1, 3) := by decide +kernel
theorem dX7_hid_53 : decode cX7_hid 53 = .ok (.goto (-34), 3) := by decide +kernel
theorem dX7_hid_56 : decode cX7_hid 56 = .ok (.iinc 1 1, 3) := by decide +kernel
theorem dX7_hid_59 : decode cX7_hid 59 = .ok (.goto (-53), 3) := by decide +kernel
theorem dX7_hid_62 : decode cX7_hid 62 = .ok (.bipush (-5), 2) := by decide +kernel
theorem dX7_hid_64 : decode cX7_hid 64 = .ok (.ireturn, 1) := by decide +kernel
theorem dX7_isToldWithout_0 : decode cX7_isToldWithout 0 = .ok (.iconst 0, 1) := by decide +kernel
theorem dX7_isToldWithout_1 : decode cX7_isToldWithout 1 = .ok (.istore_n 3, 1) := by decide +kernel
theorem dX7_isToldWithout_2 : decode cX7_isToldWithout 2 = .ok (.iload_n 3, 1) := by decide +kernel
theorem dX7_isToldWithout_3 : decode cX7_isToldWithout 3 = .ok (.iconst 3, 1) := by decide +kernel
theorem dX7_isToldWithout_4 : decode cX7_isToldWithout 4 = .ok (.if_icmp .ge 71, 3) := by decide +kernel
theorem dX7_isToldWithout_7 : decode cX7_isToldWithout 7 = .ok (.aload_n 0, 1) := by decide +kernel
theorem dX7_isToldWithout_8 : decode cX7_isToldWithout 8 = .ok (.getfield 42, 3) := by decide +kernel
theorem dX7_isToldWithout_11 : decode cX7_isToldWithout 11 = .ok (.aload_n 0, 1) := by decide +kernel
theorem dX7_isToldWithout_12 : decode cX7_isToldWithout 12 = .ok (.getfield 12, 3) := by decide +kernel
theorem dX7_isToldWithout_15 : decode cX7_isToldWithout 15 = .ok (.getfield 92, 3) := by decide +kernel
theorem dX7_isToldWithout_18 : decode cX7_isToldWithout 18 = .ok (.iconst 0, 1) := by decide +kernel
theorem dX7_isToldWithout_19 : decode cX7_isToldWithout 19 = .ok (.aaload, 1) := by decide +kernel
theorem dX7_isToldWithout_20 : decode cX7_isToldWithout 20 = .ok (.iload_n 3, 1) := by decide +kernel
theorem dX7_isToldWithout_21 : decode cX7_isToldWithout 21 = .ok (.invokevirtual 144, 3) := by decide +kernel
theorem dX7_isToldWithout_24 : decode cX7_isToldWithout 24 = .ok (.iload_n 2, 1) := by decide +kernel
theorem dX7_isToldWithout_25 : decode cX7_isToldWithout 25 = .ok (.aload_n 0, 1) := by decide +kernel
theorem dX7_isToldWithout_26 : decode cX7_isToldWithout 26 = .ok (.getfield 42, 3) := by decide +kernel
theorem dX7_isToldWithout_29 : decode cX7_isToldWithout 29 = .ok (.getfield 104, 3) := by decide +kernel
theorem dX7_isToldWithout_32 : decode cX7_isToldWithout 32 = .ok (.iload_n 1, 1) := by decide +kernel
theorem dX7_isToldWithout_33 : decode cX7_isToldWithout 33 = .ok (.aaload, 1) := by decide +kernel
theorem dX7_isToldWithout_34 : decode cX7_isToldWithout 34 = .ok (.iload_n 3, 1) := by decide +kernel
theorem dX7_isToldWithout_35 : decode cX7_isToldWithout 35 = .ok (.iaload, 1) := by decide +kernel
theorem dX7_isToldWithout_36 : decode cX7_isToldWithout 36 = .ok (.imul, 1) := by decide +kernel
theorem dX7_isToldWithout_37 : decode cX7_isToldWithout 37 = .ok (.isub, 1) := by decide +kernel
theorem dX7_isToldWithout_38 : decode cX7_isToldWithout 38 = .ok (.istore 4, 2) := by decide +kernel
theorem dX7_isToldWithout_40 : decode cX7_isToldWithout 40 = .ok (.aload_n 0, 1) := by decide +kernel
theorem dX7_isToldWithout_41 : decode cX7_isToldWithout 41 = .ok (.getfield 12, 3) := by decide +kernel
theorem dX7_isToldWithout_44 : decode cX7_isToldWithout 44 = .ok (.getfield 113, 3) := by decide +kernel
theorem dX7_isToldWithout_47 : decode cX7_isToldWithout 47 = .ok (.iload_n 3, 1) := by decide +kernel
theorem dX7_isToldWithout_48 : decode cX7_isToldWithout 48 = .ok (.iaload, 1) := by decide +kernel
theorem dX7_isToldWithout_49 : decode cX7_isToldWithout 49 = .ok (.iconst (-1), 1) := by decide +kernel
theorem dX7_isToldWithout_50 : decode cX7_isToldWithout 50 = .ok (.if_icmp .eq 19, 3) := by decide +kernel
theorem dX7_isToldWithout_53 : decode cX7_isToldWithout 53 = .ok (.aload_n 0, 1) := by decide +kernel
theorem dX7_isToldWithout_54 : decode cX7_isToldWithout 54 = .ok (.getfield 12, 3) := by decide +kernel
theorem dX7_isToldWithout_57 : decode cX7_isToldWithout 57 = .ok (.getfield 113, 3) := by decide +kernel
theorem dX7_isToldWithout_60 : decode cX7_isToldWithout 60 = .ok (.iload_n 3, 1) := by decide +kernel
theorem dX7_isToldWithout_61 : decode cX7_isToldWithout 61 = .ok (.iaload, 1) := by decide +kernel
theorem dX7_isToldWithout_62 : decode cX7_isToldWithout 62 = .ok (.iload 4, 2) := by decide +kernel
theorem dX7_isToldWithout_64 : decode cX7_isToldWithout 64 = .ok (.if_icmp .eq 5, 3) := by decide +kernel
theorem dX7_isToldWithout_67 : decode cX7_isToldWithout 67 = .ok (.iconst 0, 1) := by decide +kernel
theorem dX7_isToldWithout_68 : decode cX7_isToldWithout 68 = .ok (.ireturn, 1) := by decide +kernel
theorem dX7_isToldWithout_69 : decode cX7_isToldWithout 69 = .ok (.iinc 3 1, 3) := by decide +kernel
theorem dX7_isToldWithout_72 : decode cX7_isToldWithout 72 = .ok (.goto (-70), 3) := by decide +kernel
theorem dX7_isToldWithout_75 : decode cX7_isToldWithout 75 = .ok (.iconst 1, 1) := by decide +kernel
theorem dX7_isToldWithout_76 : decode cX7_isToldWithout 76 = .ok (.ireturn, 1) := by decide +kernel
theorem dX7_months_0 : decode cX7_months 0 = .ok (.iconst 0, 1) := by decide +kernel
theorem dX7_months_1 : decode cX7_months 1 = .ok (.istore_n 1, 1) := by decide +kernel
theorem dX7_months_2 : decode cX7_months 2 = .ok (.iconst 0, 1) := by decide +kernel
theorem dX7_months_3 : decode cX7_months 3 = .ok (.istore_n 2, 1) := by decide +kernel
theorem dX7_months_4 : decode cX7_months 4 = .ok (.iload_n 2, 1) := by decide +kernel
theorem dX7_months_5 : decode cX7_months 5 = .ok (.bipush 12, 2) := by decide +kernel
theorem dX7_months_7 : decode cX7_months 7 = .ok (.if_icmp .ge 40, 3) := by decide +kernel
theorem dX7_months_10 : decode cX7_months 10 = .ok (.aload_n 0, 1) := by decide +kernel
theorem dX7_months_11 : decode cX7_months 11 = .ok (.getfield 42, 3) := by decide +kernel
theorem dX7_months_14 : decode cX7_months 14 = .ok (.aload_n 0, 1) := by decide +kernel
theorem dX7_months_15 : decode cX7_months 15 = .ok (.getfield 12, 3) := by decide +kernel
theorem dX7_months_18 : decode cX7_months 18 = .ok (.aload_n 0, 1) := by decide +kernel
theorem dX7_months_19 : decode cX7_months 19 = .ok (.invokevirtual 208, 3) := by decide +kernel
theorem dX7_months_22 : decode cX7_months 22 = .ok (.iload_n 2, 1) := by decide +kernel
theorem dX7_months_23 : decode cX7_months 23 = .ok (.invokevirtual 212, 3) := by decide +kernel
theorem dX7_months_26 : decode cX7_months 26 = .ok (.aload_n 0, 1) := by decide +kernel
theorem dX7_months_27 : decode cX7_months 27 = .ok (.iconst 0, 1) := by decide +kernel
theorem dX7_months_28 : decode cX7_months 28 = .ok (.iconst 0, 1) := by decide +kernel
theorem dX7_months_29 : decode cX7_months 29 = .ok (.invokevirtual 205, 3) := by decide +kernel
theorem dX7_months_32 : decode cX7_months 32 = .ok (.ifCond .eq 9, 3) := by decide +kernel
theorem dX7_months_35 : decode cX7_months 35 = .ok (.iload_n 1, 1) := by decide +kernel
theorem dX7_months_36 : decode cX7_months 36 = .ok (.iconst 1, 1) := by decide +kernel
theorem dX7_months_37 : decode cX7_months 37 = .ok (.iload_n 2, 1) := by decide +kernel
theorem dX7_months_38 : decode cX7_months 38 = .ok (.ishl, 1) := by decide +kernel
theorem dX7_months_39 : decode cX7_months 39 = .ok (.ior, 1) := by decide +kernel
theorem dX7_months_40 : decode cX7_months 40 = .ok (.istore_n 1, 1) := by decide +kernel
theorem dX7_months_41 : decode cX7_months 41 = .ok (.iinc 2 1, 3) := by decide +kernel
theorem dX7_months_44 : decode cX7_months 44 = .ok (.goto (-40), 3) := by decide +kernel
theorem dX7_months_47 : decode cX7_months 47 = .ok (.iload_n 1, 1) := by decide +kernel
theorem dX7_months_48 : decode cX7_months 48 = .ok (.ireturn, 1) := by decide +kernel
theorem dX7_odds_0 : decode cX7_odds 0 = .ok (.aload_n 0, 1) := by decide +kernel
theorem dX7_odds_1 : decode cX7_odds 1 = .ok (.invokevirtual 148, 3) := by decide +kernel
theorem dX7_odds_4 : decode cX7_odds 4 = .ok (.aload_n 0, 1) := by decide +kernel
theorem dX7_odds_5 : decode cX7_odds 5 = .ok (.aload_n 0, 1) := by decide +kernel
theorem dX7_odds_6 : decode cX7_odds 6 = .ok (.getfield 51, 3) := by decide +kernel
theorem dX7_odds_9 : decode cX7_odds 9 = .ok (.getfield 215, 3) := by decide +kernel
theorem dX7_odds_12 : decode cX7_odds 12 = .ok (.iload_n 1, 1) := by decide +kernel
theorem dX7_odds_13 : decode cX7_odds 13 = .ok (.iload_n 2, 1) := by decide +kernel
theorem dX7_odds_14 : decode cX7_odds 14 = .ok (.invokevirtual 218, 3) := by decide +kernel
theorem dX7_odds_17 : decode cX7_odds 17 = .ok (.lreturn, 1) := by decide +kernel
theorem dX7_mean_0 : decode cX7_mean 0 = .ok (.aload_n 0, 1) := by decide +kernel
theorem dX7_mean_1 : decode cX7_mean 1 = .ok (.invokevirtual 148, 3) := by decide +kernel
theorem dX7_mean_4 : decode cX7_mean 4 = .ok (.aload_n 0, 1) := by decide +kernel
theorem dX7_mean_5 : decode cX7_mean 5 = .ok (.aload_n 0, 1) := by decide +kernel
theorem dX7_mean_6 : decode cX7_mean 6 = .ok (.getfield 51, 3) := by decide +kernel
theorem dX7_mean_9 : decode cX7_mean 9 = .ok (.getfield 222, 3) := by decide +kernel
theorem dX7_mean_12 : decode cX7_mean 12 = .ok (.iload_n 1, 1) := by decide +kernel
theorem dX7_mean_13 : decode cX7_mean 13 = .ok (.iload_n 2, 1) := by decide +kernel
theorem dX7_mean_14 : decode cX7_mean 14 = .ok (.invokevirtual 218, 3) := by decide +kernel
theorem dX7_mean_17 : decode cX7_mean 17 = .ok (.lreturn, 1) := by decide +kernel
theorem dX7_sharePerHerdFound_0 : decode cX7_sharePerHerdFound 0 = .ok (.aload_n 0, 1) := by decide +kernel
theorem dX7_sharePerHerdFound_1 : decode cX7_sharePerHerdFound 1 = .ok (.iload_n 2, 1) := by decide +kernel
theorem dX7_sharePerHerdFound_2 : decode cX7_sharePerHerdFound 2 = .ok (.invokevirtual 89, 3) := by decide +kernel
theorem dX7_sharePerHerdFound_5 : decode cX7_sharePerHerdFound 5 = .ok (.ifCond .eq 22, 3) := by decide +kernel
theorem dX7_sharePerHerdFound_8 : decode cX7_sharePerHerdFound 8 = .ok (.iload_n 3, 1) := by decide +kernel
theorem dX7_sharePerHerdFound_9 : decode cX7_sharePerHerdFound 9 = .ok (.iconst 0, 1) := by decide +kernel
theorem dX7_sharePerHerdFound_10 : decode cX7_sharePerHerdFound 10 = .ok (.iconst 1, 1) := by decide +kernel
theorem dX7_sharePerHerdFound_11 : decode cX7_sharePerHerdFound 11 = .ok (.invokestatic 73, 3) := by decide +kernel
theorem dX7_sharePerHerdFound_14 : decode cX7_sharePerHerdFound 14 = .ok (.ifCond .eq 13, 3) := by decide +kernel
theorem dX7_sharePerHerdFound_17 : decode cX7_sharePerHerdFound 17 = .ok (.aload_n 0, 1) := by decide +kernel
theorem dX7_sharePerHerdFound_18 : decode cX7_sharePerHerdFound 18 = .ok (.getfield 51, 3) := by decide +kernel
theorem dX7_sharePerHerdFound_21 : decode cX7_sharePerHerdFound 21 = .ok (.getfield 151, 3) := by decide +kernel
theorem dX7_sharePerHerdFound_24 : decode cX7_sharePerHerdFound 24 = .ok (.ifCond .ne 7, 3) := by decide +kernel
theorem dX7_sharePerHerdFound_27 : decode cX7_sharePerHerdFound 27 = .ok (.ldc2_w 225, 3) := by decide +kernel
theorem dX7_sharePerHerdFound_30 : decode cX7_sharePerHerdFound 30 = .ok (.lreturn, 1) := by decide +kernel
theorem dX7_sharePerHerdFound_31 : decode cX7_sharePerHerdFound 31 = .ok (.aload_n 0, 1) := by decide +kernel
theorem dX7_sharePerHerdFound_32 : decode cX7_sharePerHerdFound 32 = .ok (.getfield 51, 3) := by decide +kernel
theorem dX7_sharePerHerdFound_35 : decode cX7_sharePerHerdFound 35 = .ok (.getfield 151, 3) := by decide +kernel
theorem dX7_sharePerHerdFound_38 : decode cX7_sharePerHerdFound 38 = .ok (.i2l, 1) := by decide +kernel
theorem dX7_sharePerHerdFound_39 : decode cX7_sharePerHerdFound 39 = .ok (.aload_n 1, 1) := by decide +kernel
theorem dX7_sharePerHerdFound_40 : decode cX7_sharePerHerdFound 40 = .ok (.iload_n 2, 1) := by decide +kernel
theorem dX7_sharePerHerdFound_41 : decode cX7_sharePerHerdFound 41 = .ok (.iaload, 1) := by decide +kernel
theorem dX7_sharePerHerdFound_42 : decode cX7_sharePerHerdFound 42 = .ok (.i2l, 1) := by decide +kernel
theorem dX7_sharePerHerdFound_43 : decode cX7_sharePerHerdFound 43 = .ok (.invokestatic 167, 3) := by decide +kernel
theorem dX7_sharePerHerdFound_46 : decode cX7_sharePerHerdFound 46 = .ok (.lstore 4, 2) := by decide +kernel
theorem dX7_sharePerHerdFound_48 : decode cX7_sharePerHerdFound 48 = .ok (.lload 4, 2) := by decide +kernel
theorem dX7_sharePerHerdFound_50 : decode cX7_sharePerHerdFound 50 = .ok (.lconst 0, 1) := by decide +kernel
theorem dX7_sharePerHerdFound_51 : decode cX7_sharePerHerdFound 51 = .ok (.lcmp, 1) := by decide +kernel
theorem dX7_sharePerHerdFound_52 : decode cX7_sharePerHerdFound 52 = .ok (.ifCond .gt 7, 3) := by decide +kernel
theorem dX7_sharePerHerdFound_55 : decode cX7_sharePerHerdFound 55 = .ok (.ldc2_w 225, 3) := by decide +kernel
theorem dX7_sharePerHerdFound_58 : decode cX7_sharePerHerdFound 58 = .ok (.lreturn, 1) := by decide +kernel
theorem dX7_sharePerHerdFound_59 : decode cX7_sharePerHerdFound 59 = .ok (.iload_n 3, 1) := by decide +kernel
theorem dX7_sharePerHerdFound_60 : decode cX7_sharePerHerdFound 60 = .ok (.ifCond .ne 9, 3) := by decide +kernel
theorem dX7_sharePerHerdFound_63 : decode cX7_sharePerHerdFound 63 = .ok (.aload_n 1, 1) := by decide +kernel
theorem dX7_sharePerHerdFound_64 : decode cX7_sharePerHerdFound 64 = .ok (.iload_n 2, 1) := by decide +kernel
theorem dX7_sharePerHerdFound_65 : decode cX7_sharePerHerdFound 65 = .ok (.iaload, 1) := by decide +kernel
theorem dX7_sharePerHerdFound_66 : decode cX7_sharePerHerdFound 66 = .ok (.goto 10, 3) := by decide +kernel
theorem dX7_sharePerHerdFound_69 : decode cX7_sharePerHerdFound 69 = .ok (.aload_n 0, 1) := by decide +kernel
theorem dX7_sharePerHerdFound_70 : decode cX7_sharePerHerdFound 70 = .ok (.getfield 51, 3) := by decide +kernel
theorem dX7_sharePerHerdFound_73 : decode cX7_sharePerHerdFound 73 = .ok (.getfield 151, 3) := by decide +kernel
theorem dX7_sharePerHerdFound_76 : decode cX7_sharePerHerdFound 76 = .ok (.i2l, 1) := by decide +kernel
theorem dX7_sharePerHerdFound_77 : decode cX7_sharePerHerdFound 77 = .ok (.lload 4, 2) := by decide +kernel
theorem dX7_sharePerHerdFound_79 : decode cX7_sharePerHerdFound 79 = .ok (.ldiv, 1) := by decide +kernel
theorem dX7_sharePerHerdFound_80 : decode cX7_sharePerHerdFound 80 = .ok (.lreturn, 1) := by decide +kernel
theorem dX7_book_0 : decode cX7_book 0 = .ok (.iload_n 1, 1) := by decide +kernel
theorem dX7_book_1 : decode cX7_book 1 = .ok (.iconst (-1), 1) := by decide +kernel
theorem dX7_book_2 : decode cX7_book 2 = .ok (.if_icmp .ne 13, 3) := by decide +kernel
theorem dX7_book_5 : decode cX7_book 5 = .ok (.aload_n 0, 1) := by decide +kernel
theorem dX7_book_6 : decode cX7_book 6 = .ok (.getfield 12, 3) := by decide +kernel
theorem dX7_book_9 : decode cX7_book 9 = .ok (.iconst 0, 1) := by decide +kernel
theorem dX7_book_10 : decode cX7_book 10 = .ok (.putfield 227, 3) := by decide +kernel
theorem dX7_book_13 : decode cX7_book 13 = .ok (.iconst 0, 1) := by decide +kernel
theorem dX7_book_14 : decode cX7_book 14 = .ok (.ireturn, 1) := by decide +kernel
theorem dX7_book_15 : decode cX7_book 15 = .ok (.iload_n 1, 1) := by decide +kernel
theorem dX7_book_16 : decode cX7_book 16 = .ok (.invokestatic 101, 3) := by decide +kernel
theorem dX7_book_19 : decode cX7_book 19 = .ok (.ifCond .ne 5, 3) := by decide +kernel
theorem dX7_book_22 : decode cX7_book 22 = .ok (.iconst (-1), 1) := by decide +kernel
theorem dX7_book_23 : decode cX7_book 23 = .ok (.ireturn, 1) := by decide +kernel
theorem dX7_book_24 : decode cX7_book 24 = .ok (.iload_n 2, 1) := by decide +kernel
theorem dX7_book_25 : decode cX7_book 25 = .ok (.iconst 0, 1) := by decide +kernel
theorem dX7_book_26 : decode cX7_book 26 = .ok (.sipush 999, 3) := by decide +kernel
theorem dX7_book_29 : decode cX7_book 29 = .ok (.invokestatic 73, 3) := by decide +kernel
theorem dX7_book_32 : decode cX7_book 32 = .ok (.ifCond .ne 6, 3) := by decide +kernel
theorem dX7_book_35 : decode cX7_book 35 = .ok (.bipush (-2), 2) := by decide +kernel
theorem dX7_book_37 : decode cX7_book 37 = .ok (.ireturn, 1) := by decide +kernel
theorem dX7_book_38 : decode cX7_book 38 = .ok (.aload_n 0, 1) := by decide +kernel
theorem dX7_book_39 : decode cX7_book 39 = .ok (.getfield 12, 3) := by decide +kernel
theorem dX7_book_42 : decode cX7_book 42 = .ok (.getfield 227, 3) := by decide +kernel
theorem dX7_book_45 : decode cX7_book 45 = .ok (.bipush 12, 2) := by decide +kernel
theorem dX7_book_47 : decode cX7_book 47 = .ok (.if_icmp .lt 6, 3) := by decide +kernel
theorem dX7_book_50 : decode cX7_book 50 = .ok (.bipush (-4), 2) := by decide +kernel
theorem dX7_book_52 : decode cX7_book 52 = .ok (.ireturn, 1) := by decide +kernel
theorem dX7_book_53 : decode cX7_book 53 = .ok (.aload_n 0, 1) := by decide +kernel
theorem dX7_book_54 : decode cX7_book 54 = .ok (.getfield 12, 3) := by decide +kernel
theorem dX7_book_57 : decode cX7_book 57 = .ok (.getfield 230, 3) := by decide +kernel
theorem dX7_book_60 : decode cX7_book 60 = .ok (.aload_n 0, 1) := by decide +kernel
theorem dX7_book_61 : decode cX7_book 61 = .ok (.getfield 12, 3) := by decide +kernel
theorem dX7_book_64 : decode cX7_book 64 = .ok (.getfield 227, 3) := by decide +kernel
theorem dX7_book_67 : decode cX7_book 67 = .ok (.iload_n 1, 1) := by decide +kernel
theorem dX7_book_68 : decode cX7_book 68 = .ok (.iastore, 1) := by decide +kernel
theorem dX7_book_69 : decode cX7_book 69 = .ok (.aload_n 0, 1) := by decide +kernel
theorem dX7_book_70 : decode cX7_book 70 = .ok (.getfield 12, 3) := by decide +kernel
theorem dX7_book_73 : decode cX7_book 73 = .ok (.getfield 233, 3) := by decide +kernel
theorem dX7_book_76 : decode cX7_book 76 = .ok (.aload_n 0, 1) := by decide +kernel
theorem dX7_book_77 : decode cX7_book 77 = .ok (.getfield 12, 3) := by decide +kernel
theorem dX7_book_80 : decode cX7_book 80 = .ok (.getfield 227, 3) := by decide +kernel
theorem dX7_book_83 : decode cX7_book 83 = .ok (.iload_n 2, 1) := by decide +kernel
theorem dX7_book_84 : decode cX7_book 84 = .ok (.iastore, 1) := by decide +kernel
theorem dX7_book_85 : decode cX7_book 85 = .ok (.aload_n 0, 1) := by decide +kernel
theorem dX7_book_86 : decode cX7_book 86 = .ok (.getfield 12, 3) := by decide +kernel
theorem dX7_book_89 : decode cX7_book 89 = .ok (.dup, 1) := by decide +kernel
theorem dX7_book_90 : decode cX7_book 90 = .ok (.getfield 227, 3) := by decide +kernel
theorem dX7_book_93 : decode cX7_book 93 = .ok (.iconst 1, 1) := by decide +kernel
theorem dX7_book_94 : decode cX7_book 94 = .ok (.iadd, 1) := by decide +kernel
theorem dX7_book_95 : decode cX7_book 95 = .ok (.putfield 227, 3) := by decide +kernel
theorem dX7_book_98 : decode cX7_book 98 = .ok (.aload_n 0, 1) := by decide +kernel
theorem dX7_book_99 : decode cX7_book 99 = .ok (.getfield 12, 3) := by decide +kernel
theorem dX7_book_102 : decode cX7_book 102 = .ok (.getfield 227, 3) := by decide +kernel
theorem dX7_book_105 : decode cX7_book 105 = .ok (.ireturn, 1) := by decide +kernel
theorem dX7_looked_0 : decode cX7_looked 0 = .ok (.aload_n 0, 1) := by decide +kernel
theorem dX7_looked_1 : decode cX7_looked 1 = .ok (.invokevirtual 95, 3) := by decide +kernel
theorem dX7_looked_4 : decode cX7_looked 4 = .ok (.iconst 0, 1) := by decide +kernel
theorem dX7_looked_5 : decode cX7_looked 5 = .ok (.istore_n 1, 1) := by decide +kernel
theorem dX7_looked_6 : decode cX7_looked 6 = .ok (.iload_n 1, 1) := by decide +kernel
theorem dX7_looked_7 : decode cX7_looked 7 = .ok (.aload_n 0, 1) := by decide +kernel
theorem dX7_looked_8 : decode cX7_looked 8 = .ok (.getfield 12, 3) := by decide +kernel
theorem dX7_looked_11 : decode cX7_looked 11 = .ok (.getfield 227, 3) := by decide +kernel
theorem dX7_looked_14 : decode cX7_looked 14 = .ok (.if_icmp .ge 48, 3) := by decide +kernel
theorem dX7_looked_17 : decode cX7_looked 17 = .ok (.aload_n 0, 1) := by decide +kernel
theorem dX7_looked_18 : decode cX7_looked 18 = .ok (.getfield 12, 3) := by decide +kernel
theorem dX7_looked_21 : decode cX7_looked 21 = .ok (.getfield 233, 3) := by decide +kernel
theorem dX7_looked_24 : decode cX7_looked 24 = .ok (.iload_n 1, 1) := by decide +kernel
theorem dX7_looked_25 : decode cX7_looked 25 = .ok (.iaload, 1) := by decide +kernel
theorem dX7_looked_26 : decode cX7_looked 26 = .ok (.aload_n 0, 1) := by decide +kernel
theorem dX7_looked_27 : decode cX7_looked 27 = .ok (.getfield 42, 3) := by decide +kernel
theorem dX7_looked_30 : decode cX7_looked 30 = .ok (.aload_n 0, 1) := by decide +kernel
theorem dX7_looked_31 : decode cX7_looked 31 = .ok (.getfield 12, 3) := by decide +kernel
theorem dX7_looked_34 : decode cX7_looked 34 = .ok (.getfield 92, 3) := by decide +kernel
theorem dX7_looked_37 : decode cX7_looked 37 = .ok (.iconst 0, 1) := by decide +kernel
theorem dX7_looked_38 : decode cX7_looked 38 = .ok (.aaload, 1) := by decide +kernel
theorem dX7_looked_39 : decode cX7_looked 39 = .ok (.aload_n 0, 1) := by decide +kernel
theorem dX7_looked_40 : decode cX7_looked 40 = .ok (.getfield 12, 3) := by decide +kernel
theorem dX7_looked_43 : decode cX7_looked 43 = .ok (.getfield 230, 3) := by decide +kernel
theorem dX7_looked_46 : decode cX7_looked 46 = .ok (.iload_n 1, 1) := by decide +kernel
theorem dX7_looked_47 : decode cX7_looked 47 = .ok (.iaload, 1) := by decide +kernel
theorem dX7_looked_48 : decode cX7_looked 48 = .ok (.invokevirtual 144, 3) := by decide +kernel
theorem dX7_looked_51 : decode cX7_looked 51 = .ok (.if_icmp .eq 5, 3) := by decide +kernel
theorem dX7_looked_54 : decode cX7_looked 54 = .ok (.iload_n 1, 1) := by decide +kernel
theorem dX7_looked_55 : decode cX7_looked 55 = .ok (.ireturn, 1) := by decide +kernel
theorem dX7_looked_56 : decode cX7_looked 56 = .ok (.iinc 1 1, 3) := by decide +kernel
theorem dX7_looked_59 : decode cX7_looked 59 = .ok (.goto (-53), 3) := by decide +kernel
theorem dX7_looked_62 : decode cX7_looked 62 = .ok (.bipush (-5), 2) := by decide +kernel
theorem dX7_looked_64 : decode cX7_looked 64 = .ok (.ireturn, 1) := by decide +kernel
theorem dX7_judge_0 : decode cX7_judge 0 = .ok (.iload_n 1, 1) := by decide +kernel
theorem dX7_judge_1 : decode cX7_judge 1 = .ok (.invokestatic 236, 3) := by decide +kernel
theorem dX7_judge_4 : decode cX7_judge 4 = .ok (.ifCond .ne 5, 3) := by decide +kernel
theorem dX7_judge_7 : decode cX7_judge 7 = .ok (.iconst (-1), 1) := by decide +kernel
theorem dX7_judge_8 : decode cX7_judge 8 = .ok (.ireturn, 1) := by decide +kernel
theorem dX7_judge_9 : decode cX7_judge 9 = .ok (.aload_n 0, 1) := by decide +kernel
theorem dX7_judge_10 : decode cX7_judge 10 = .ok (.getfield 68, 3) := by decide +kernel
theorem dX7_judge_13 : decode cX7_judge 13 = .ok (.iload_n 1, 1) := by decide +kernel
theorem dX7_judge_14 : decode cX7_judge 14 = .ok (.aaload, 1) := by decide +kernel
theorem dX7_judge_15 : decode cX7_judge 15 = .ok (.astore_n 3, 1) := by decide +kernel
theorem dX7_judge_16 : decode cX7_judge 16 = .ok (.aload_n 3, 1) := by decide +kernel
theorem dX7_judge_17 : decode cX7_judge 17 = .ok (.invokevirtual 239, 3) := by decide +kernel
theorem dX7_judge_20 : decode cX7_judge 20 = .ok (.ifCond .ne 13, 3) := by decide +kernel
theorem dX7_judge_23 : decode cX7_judge 23 = .ok (.aload_n 3, 1) := by decide +kernel
theorem dX7_judge_24 : decode cX7_judge 24 = .ok (.getfield 243, 3) := by decide +kernel
theorem dX7_judge_27 : decode cX7_judge 27 = .ok (.ifCond .eq 6, 3) := by decide +kernel
theorem dX7_judge_30 : decode cX7_judge 30 = .ok (.bipush (-12), 2) := by decide +kernel
theorem dX7_judge_32 : decode cX7_judge 32 = .ok (.ireturn, 1) := by decide +kernel
theorem dX7_judge_33 : decode cX7_judge 33 = .ok (.iconst 0, 1) := by decide +kernel
theorem dX7_judge_34 : decode cX7_judge 34 = .ok (.istore 4, 2) := by decide +kernel
theorem dX7_judge_36 : decode cX7_judge 36 = .ok (.iload 4, 2) := by decide +kernel
theorem dX7_judge_38 : decode cX7_judge 38 = .ok (.aload_n 0, 1) := by decide +kernel
theorem dX7_judge_39 : decode cX7_judge 39 = .ok (.getfield 12, 3) := by decide +kernel
theorem dX7_judge_42 : decode cX7_judge 42 = .ok (.getfield 81, 3) := by decide +kernel
theorem dX7_judge_45 : decode cX7_judge 45 = .ok (.if_icmp .ge 55, 3) := by decide +kernel
theorem dX7_judge_48 : decode cX7_judge 48 = .ok (.aload_n 3, 1) := by decide +kernel
theorem dX7_judge_49 : decode cX7_judge 49 = .ok (.iload_n 2, 1) := by decide +kernel
theorem dX7_judge_50 : decode cX7_judge 50 = .ok (.iload 4, 2) := by decide +kernel
theorem dX7_judge_52 : decode cX7_judge 52 = .ok (.iadd, 1) := by decide +kernel
theorem dX7_judge_53 : decode cX7_judge 53 = .ok (.invokevirtual 246, 3) := by decide +kernel
theorem dX7_judge_56 : decode cX7_judge 56 = .ok (.ifCond .ne 9, 3) := by decide +kernel
theorem dX7_judge_59 : decode cX7_judge 59 = .ok (.bipush 100, 2) := by decide +kernel
theorem dX7_judge_61 : decode cX7_judge 61 = .ok (.iload 4, 2) := by decide +kernel
theorem dX7_judge_63 : decode cX7_judge 63 = .ok (.iadd, 1) := by decide +kernel
theorem dX7_judge_64 : decode cX7_judge 64 = .ok (.ireturn, 1) := by decide +kernel
theorem dX7_judge_65 : decode cX7_judge 65 = .ok (.aload_n 3, 1) := by decide +kernel
theorem dX7_judge_66 : decode cX7_judge 66 = .ok (.getfield 249, 3) := by decide +kernel
theorem dX7_judge_69 : decode cX7_judge 69 = .ok (.iload_n 2, 1) := by decide +kernel
theorem dX7_judge_70 : decode cX7_judge 70 = .ok (.iload 4, 2) := by decide +kernel
theorem dX7_judge_72 : decode cX7_judge 72 = .ok (.iadd, 1) := by decide +kernel
theorem dX7_judge_73 : decode cX7_judge 73 = .ok (.laload, 1) := by decide +kernel
theorem dX7_judge_74 : decode cX7_judge 74 = .ok (.aload_n 0, 1) := by decide +kernel
theorem dX7_judge_75 : decode cX7_judge 75 = .ok (.getfield 12, 3) := by decide +kernel
theorem dX7_judge_78 : decode cX7_judge 78 = .ok (.getfield 92, 3) := by decide +kernel
theorem dX7_judge_81 : decode cX7_judge 81 = .ok (.iconst 0, 1) := by decide +kernel
theorem dX7_judge_82 : decode cX7_judge 82 = .ok (.aaload, 1) := by decide +kernel
theorem dX7_judge_83 : decode cX7_judge 83 = .ok (.iload 4, 2) := by decide +kernel
theorem dX7_judge_85 : decode cX7_judge 85 = .ok (.iaload, 1) := by decide +kernel
theorem dX7_judge_86 : decode cX7_judge 86 = .ok (.i2l, 1) := by decide +kernel
theorem dX7_judge_87 : decode cX7_judge 87 = .ok (.lcmp, 1) := by decide +kernel
theorem dX7_judge_88 : decode cX7_judge 88 = .ok (.ifCond .eq 6, 3) := by decide +kernel
theorem dX7_judge_91 : decode cX7_judge 91 = .ok (.iload 4, 2) := by decide +kernel
theorem dX7_judge_93 : decode cX7_judge 93 = .ok (.ireturn, 1) := by decide +kernel
theorem dX7_judge_94 : decode cX7_judge 94 = .ok (.iinc 4 1, 3) := by decide +kernel
theorem dX7_judge_97 : decode cX7_judge 97 = .ok (.goto (-61), 3) := by decide +kernel
theorem dX7_judge_100 : decode cX7_judge 100 = .ok (.bipush (-5), 2) := by decide +kernel
theorem dX7_judge_102 : decode cX7_judge 102 = .ok (.ireturn, 1) := by decide +kernel
theorem dX7_image_0 : decode cX7_image 0 = .ok (.aload_n 0, 1) := by decide +kernel
theorem dX7_image_1 : decode cX7_image 1 = .ok (.getfield 18, 3) := by decide +kernel
theorem dX7_image_4 : decode cX7_image 4 = .ok (.aload_n 0, 1) := by decide +kernel
theorem dX7_image_5 : decode cX7_image 5 = .ok (.getfield 12, 3) := by decide +kernel
theorem dX7_image_8 : decode cX7_image 8 = .ok (.invokevirtual 253, 3) := by decide +kernel
theorem dX7_image_11 : decode cX7_image 11 = .ok (.aload_n 0, 1) := by decide +kernel
theorem dX7_image_12 : decode cX7_image 12 = .ok (.iconst 1, 1) := by decide +kernel
theorem dX7_image_13 : decode cX7_image 13 = .ok (.putfield 257, 3) := by decide +kernel
theorem dX7_image_16 : decode cX7_image 16 = .ok (.aload_n 0, 1) := by decide +kernel
theorem dX7_image_17 : decode cX7_image 17 = .ok (.getfield 12, 3) := by decide +kernel
theorem dX7_image_20 : decode cX7_image 20 = .ok (.getfield 81, 3) := by decide +kernel
theorem dX7_image_23 : decode cX7_image 23 = .ok (.ireturn, 1) := by decide +kernel
theorem dX7_undo_0 : decode cX7_undo 0 = .ok (.aload_n 0, 1) := by decide +kernel
theorem dX7_undo_1 : decode cX7_undo 1 = .ok (.getfield 257, 3) := by decide +kernel
theorem dX7_undo_4 : decode cX7_undo 4 = .ok (.ifCond .ne 6, 3) := by decide +kernel
theorem dX7_undo_7 : decode cX7_undo 7 = .ok (.bipush (-3), 2) := by decide +kernel
theorem dX7_undo_9 : decode cX7_undo 9 = .ok (.ireturn, 1) := by decide +kernel
theorem dX7_undo_10 : decode cX7_undo 10 = .ok (.aload_n 0, 1) := by decide +kernel
theorem dX7_undo_11 : decode cX7_undo 11 = .ok (.getfield 12, 3) := by decide +kernel
theorem dX7_undo_14 : decode cX7_undo 14 = .ok (.aload_n 0, 1) := by decide +kernel
theorem dX7_undo_15 : decode cX7_undo 15 = .ok (.getfield 18, 3) := by decide +kernel
theorem dX7_undo_18 : decode cX7_undo 18 = .ok (.invokevirtual 253, 3) := by decide +kernel
theorem dX7_undo_21 : decode cX7_undo 21 = .ok (.aload_n 0, 1) := by decide +kernel
theorem dX7_undo_22 : decode cX7_undo 22 = .ok (.getfield 12, 3) := by decide +kernel
theorem dX7_undo_25 : decode cX7_undo 25 = .ok (.getfield 81, 3) := by decide +kernel
theorem dX7_undo_28 : decode cX7_undo 28 = .ok (.ireturn, 1) := by decide +kernel
theorem dX7_act_0 : decode cX7_act 0 = .ok (.aload_n 0, 1) := by decide +kernel
theorem dX7_act_1 : decode cX7_act 1 = .ok (.getfield 62, 3) := by decide +kernel
theorem dX7_act_4 : decode cX7_act 4 = .ok (.invokevirtual 261, 3) := by decide +kernel
theorem dX7_act_7 : decode cX7_act 7 = .ok (.aload_n 0, 1) := by decide +kernel
theorem dX7_act_8 : decode cX7_act 8 = .ok (.iload_n 1, 1) := by decide +kernel
theorem dX7_act_9 : decode cX7_act 9 = .ok (.invokevirtual 89, 3) := by decide +kernel
theorem dX7_act_12 : decode cX7_act 12 = .ok (.ifCond .eq 12, 3) := by decide +kernel
theorem dX7_act_15 : decode cX7_act 15 = .ok (.iload_n 2, 1) := by decide +kernel
theorem dX7_act_16 : decode cX7_act 16 = .ok (.iconst 0, 1) := by decide +kernel
theorem dX7_act_17 : decode cX7_act 17 = .ok (.iconst 2, 1) := by decide +kernel
theorem dX7_act_18 : decode cX7_act 18 = .ok (.invokestatic 73, 3) := by decide +kernel
theorem dX7_act_21 : decode cX7_act 21 = .ok (.ifCond .ne 5, 3) := by decide +kernel
theorem dX7_act_24 : decode cX7_act 24 = .ok (.iconst 0, 1) := by decide +kernel
theorem dX7_act_25 : decode cX7_act 25 = .ok (.ireturn, 1) := by decide +kernel
theorem dX7_act_26 : decode cX7_act 26 = .ok (.aload_n 0, 1) := by decide +kernel
theorem dX7_act_27 : decode cX7_act 27 = .ok (.getfield 62, 3) := by decide +kernel
theorem dX7_act_30 : decode cX7_act 30 = .ok (.aload_n 0, 1) := by decide +kernel
theorem dX7_act_31 : decode cX7_act 31 = .ok (.getfield 12, 3) := by decide +kernel
theorem dX7_act_34 : decode cX7_act 34 = .ok (.getfield 85, 3) := by decide +kernel
theorem dX7_act_37 : decode cX7_act 37 = .ok (.iload_n 1, 1) := by decide +kernel
theorem dX7_act_38 : decode cX7_act 38 = .ok (.aaload, 1) := by decide +kernel
theorem dX7_act_39 : decode cX7_act 39 = .ok (.iload_n 1, 1) := by decide +kernel
theorem dX7_act_40 : decode cX7_act 40 = .ok (.iload_n 2, 1) := by decide +kernel
theorem dX7_act_41 : decode cX7_act 41 = .ok (.iload_n 3, 1) := by decide +kernel
theorem dX7_act_42 : decode cX7_act 42 = .ok (.invokevirtual 264, 3) := by decide +kernel
theorem dX7_act_45 : decode cX7_act 45 = .ok (.ireturn, 1) := by decide +kernel
theorem dX7_trace_0 : decode cX7_trace 0 = .ok (.iload_n 1, 1) := by decide +kernel
theorem dX7_trace_1 : decode cX7_trace 1 = .ok (.iconst 0, 1) := by decide +kernel
theorem dX7_trace_2 : decode cX7_trace 2 = .ok (.aload_n 0, 1) := by decide +kernel
theorem dX7_trace_3 : decode cX7_trace 3 = .ok (.getfield 62, 3) := by decide +kernel
theorem dX7_trace_6 : decode cX7_trace 6 = .ok (.getfield 268, 3) := by decide +kernel
theorem dX7_trace_9 : decode cX7_trace 9 = .ok (.bipush 20, 2) := by decide +kernel
theorem dX7_trace_11 : decode cX7_trace 11 = .ok (.invokestatic 271, 3) := by decide +kernel
theorem dX7_trace_14 : decode cX7_trace 14 = .ok (.iconst 1, 1) := by decide +kernel
theorem dX7_trace_15 : decode cX7_trace 15 = .ok (.isub, 1) := by decide +kernel
theorem dX7_trace_16 : decode cX7_trace 16 = .ok (.invokestatic 73, 3) := by decide +kernel
theorem dX7_trace_19 : decode cX7_trace 19 = .ok (.ifCond .eq 15, 3) := by decide +kernel
theorem dX7_trace_22 : decode cX7_trace 22 = .ok (.aload_n 0, 1) := by decide +kernel
theorem dX7_trace_23 : decode cX7_trace 23 = .ok (.getfield 62, 3) := by decide +kernel
theorem dX7_trace_26 : decode cX7_trace 26 = .ok (.getfield 276, 3) := by decide +kernel
theorem dX7_trace_29 : decode cX7_trace 29 = .ok (.iload_n 1, 1) := by decide +kernel
theorem dX7_trace_30 : decode cX7_trace 30 = .ok (.iaload, 1) := by decide +kernel
theorem dX7_trace_31 : decode cX7_trace 31 = .ok (.goto 4, 3) := by decide +kernel
theorem dX7_trace_34 : decode cX7_trace 34 = .ok (.iconst (-1), 1) := by decide +kernel
theorem dX7_trace_35 : decode cX7_trace 35 = .ok (.ireturn, 1) := by decide +kernel
theorem dX7_taken_0 : decode cX7_taken 0 = .ok (.iload_n 2, 1) := by decide +kernel
theorem dX7_taken_1 : decode cX7_taken 1 = .ok (.iconst 0, 1) := by decide +kernel
theorem dX7_taken_2 : decode cX7_taken 2 = .ok (.bipush 6, 2) := by decide +kernel
theorem dX7_taken_4 : decode cX7_taken 4 = .ok (.invokestatic 73, 3) := by decide +kernel
theorem dX7_taken_7 : decode cX7_taken 7 = .ok (.ifCond .ne 6, 3) := by decide +kernel
theorem dX7_taken_10 : decode cX7_taken 10 = .ok (.bipush (-2), 2) := by decide +kernel
theorem dX7_taken_12 : decode cX7_taken 12 = .ok (.ireturn, 1) := by decide +kernel
theorem dX7_taken_13 : decode cX7_taken 13 = .ok (.aload_n 0, 1) := by decide +kernel
theorem dX7_taken_14 : decode cX7_taken 14 = .ok (.iload_n 1, 1) := by decide +kernel
theorem dX7_taken_15 : decode cX7_taken 15 = .ok (.invokevirtual 89, 3) := by decide +kernel
theorem dX7_taken_18 : decode cX7_taken 18 = .ok (.ifCond .ne 6, 3) := by decide +kernel
theorem dX7_taken_21 : decode cX7_taken 21 = .ok (.bipush (-11), 2) := by decide +kernel
theorem dX7_taken_23 : decode cX7_taken 23 = .ok (.ireturn, 1) := by decide +kernel
theorem dX7_taken_24 : decode cX7_taken 24 = .ok (.aload_n 0, 1) := by decide +kernel
theorem dX7_taken_25 : decode cX7_taken 25 = .ok (.getfield 12, 3) := by decide +kernel
theorem dX7_taken_28 : decode cX7_taken 28 = .ok (.getfield 85, 3) := by decide +kernel
theorem dX7_taken_31 : decode cX7_taken 31 = .ok (.iload_n 1, 1) := by decide +kernel
theorem dX7_taken_32 : decode cX7_taken 32 = .ok (.aaload, 1) := by decide +kernel
theorem dX7_taken_33 : decode cX7_taken 33 = .ok (.iconst 0, 1) := by decide +kernel
theorem dX7_taken_34 : decode cX7_taken 34 = .ok (.iaload, 1) := by decide +kernel
theorem dX7_taken_35 : decode cX7_taken 35 = .ok (.istore_n 3, 1) := by decide +kernel
theorem dX7_taken_36 : decode cX7_taken 36 = .ok (.iload_n 3, 1) := by decide +kernel
theorem dX7_taken_37 : decode cX7_taken 37 = .ok (.iload_n 2, 1) := by decide +kernel
theorem dX7_taken_38 : decode cX7_taken 38 = .ok (.invokestatic 279, 3) := by decide +kernel
theorem dX7_taken_41 : decode cX7_taken 41 = .ok (.ifCond .eq 7, 3) := by decide +kernel
theorem dX7_taken_44 : decode cX7_taken 44 = .ok (.iload_n 3, 1) := by decide +kernel
theorem dX7_taken_45 : decode cX7_taken 45 = .ok (.goto 5, 3) := by decide +kernel
theorem dX7_taken_48 : decode cX7_taken 48 = .ok (.bipush (-12), 2) := by decide +kernel
theorem dX7_taken_50 : decode cX7_taken 50 = .ok (.ireturn, 1) := by decide +kernel
theorem dX7_count_0 : decode cX7_count 0 = .ok (.iload_n 1, 1) := by decide +kernel
theorem dX7_count_1 : decode cX7_count 1 = .ok (.tableswitch 72 0 4 #[35, 43, 48, 56, 64], 35) := by decide +kernel
theorem dX7_count_36 : decode cX7_count 36 = .ok (.aload_n 0, 1) := by decide +kernel
theorem dX7_count_37 : decode cX7_count 37 = .ok (.getfield 12, 3) := by decide +kernel
theorem dX7_count_40 : decode cX7_count 40 = .ok (.getfield 81, 3) := by decide +kernel
theorem dX7_count_43 : decode cX7_count 43 = .ok (.ireturn, 1) := by decide +kernel
theorem dX7_count_44 : decode cX7_count 44 = .ok (.aload_n 0, 1) := by decide +kernel
theorem dX7_count_45 : decode cX7_count 45 = .ok (.getfield 123, 3) := by decide +kernel
theorem dX7_count_48 : decode cX7_count 48 = .ok (.ireturn, 1) := by decide +kernel
theorem dX7_count_49 : decode cX7_count 49 = .ok (.aload_n 0, 1) := by decide +kernel
theorem dX7_count_50 : decode cX7_count 50 = .ok (.getfield 12, 3) := by decide +kernel
theorem dX7_count_53 : decode cX7_count 53 = .ok (.getfield 227, 3) := by decide +kernel
theorem dX7_count_56 : decode cX7_count 56 = .ok (.ireturn, 1) := by decide +kernel
theorem dX7_count_57 : decode cX7_count 57 = .ok (.aload_n 0, 1) := by decide +kernel
theorem dX7_count_58 : decode cX7_count 58 = .ok (.getfield 24, 3) := by decide +kernel
theorem dX7_count_61 : decode cX7_count 61 = .ok (.getfield 116, 3) := by decide +kernel
theorem dX7_count_64 : decode cX7_count 64 = .ok (.ireturn, 1) := by decide +kernel
theorem dX7_count_65 : decode cX7_count 65 = .ok (.aload_n 0, 1) := by decide +kernel
theorem dX7_count_66 : decode cX7_count 66 = .ok (.getfield 62, 3) := by decide +kernel
theorem dX7_count_69 : decode cX7_count 69 = .ok (.getfield 268, 3) := by decide +kernel
theorem dX7_count_72 : decode cX7_count 72 = .ok (.ireturn, 1) := by decide +kernel
theorem dX7_count_73 : decode cX7_count 73 = .ok (.bipush (-2), 2) := by decide +kernel
theorem dX7_count_75 : decode cX7_count 75 = .ok (.ireturn, 1) := by decide +kernel
theorem dX7_tape_0 : decode cX7_tape 0 = .ok (.iload_n 1, 1) := by decide +kernel
theorem dX7_tape_1 : decode cX7_tape 1 = .ok (.invokestatic 236, 3) := by decide +kernel
theorem dX7_tape_4 : decode cX7_tape 4 = .ok (.ifCond .ne 5, 3) := by decide +kernel
theorem dX7_tape_7 : decode cX7_tape 7 = .ok (.iconst (-1), 1) := by decide +kernel
theorem dX7_tape_8 : decode cX7_tape 8 = .ok (.ireturn, 1) := by decide +kernel
theorem dX7_tape_9 : decode cX7_tape 9 = .ok (.iload_n 2, 1) := by decide +kernel
theorem dX7_tape_10 : decode cX7_tape 10 = .ok (.iconst (-1), 1) := by decide +kernel
theorem dX7_tape_11 : decode cX7_tape 11 = .ok (.iconst 4, 1) := by decide +kernel
theorem dX7_tape_12 : decode cX7_tape 12 = .ok (.invokestatic 73, 3) := by decide +kernel
theorem dX7_tape_15 : decode cX7_tape 15 = .ok (.ifCond .ne 6, 3) := by decide +kernel
theorem dX7_tape_18 : decode cX7_tape 18 = .ok (.bipush (-2), 2) := by decide +kernel
theorem dX7_tape_20 : decode cX7_tape 20 = .ok (.ireturn, 1) := by decide +kernel
theorem dX7_tape_21 : decode cX7_tape 21 = .ok (.iload_n 2, 1) := by decide +kernel
theorem dX7_tape_22 : decode cX7_tape 22 = .ok (.iconst (-1), 1) := by decide +kernel
theorem dX7_tape_23 : decode cX7_tape 23 = .ok (.if_icmp .eq 12, 3) := by decide +kernel
theorem dX7_tape_26 : decode cX7_tape 26 = .ok (.iload_n 3, 1) := by decide +kernel
theorem dX7_tape_27 : decode cX7_tape 27 = .ok (.bipush 60, 2) := by decide +kernel
theorem dX7_tape_29 : decode cX7_tape 29 = .ok (.if_icmp .le 6, 3) := by decide +kernel
theorem dX7_tape_32 : decode cX7_tape 32 = .ok (.bipush (-2), 2) := by decide +kernel
theorem dX7_tape_34 : decode cX7_tape 34 = .ok (.ireturn, 1) := by decide +kernel
theorem dX7_tape_35 : decode cX7_tape 35 = .ok (.iload_n 2, 1) := by decide +kernel
theorem dX7_tape_36 : decode cX7_tape 36 = .ok (.iconst (-1), 1) := by decide +kernel
theorem dX7_tape_37 : decode cX7_tape 37 = .ok (.if_icmp .eq 10, 3) := by decide +kernel
theorem dX7_tape_40 : decode cX7_tape 40 = .ok (.iload_n 3, 1) := by decide +kernel
theorem dX7_tape_41 : decode cX7_tape 41 = .ok (.ifCond .ge 6, 3) := by decide +kernel
theorem dX7_tape_44 : decode cX7_tape 44 = .ok (.bipush (-14), 2) := by decide +kernel
theorem dX7_tape_46 : decode cX7_tape 46 = .ok (.ireturn, 1) := by decide +kernel
theorem dX7_tape_47 : decode cX7_tape 47 = .ok (.aload_n 0, 1) := by decide +kernel
theorem dX7_tape_48 : decode cX7_tape 48 = .ok (.getfield 68, 3) := by decide +kernel
