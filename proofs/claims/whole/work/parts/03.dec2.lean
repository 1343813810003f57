theorem dX7_tape_51 : decode cX7_tape 51 = .ok (.iload_n 1, 1) := by decide +kernel
theorem dX7_tape_52 : decode cX7_tape 52 = .ok (.aaload, 1) := by decide +kernel
theorem dX7_tape_53 : decode cX7_tape 53 = .ok (.iload_n 2, 1) := by decide +kernel
theorem dX7_tape_54 : decode cX7_tape 54 = .ok (.iload_n 3, 1) := by decide +kernel
theorem dX7_tape_55 : decode cX7_tape 55 = .ok (.invokevirtual 282, 3) := by decide +kernel
theorem dX7_tape_58 : decode cX7_tape 58 = .ok (.iconst 1, 1) := by decide +kernel
theorem dX7_tape_59 : decode cX7_tape 59 = .ok (.ireturn, 1) := by decide +kernel
theorem dX7_item_0 : decode cX7_item 0 = .ok (.iload_n 1, 1) := by decide +kernel
theorem dX7_item_1 : decode cX7_item 1 = .ok (.invokestatic 236, 3) := by decide +kernel
theorem dX7_item_4 : decode cX7_item 4 = .ok (.ifCond .ne 5, 3) := by decide +kernel
theorem dX7_item_7 : decode cX7_item 7 = .ok (.iconst (-1), 1) := by decide +kernel
theorem dX7_item_8 : decode cX7_item 8 = .ok (.ireturn, 1) := by decide +kernel
theorem dX7_item_9 : decode cX7_item 9 = .ok (.aload_n 0, 1) := by decide +kernel
theorem dX7_item_10 : decode cX7_item 10 = .ok (.getfield 68, 3) := by decide +kernel
theorem dX7_item_13 : decode cX7_item 13 = .ok (.iload_n 1, 1) := by decide +kernel
theorem dX7_item_14 : decode cX7_item 14 = .ok (.aaload, 1) := by decide +kernel
theorem dX7_item_15 : decode cX7_item 15 = .ok (.invokevirtual 239, 3) := by decide +kernel
theorem dX7_item_18 : decode cX7_item 18 = .ok (.ifCond .eq 6, 3) := by decide +kernel
theorem dX7_item_21 : decode cX7_item 21 = .ok (.bipush (-11), 2) := by decide +kernel
theorem dX7_item_23 : decode cX7_item 23 = .ok (.ireturn, 1) := by decide +kernel
theorem dX7_item_24 : decode cX7_item 24 = .ok (.aload_n 0, 1) := by decide +kernel
theorem dX7_item_25 : decode cX7_item 25 = .ok (.getfield 68, 3) := by decide +kernel
theorem dX7_item_28 : decode cX7_item 28 = .ok (.iload_n 1, 1) := by decide +kernel
theorem dX7_item_29 : decode cX7_item 29 = .ok (.aaload, 1) := by decide +kernel
theorem dX7_item_30 : decode cX7_item 30 = .ok (.iload_n 2, 1) := by decide +kernel
theorem dX7_item_31 : decode cX7_item 31 = .ok (.invokevirtual 246, 3) := by decide +kernel
theorem dX7_item_34 : decode cX7_item 34 = .ok (.ifCond .ne 6, 3) := by decide +kernel
theorem dX7_item_37 : decode cX7_item 37 = .ok (.bipush (-13), 2) := by decide +kernel
theorem dX7_item_39 : decode cX7_item 39 = .ok (.ireturn, 1) := by decide +kernel
theorem dX7_item_40 : decode cX7_item 40 = .ok (.aload_n 0, 1) := by decide +kernel
theorem dX7_item_41 : decode cX7_item 41 = .ok (.getfield 68, 3) := by decide +kernel
theorem dX7_item_44 : decode cX7_item 44 = .ok (.iload_n 1, 1) := by decide +kernel
theorem dX7_item_45 : decode cX7_item 45 = .ok (.aaload, 1) := by decide +kernel
theorem dX7_item_46 : decode cX7_item 46 = .ok (.iload_n 2, 1) := by decide +kernel
theorem dX7_item_47 : decode cX7_item 47 = .ok (.lload_n 3, 1) := by decide +kernel
theorem dX7_item_48 : decode cX7_item 48 = .ok (.invokevirtual 285, 3) := by decide +kernel
theorem dX7_item_51 : decode cX7_item 51 = .ok (.iconst 1, 1) := by decide +kernel
theorem dX7_item_52 : decode cX7_item 52 = .ok (.ireturn, 1) := by decide +kernel
theorem dX7_read_0 : decode cX7_read 0 = .ok (.iload_n 1, 1) := by decide +kernel
theorem dX7_read_1 : decode cX7_read 1 = .ok (.invokestatic 236, 3) := by decide +kernel
theorem dX7_read_4 : decode cX7_read 4 = .ok (.ifCond .eq 30, 3) := by decide +kernel
theorem dX7_read_7 : decode cX7_read 7 = .ok (.aload_n 0, 1) := by decide +kernel
theorem dX7_read_8 : decode cX7_read 8 = .ok (.getfield 68, 3) := by decide +kernel
theorem dX7_read_11 : decode cX7_read 11 = .ok (.iload_n 1, 1) := by decide +kernel
theorem dX7_read_12 : decode cX7_read 12 = .ok (.aaload, 1) := by decide +kernel
theorem dX7_read_13 : decode cX7_read 13 = .ok (.iload_n 2, 1) := by decide +kernel
theorem dX7_read_14 : decode cX7_read 14 = .ok (.invokevirtual 246, 3) := by decide +kernel
theorem dX7_read_17 : decode cX7_read 17 = .ok (.ifCond .eq 17, 3) := by decide +kernel
theorem dX7_read_20 : decode cX7_read 20 = .ok (.aload_n 0, 1) := by decide +kernel
theorem dX7_read_21 : decode cX7_read 21 = .ok (.getfield 68, 3) := by decide +kernel
theorem dX7_read_24 : decode cX7_read 24 = .ok (.iload_n 1, 1) := by decide +kernel
theorem dX7_read_25 : decode cX7_read 25 = .ok (.aaload, 1) := by decide +kernel
theorem dX7_read_26 : decode cX7_read 26 = .ok (.getfield 249, 3) := by decide +kernel
theorem dX7_read_29 : decode cX7_read 29 = .ok (.iload_n 2, 1) := by decide +kernel
theorem dX7_read_30 : decode cX7_read 30 = .ok (.laload, 1) := by decide +kernel
theorem dX7_read_31 : decode cX7_read 31 = .ok (.goto 6, 3) := by decide +kernel
theorem dX7_read_34 : decode cX7_read 34 = .ok (.ldc2_w 225, 3) := by decide +kernel
theorem dX7_read_37 : decode cX7_read 37 = .ok (.lreturn, 1) := by decide +kernel
theorem dX7_shift_0 : decode cX7_shift 0 = .ok (.iload_n 1, 1) := by decide +kernel
theorem dX7_shift_1 : decode cX7_shift 1 = .ok (.invokestatic 236, 3) := by decide +kernel
theorem dX7_shift_4 : decode cX7_shift 4 = .ok (.ifCond .eq 10, 3) := by decide +kernel
theorem dX7_shift_7 : decode cX7_shift 7 = .ok (.iload_n 3, 1) := by decide +kernel
theorem dX7_shift_8 : decode cX7_shift 8 = .ok (.invokestatic 236, 3) := by decide +kernel
theorem dX7_shift_11 : decode cX7_shift 11 = .ok (.ifCond .ne 5, 3) := by decide +kernel
theorem dX7_shift_14 : decode cX7_shift 14 = .ok (.iconst (-1), 1) := by decide +kernel
theorem dX7_shift_15 : decode cX7_shift 15 = .ok (.ireturn, 1) := by decide +kernel
theorem dX7_shift_16 : decode cX7_shift 16 = .ok (.aload_n 0, 1) := by decide +kernel
theorem dX7_shift_17 : decode cX7_shift 17 = .ok (.getfield 68, 3) := by decide +kernel
theorem dX7_shift_20 : decode cX7_shift 20 = .ok (.iload_n 1, 1) := by decide +kernel
theorem dX7_shift_21 : decode cX7_shift 21 = .ok (.aaload, 1) := by decide +kernel
theorem dX7_shift_22 : decode cX7_shift 22 = .ok (.astore 6, 2) := by decide +kernel
theorem dX7_shift_24 : decode cX7_shift 24 = .ok (.aload_n 0, 1) := by decide +kernel
theorem dX7_shift_25 : decode cX7_shift 25 = .ok (.getfield 68, 3) := by decide +kernel
theorem dX7_shift_28 : decode cX7_shift 28 = .ok (.iload_n 3, 1) := by decide +kernel
theorem dX7_shift_29 : decode cX7_shift 29 = .ok (.aaload, 1) := by decide +kernel
theorem dX7_shift_30 : decode cX7_shift 30 = .ok (.astore 7, 2) := by decide +kernel
theorem dX7_shift_32 : decode cX7_shift 32 = .ok (.aload 6, 2) := by decide +kernel
theorem dX7_shift_34 : decode cX7_shift 34 = .ok (.invokevirtual 239, 3) := by decide +kernel
theorem dX7_shift_37 : decode cX7_shift 37 = .ok (.ifCond .ne 11, 3) := by decide +kernel
theorem dX7_shift_40 : decode cX7_shift 40 = .ok (.aload 7, 2) := by decide +kernel
theorem dX7_shift_42 : decode cX7_shift 42 = .ok (.invokevirtual 239, 3) := by decide +kernel
theorem dX7_shift_45 : decode cX7_shift 45 = .ok (.ifCond .eq 6, 3) := by decide +kernel
theorem dX7_shift_48 : decode cX7_shift 48 = .ok (.bipush (-11), 2) := by decide +kernel
theorem dX7_shift_50 : decode cX7_shift 50 = .ok (.ireturn, 1) := by decide +kernel
theorem dX7_shift_51 : decode cX7_shift 51 = .ok (.aload 6, 2) := by decide +kernel
theorem dX7_shift_53 : decode cX7_shift 53 = .ok (.getfield 243, 3) := by decide +kernel
theorem dX7_shift_56 : decode cX7_shift 56 = .ok (.aload 7, 2) := by decide +kernel
theorem dX7_shift_58 : decode cX7_shift 58 = .ok (.getfield 243, 3) := by decide +kernel
theorem dX7_shift_61 : decode cX7_shift 61 = .ok (.if_icmp .eq 6, 3) := by decide +kernel
theorem dX7_shift_64 : decode cX7_shift 64 = .ok (.bipush (-12), 2) := by decide +kernel
theorem dX7_shift_66 : decode cX7_shift 66 = .ok (.ireturn, 1) := by decide +kernel
theorem dX7_shift_67 : decode cX7_shift 67 = .ok (.aload 6, 2) := by decide +kernel
theorem dX7_shift_69 : decode cX7_shift 69 = .ok (.iload_n 2, 1) := by decide +kernel
theorem dX7_shift_70 : decode cX7_shift 70 = .ok (.iload 5, 2) := by decide +kernel
theorem dX7_shift_72 : decode cX7_shift 72 = .ok (.invokevirtual 289, 3) := by decide +kernel
theorem dX7_shift_75 : decode cX7_shift 75 = .ok (.ifCond .eq 15, 3) := by decide +kernel
theorem dX7_shift_78 : decode cX7_shift 78 = .ok (.aload 7, 2) := by decide +kernel
theorem dX7_shift_80 : decode cX7_shift 80 = .ok (.iload 4, 2) := by decide +kernel
theorem dX7_shift_82 : decode cX7_shift 82 = .ok (.iload 5, 2) := by decide +kernel
theorem dX7_shift_84 : decode cX7_shift 84 = .ok (.invokevirtual 289, 3) := by decide +kernel
theorem dX7_shift_87 : decode cX7_shift 87 = .ok (.ifCond .ne 6, 3) := by decide +kernel
theorem dX7_shift_90 : decode cX7_shift 90 = .ok (.bipush (-13), 2) := by decide +kernel
theorem dX7_shift_92 : decode cX7_shift 92 = .ok (.ireturn, 1) := by decide +kernel
theorem dX7_shift_93 : decode cX7_shift 93 = .ok (.aload 6, 2) := by decide +kernel
theorem dX7_shift_95 : decode cX7_shift 95 = .ok (.getfield 249, 3) := by decide +kernel
theorem dX7_shift_98 : decode cX7_shift 98 = .ok (.iload_n 2, 1) := by decide +kernel
theorem dX7_shift_99 : decode cX7_shift 99 = .ok (.aload 7, 2) := by decide +kernel
theorem dX7_shift_101 : decode cX7_shift 101 = .ok (.getfield 249, 3) := by decide +kernel
theorem dX7_shift_104 : decode cX7_shift 104 = .ok (.iload 4, 2) := by decide +kernel
theorem dX7_shift_106 : decode cX7_shift 106 = .ok (.iload 5, 2) := by decide +kernel
theorem dX7_shift_108 : decode cX7_shift 108 = .ok (.invokestatic 174, 3) := by decide +kernel
theorem dX7_shift_111 : decode cX7_shift 111 = .ok (.iload 5, 2) := by decide +kernel
theorem dX7_shift_113 : decode cX7_shift 113 = .ok (.ireturn, 1) := by decide +kernel
theorem dX7_within_0 : decode cX7_within 0 = .ok (.iload_n 0, 1) := by decide +kernel
theorem dX7_within_1 : decode cX7_within 1 = .ok (.iload_n 1, 1) := by decide +kernel
theorem dX7_within_2 : decode cX7_within 2 = .ok (.if_icmp .lt 12, 3) := by decide +kernel
theorem dX7_within_5 : decode cX7_within 5 = .ok (.iload_n 0, 1) := by decide +kernel
theorem dX7_within_6 : decode cX7_within 6 = .ok (.iload_n 2, 1) := by decide +kernel
theorem dX7_within_7 : decode cX7_within 7 = .ok (.if_icmp .gt 7, 3) := by decide +kernel
theorem dX7_within_10 : decode cX7_within 10 = .ok (.iconst 1, 1) := by decide +kernel
theorem dX7_within_11 : decode cX7_within 11 = .ok (.goto 4, 3) := by decide +kernel
theorem dX7_within_14 : decode cX7_within 14 = .ok (.iconst 0, 1) := by decide +kernel
theorem dX7_within_15 : decode cX7_within 15 = .ok (.ireturn, 1) := by decide +kernel
theorem dX7_isDigit_0 : decode cX7_isDigit 0 = .ok (.iload_n 0, 1) := by decide +kernel
theorem dX7_isDigit_1 : decode cX7_isDigit 1 = .ok (.iconst 0, 1) := by decide +kernel
theorem dX7_isDigit_2 : decode cX7_isDigit 2 = .ok (.bipush 9, 2) := by decide +kernel
theorem dX7_isDigit_4 : decode cX7_isDigit 4 = .ok (.invokestatic 73, 3) := by decide +kernel
theorem dX7_isDigit_7 : decode cX7_isDigit 7 = .ok (.ireturn, 1) := by decide +kernel
theorem dX7_isHole_0 : decode cX7_isHole 0 = .ok (.iload_n 0, 1) := by decide +kernel
theorem dX7_isHole_1 : decode cX7_isHole 1 = .ok (.iconst 0, 1) := by decide +kernel
theorem dX7_isHole_2 : decode cX7_isHole 2 = .ok (.iconst 2, 1) := by decide +kernel
theorem dX7_isHole_3 : decode cX7_isHole 3 = .ok (.invokestatic 73, 3) := by decide +kernel
theorem dX7_isHole_6 : decode cX7_isHole 6 = .ok (.ireturn, 1) := by decide +kernel
theorem dX7_isTape_0 : decode cX7_isTape 0 = .ok (.iload_n 0, 1) := by decide +kernel
theorem dX7_isTape_1 : decode cX7_isTape 1 = .ok (.iconst 0, 1) := by decide +kernel
theorem dX7_isTape_2 : decode cX7_isTape 2 = .ok (.iconst 5, 1) := by decide +kernel
theorem dX7_isTape_3 : decode cX7_isTape 3 = .ok (.invokestatic 73, 3) := by decide +kernel
theorem dX7_isTape_6 : decode cX7_isTape 6 = .ok (.ireturn, 1) := by decide +kernel
theorem dX7_isSort_0 : decode cX7_isSort 0 = .ok (.iload_n 1, 1) := by decide +kernel
theorem dX7_isSort_1 : decode cX7_isSort 1 = .ok (.iconst 0, 1) := by decide +kernel
theorem dX7_isSort_2 : decode cX7_isSort 2 = .ok (.aload_n 0, 1) := by decide +kernel
theorem dX7_isSort_3 : decode cX7_isSort 3 = .ok (.getfield 12, 3) := by decide +kernel
theorem dX7_isSort_6 : decode cX7_isSort 6 = .ok (.getfield 81, 3) := by decide +kernel
theorem dX7_isSort_9 : decode cX7_isSort 9 = .ok (.iconst 1, 1) := by decide +kernel
theorem dX7_isSort_10 : decode cX7_isSort 10 = .ok (.isub, 1) := by decide +kernel
theorem dX7_isSort_11 : decode cX7_isSort 11 = .ok (.invokestatic 73, 3) := by decide +kernel
theorem dX7_isSort_14 : decode cX7_isSort 14 = .ok (.ireturn, 1) := by decide +kernel
theorem dX7_isKindOf_0 : decode cX7_isKindOf 0 = .ok (.iload_n 1, 1) := by decide +kernel
theorem dX7_isKindOf_1 : decode cX7_isKindOf 1 = .ok (.ifCond .eq 17, 3) := by decide +kernel
theorem dX7_isKindOf_4 : decode cX7_isKindOf 4 = .ok (.iload_n 1, 1) := by decide +kernel
theorem dX7_isKindOf_5 : decode cX7_isKindOf 5 = .ok (.iload_n 0, 1) := by decide +kernel
theorem dX7_isKindOf_6 : decode cX7_isKindOf 6 = .ok (.if_icmp .eq 12, 3) := by decide +kernel
theorem dX7_isKindOf_9 : decode cX7_isKindOf 9 = .ok (.iload_n 1, 1) := by decide +kernel
theorem dX7_isKindOf_10 : decode cX7_isKindOf 10 = .ok (.getstatic 292, 3) := by decide +kernel
theorem dX7_isKindOf_13 : decode cX7_isKindOf 13 = .ok (.iload_n 0, 1) := by decide +kernel
theorem dX7_isKindOf_14 : decode cX7_isKindOf 14 = .ok (.iaload, 1) := by decide +kernel
theorem dX7_isKindOf_15 : decode cX7_isKindOf 15 = .ok (.if_icmp .ne 7, 3) := by decide +kernel
theorem dX7_isKindOf_18 : decode cX7_isKindOf 18 = .ok (.iconst 1, 1) := by decide +kernel
theorem dX7_isKindOf_19 : decode cX7_isKindOf 19 = .ok (.goto 4, 3) := by decide +kernel
theorem dX7_isKindOf_22 : decode cX7_isKindOf 22 = .ok (.iconst 0, 1) := by decide +kernel
theorem dX7_isKindOf_23 : decode cX7_isKindOf 23 = .ok (.ireturn, 1) := by decide +kernel
theorem dX7_commonDivisor_0 : decode cX7_commonDivisor 0 = .ok (.lload_n 0, 1) := by decide +kernel
theorem dX7_commonDivisor_1 : decode cX7_commonDivisor 1 = .ok (.lstore 4, 2) := by decide +kernel
theorem dX7_commonDivisor_3 : decode cX7_commonDivisor 3 = .ok (.lload_n 2, 1) := by decide +kernel
theorem dX7_commonDivisor_4 : decode cX7_commonDivisor 4 = .ok (.lstore 6, 2) := by decide +kernel
theorem dX7_commonDivisor_6 : decode cX7_commonDivisor 6 = .ok (.iconst 0, 1) := by decide +kernel
theorem dX7_commonDivisor_7 : decode cX7_commonDivisor 7 = .ok (.istore 8, 2) := by decide +kernel
theorem dX7_commonDivisor_9 : decode cX7_commonDivisor 9 = .ok (.iload 8, 2) := by decide +kernel
theorem dX7_commonDivisor_11 : decode cX7_commonDivisor 11 = .ok (.ldc_w 295, 3) := by decide +kernel
theorem dX7_commonDivisor_14 : decode cX7_commonDivisor 14 = .ok (.if_icmp .ge 31, 3) := by decide +kernel
theorem dX7_commonDivisor_17 : decode cX7_commonDivisor 17 = .ok (.lload 6, 2) := by decide +kernel
theorem dX7_commonDivisor_19 : decode cX7_commonDivisor 19 = .ok (.lconst 0, 1) := by decide +kernel
theorem dX7_commonDivisor_20 : decode cX7_commonDivisor 20 = .ok (.lcmp, 1) := by decide +kernel
theorem dX7_commonDivisor_21 : decode cX7_commonDivisor 21 = .ok (.ifCond .eq 24, 3) := by decide +kernel
theorem dX7_commonDivisor_24 : decode cX7_commonDivisor 24 = .ok (.lload 4, 2) := by decide +kernel
theorem dX7_commonDivisor_26 : decode cX7_commonDivisor 26 = .ok (.lload 6, 2) := by decide +kernel
theorem dX7_commonDivisor_28 : decode cX7_commonDivisor 28 = .ok (.lrem, 1) := by decide +kernel
theorem dX7_commonDivisor_29 : decode cX7_commonDivisor 29 = .ok (.lstore 9, 2) := by decide +kernel
theorem dX7_commonDivisor_31 : decode cX7_commonDivisor 31 = .ok (.lload 6, 2) := by decide +kernel
theorem dX7_commonDivisor_33 : decode cX7_commonDivisor 33 = .ok (.lstore 4, 2) := by decide +kernel
theorem dX7_commonDivisor_35 : decode cX7_commonDivisor 35 = .ok (.lload 9, 2) := by decide +kernel
theorem dX7_commonDivisor_37 : decode cX7_commonDivisor 37 = .ok (.lstore 6, 2) := by decide +kernel
theorem dX7_commonDivisor_39 : decode cX7_commonDivisor 39 = .ok (.iinc 8 1, 3) := by decide +kernel
theorem dX7_commonDivisor_42 : decode cX7_commonDivisor 42 = .ok (.goto (-33), 3) := by decide +kernel
theorem dX7_commonDivisor_45 : decode cX7_commonDivisor 45 = .ok (.lload 4, 2) := by decide +kernel
theorem dX7_commonDivisor_47 : decode cX7_commonDivisor 47 = .ok (.lreturn, 1) := by decide +kernel
theorem dX7_holdingFence_0 : decode cX7_holdingFence 0 = .ok (.aload_n 0, 1) := by decide +kernel
theorem dX7_holdingFence_1 : decode cX7_holdingFence 1 = .ok (.getfield 12, 3) := by decide +kernel
theorem dX7_holdingFence_4 : decode cX7_holdingFence 4 = .ok (.getfield 130, 3) := by decide +kernel
theorem dX7_holdingFence_7 : decode cX7_holdingFence 7 = .ok (.iconst 0, 1) := by decide +kernel
theorem dX7_holdingFence_8 : decode cX7_holdingFence 8 = .ok (.iconst 5, 1) := by decide +kernel
theorem dX7_holdingFence_9 : decode cX7_holdingFence 9 = .ok (.invokestatic 73, 3) := by decide +kernel
theorem dX7_holdingFence_12 : decode cX7_holdingFence 12 = .ok (.ifCond .eq 18, 3) := by decide +kernel
theorem dX7_holdingFence_15 : decode cX7_holdingFence 15 = .ok (.aload_n 0, 1) := by decide +kernel
theorem dX7_holdingFence_16 : decode cX7_holdingFence 16 = .ok (.getfield 35, 3) := by decide +kernel
theorem dX7_holdingFence_19 : decode cX7_holdingFence 19 = .ok (.aload_n 0, 1) := by decide +kernel
theorem dX7_holdingFence_20 : decode cX7_holdingFence 20 = .ok (.getfield 12, 3) := by decide +kernel
theorem dX7_holdingFence_23 : decode cX7_holdingFence 23 = .ok (.getfield 130, 3) := by decide +kernel
theorem dX7_holdingFence_26 : decode cX7_holdingFence 26 = .ok (.aaload, 1) := by decide +kernel
theorem dX7_holdingFence_27 : decode cX7_holdingFence 27 = .ok (.goto 7, 3) := by decide +kernel
theorem dX7_holdingFence_30 : decode cX7_holdingFence 30 = .ok (.aload_n 0, 1) := by decide +kernel
theorem dX7_holdingFence_31 : decode cX7_holdingFence 31 = .ok (.getfield 31, 3) := by decide +kernel
theorem dX7_holdingFence_34 : decode cX7_holdingFence 34 = .ok (.areturn, 1) := by decide +kernel
theorem dX7_look_0 : decode cX7_look 0 = .ok (.aload_n 0, 1) := by decide +kernel
theorem dX7_look_1 : decode cX7_look 1 = .ok (.getfield 42, 3) := by decide +kernel
theorem dX7_look_4 : decode cX7_look 4 = .ok (.aload_n 0, 1) := by decide +kernel
theorem dX7_look_5 : decode cX7_look 5 = .ok (.getfield 12, 3) := by decide +kernel
theorem dX7_look_8 : decode cX7_look 8 = .ok (.aload_n 0, 1) := by decide +kernel
theorem dX7_look_9 : decode cX7_look 9 = .ok (.invokevirtual 208, 3) := by decide +kernel
theorem dX7_look_12 : decode cX7_look 12 = .ok (.aload_n 0, 1) := by decide +kernel
theorem dX7_look_13 : decode cX7_look 13 = .ok (.getfield 12, 3) := by decide +kernel
theorem dX7_look_16 : decode cX7_look 16 = .ok (.getfield 110, 3) := by decide +kernel
theorem dX7_look_19 : decode cX7_look 19 = .ok (.invokevirtual 212, 3) := by decide +kernel
theorem dX7_look_22 : decode cX7_look 22 = .ok (.return_, 1) := by decide +kernel
theorem dX7_searchFitting_0 : decode cX7_searchFitting 0 = .ok (.aload_n 0, 1) := by decide +kernel
theorem dX7_searchFitting_1 : decode cX7_searchFitting 1 = .ok (.invokevirtual 95, 3) := by decide +kernel
theorem dX7_searchFitting_4 : decode cX7_searchFitting 4 = .ok (.aload_n 0, 1) := by decide +kernel
theorem dX7_searchFitting_5 : decode cX7_searchFitting 5 = .ok (.getfield 51, 3) := by decide +kernel
theorem dX7_searchFitting_8 : decode cX7_searchFitting 8 = .ok (.aload_n 0, 1) := by decide +kernel
theorem dX7_searchFitting_9 : decode cX7_searchFitting 9 = .ok (.getfield 42, 3) := by decide +kernel
theorem dX7_searchFitting_12 : decode cX7_searchFitting 12 = .ok (.getfield 133, 3) := by decide +kernel
theorem dX7_searchFitting_15 : decode cX7_searchFitting 15 = .ok (.aload_n 0, 1) := by decide +kernel
theorem dX7_searchFitting_16 : decode cX7_searchFitting 16 = .ok (.getfield 12, 3) := by decide +kernel
theorem dX7_searchFitting_19 : decode cX7_searchFitting 19 = .ok (.getfield 113, 3) := by decide +kernel
theorem dX7_searchFitting_22 : decode cX7_searchFitting 22 = .ok (.invokevirtual 180, 3) := by decide +kernel
theorem dX7_searchFitting_25 : decode cX7_searchFitting 25 = .ok (.return_, 1) := by decide +kernel
theorem dX7_wantCountsOfHerd_0 : decode cX7_wantCountsOfHerd 0 = .ok (.iconst 0, 1) := by decide +kernel
theorem dX7_wantCountsOfHerd_1 : decode cX7_wantCountsOfHerd 1 = .ok (.istore_n 1, 1) := by decide +kernel
theorem dX7_wantCountsOfHerd_2 : decode cX7_wantCountsOfHerd 2 = .ok (.iload_n 1, 1) := by decide +kernel
theorem dX7_wantCountsOfHerd_3 : decode cX7_wantCountsOfHerd 3 = .ok (.iconst 3, 1) := by decide +kernel
theorem dX7_wantCountsOfHerd_4 : decode cX7_wantCountsOfHerd 4 = .ok (.if_icmp .ge 32, 3) := by decide +kernel
theorem dX7_wantCountsOfHerd_7 : decode cX7_wantCountsOfHerd 7 = .ok (.aload_n 0, 1) := by decide +kernel
theorem dX7_wantCountsOfHerd_8 : decode cX7_wantCountsOfHerd 8 = .ok (.getfield 55, 3) := by decide +kernel
theorem dX7_wantCountsOfHerd_11 : decode cX7_wantCountsOfHerd 11 = .ok (.iload_n 1, 1) := by decide +kernel
theorem dX7_wantCountsOfHerd_12 : decode cX7_wantCountsOfHerd 12 = .ok (.aload_n 0, 1) := by decide +kernel
theorem dX7_wantCountsOfHerd_13 : decode cX7_wantCountsOfHerd 13 = .ok (.getfield 42, 3) := by decide +kernel
theorem dX7_wantCountsOfHerd_16 : decode cX7_wantCountsOfHerd 16 = .ok (.aload_n 0, 1) := by decide +kernel
theorem dX7_wantCountsOfHerd_17 : decode cX7_wantCountsOfHerd 17 = .ok (.getfield 12, 3) := by decide +kernel
theorem dX7_wantCountsOfHerd_20 : decode cX7_wantCountsOfHerd 20 = .ok (.getfield 92, 3) := by decide +kernel
theorem dX7_wantCountsOfHerd_23 : decode cX7_wantCountsOfHerd 23 = .ok (.iconst 0, 1) := by decide +kernel
theorem dX7_wantCountsOfHerd_24 : decode cX7_wantCountsOfHerd 24 = .ok (.aaload, 1) := by decide +kernel
theorem dX7_wantCountsOfHerd_25 : decode cX7_wantCountsOfHerd 25 = .ok (.iload_n 1, 1) := by decide +kernel
theorem dX7_wantCountsOfHerd_26 : decode cX7_wantCountsOfHerd 26 = .ok (.invokevirtual 144, 3) := by decide +kernel
theorem dX7_wantCountsOfHerd_29 : decode cX7_wantCountsOfHerd 29 = .ok (.iastore, 1) := by decide +kernel
theorem dX7_wantCountsOfHerd_30 : decode cX7_wantCountsOfHerd 30 = .ok (.iinc 1 1, 3) := by decide +kernel
theorem dX7_wantCountsOfHerd_33 : decode cX7_wantCountsOfHerd 33 = .ok (.goto (-31), 3) := by decide +kernel
theorem dX7_wantCountsOfHerd_36 : decode cX7_wantCountsOfHerd 36 = .ok (.return_, 1) := by decide +kernel
theorem dX8_init_0 : decode cX8_init 0 = .ok (.aload_n 0, 1) := by decide +kernel
theorem dX8_init_1 : decode cX8_init 1 = .ok (.invokespecial 1, 3) := by decide +kernel
theorem dX8_init_4 : decode cX8_init 4 = .ok (.aload_n 0, 1) := by decide +kernel
theorem dX8_init_5 : decode cX8_init 5 = .ok (.iconst 0, 1) := by decide +kernel
theorem dX8_init_6 : decode cX8_init 6 = .ok (.putfield 7, 3) := by decide +kernel
theorem dX8_init_9 : decode cX8_init 9 = .ok (.aload_n 0, 1) := by decide +kernel
theorem dX8_init_10 : decode cX8_init 10 = .ok (.iconst 0, 1) := by decide +kernel
theorem dX8_init_11 : decode cX8_init 11 = .ok (.putfield 13, 3) := by decide +kernel
theorem dX8_init_14 : decode cX8_init 14 = .ok (.aload_n 0, 1) := by decide +kernel
theorem dX8_init_15 : decode cX8_init 15 = .ok (.iconst 5, 1) := by decide +kernel
theorem dX8_init_16 : decode cX8_init 16 = .ok (.newarray .int, 2) := by decide +kernel
theorem dX8_init_18 : decode cX8_init 18 = .ok (.putfield 16, 3) := by decide +kernel
theorem dX8_init_21 : decode cX8_init 21 = .ok (.aload_n 0, 1) := by decide +kernel
theorem dX8_init_22 : decode cX8_init 22 = .ok (.iconst 5, 1) := by decide +kernel
theorem dX8_init_23 : decode cX8_init 23 = .ok (.newarray .int, 2) := by decide +kernel
theorem dX8_init_25 : decode cX8_init 25 = .ok (.putfield 20, 3) := by decide +kernel
theorem dX8_init_28 : decode cX8_init 28 = .ok (.aload_n 0, 1) := by decide +kernel
theorem dX8_init_29 : decode cX8_init 29 = .ok (.bipush 15, 2) := by decide +kernel
theorem dX8_init_31 : decode cX8_init 31 = .ok (.newarray .int, 2) := by decide +kernel
theorem dX8_init_33 : decode cX8_init 33 = .ok (.putfield 23, 3) := by decide +kernel
theorem dX8_init_36 : decode cX8_init 36 = .ok (.aload_n 0, 1) := by decide +kernel
theorem dX8_init_37 : decode cX8_init 37 = .ok (.iconst 5, 1) := by decide +kernel
theorem dX8_init_38 : decode cX8_init 38 = .ok (.newarray .int, 2) := by decide +kernel
theorem dX8_init_40 : decode cX8_init 40 = .ok (.putfield 26, 3) := by decide +kernel
theorem dX8_init_43 : decode cX8_init 43 = .ok (.aload_n 0, 1) := by decide +kernel
theorem dX8_init_44 : decode cX8_init 44 = .ok (.iconst 5, 1) := by decide +kernel
theorem dX8_init_45 : decode cX8_init 45 = .ok (.newarray .int, 2) := by decide +kernel
theorem dX8_init_47 : decode cX8_init 47 = .ok (.putfield 29, 3) := by decide +kernel
theorem dX8_init_50 : decode cX8_init 50 = .ok (.aload_n 0, 1) := by decide +kernel
theorem dX8_init_51 : decode cX8_init 51 = .ok (.iconst 5, 1) := by decide +kernel
theorem dX8_init_52 : decode cX8_init 52 = .ok (.newarray .int, 2) := by decide +kernel
theorem dX8_init_54 : decode cX8_init 54 = .ok (.putfield 32, 3) := by decide +kernel
theorem dX8_init_57 : decode cX8_init 57 = .ok (.aload_n 0, 1) := by decide +kernel
theorem dX8_init_58 : decode cX8_init 58 = .ok (.bipush 15, 2) := by decide +kernel
theorem dX8_init_60 : decode cX8_init 60 = .ok (.newarray .int, 2) := by decide +kernel
theorem dX8_init_62 : decode cX8_init 62 = .ok (.putfield 35, 3) := by decide +kernel
theorem dX8_init_65 : decode cX8_init 65 = .ok (.aload_n 0, 1) := by decide +kernel
theorem dX8_init_66 : decode cX8_init 66 = .ok (.iconst 3, 1) := by decide +kernel
theorem dX8_init_67 : decode cX8_init 67 = .ok (.newarray .int, 2) := by decide +kernel
theorem dX8_init_69 : decode cX8_init 69 = .ok (.dup, 1) := by decide +kernel
theorem dX8_init_70 : decode cX8_init 70 = .ok (.iconst 0, 1) := by decide +kernel
theorem dX8_init_71 : decode cX8_init 71 = .ok (.iconst (-1), 1) := by decide +kernel
theorem dX8_init_72 : decode cX8_init 72 = .ok (.iastore, 1) := by decide +kernel
theorem dX8_init_73 : decode cX8_init 73 = .ok (.dup, 1) := by decide +kernel
theorem dX8_init_74 : decode cX8_init 74 = .ok (.iconst 1, 1) := by decide +kernel
theorem dX8_init_75 : decode cX8_init 75 = .ok (.iconst (-1), 1) := by decide +kernel
theorem dX8_init_76 : decode cX8_init 76 = .ok (.iastore, 1) := by decide +kernel
theorem dX8_init_77 : decode cX8_init 77 = .ok (.dup, 1) := by decide +kernel
theorem dX8_init_78 : decode cX8_init 78 = .ok (.iconst 2, 1) := by decide +kernel
theorem dX8_init_79 : decode cX8_init 79 = .ok (.iconst (-1), 1) := by decide +kernel
theorem dX8_init_80 : decode cX8_init 80 = .ok (.iastore, 1) := by decide +kernel
theorem dX8_init_81 : decode cX8_init 81 = .ok (.putfield 38, 3) := by decide +kernel
theorem dX8_init_84 : decode cX8_init 84 = .ok (.aload_n 0, 1) := by decide +kernel
theorem dX8_init_85 : decode cX8_init 85 = .ok (.iconst 0, 1) := by decide +kernel
theorem dX8_init_86 : decode cX8_init 86 = .ok (.putfield 41, 3) := by decide +kernel
theorem dX8_init_89 : decode cX8_init 89 = .ok (.aload_n 0, 1) := by decide +kernel
theorem dX8_init_90 : decode cX8_init 90 = .ok (.iconst (-1), 1) := by decide +kernel
theorem dX8_init_91 : decode cX8_init 91 = .ok (.putfield 44, 3) := by decide +kernel
theorem dX8_init_94 : decode cX8_init 94 = .ok (.aload_n 0, 1) := by decide +kernel
theorem dX8_init_95 : decode cX8_init 95 = .ok (.iconst 0, 1) := by decide +kernel
theorem dX8_init_96 : decode cX8_init 96 = .ok (.putfield 47, 3) := by decide +kernel
theorem dX8_init_99 : decode cX8_init 99 = .ok (.aload_n 0, 1) := by decide +kernel
theorem dX8_init_100 : decode cX8_init 100 = .ok (.iconst 0, 1) := by decide +kernel
theorem dX8_init_101 : decode cX8_init 101 = .ok (.putfield 50, 3) := by decide +kernel
theorem dX8_init_104 : decode cX8_init 104 = .ok (.aload_n 0, 1) := by decide +kernel
theorem dX8_init_105 : decode cX8_init 105 = .ok (.iconst 0, 1) := by decide +kernel
theorem dX8_init_106 : decode cX8_init 106 = .ok (.putfield 53, 3) := by decide +kernel
theorem dX8_init_109 : decode cX8_init 109 = .ok (.aload_n 0, 1) := by decide +kernel
theorem dX8_init_110 : decode cX8_init 110 = .ok (.bipush 100, 2) := by decide +kernel
theorem dX8_init_112 : decode cX8_init 112 = .ok (.newarray .int, 2) := by decide +kernel
theorem dX8_init_114 : decode cX8_init 114 = .ok (.putfield 56, 3) := by decide +kernel
theorem dX8_init_117 : decode cX8_init 117 = .ok (.aload_n 0, 1) := by decide +kernel
theorem dX8_init_118 : decode cX8_init 118 = .ok (.bipush 6, 2) := by decide +kernel
theorem dX8_init_120 : decode cX8_init 120 = .ok (.newarray .int, 2) := by decide +kernel
theorem dX8_init_122 : decode cX8_init 122 = .ok (.putfield 59, 3) := by decide +kernel
theorem dX8_init_125 : decode cX8_init 125 = .ok (.aload_n 0, 1) := by decide +kernel
theorem dX8_init_126 : decode cX8_init 126 = .ok (.bipush 60, 2) := by decide +kernel
theorem dX8_init_128 : decode cX8_init 128 = .ok (.newarray .int, 2) := by decide +kernel
theorem dX8_init_130 : decode cX8_init 130 = .ok (.putfield 62, 3) := by decide +kernel
theorem dX8_init_133 : decode cX8_init 133 = .ok (.aload_n 0, 1) := by decide +kernel
theorem dX8_init_134 : decode cX8_init 134 = .ok (.bipush 60, 2) := by decide +kernel
theorem dX8_init_136 : decode cX8_init 136 = .ok (.newarray .int, 2) := by decide +kernel
theorem dX8_init_138 : decode cX8_init 138 = .ok (.putfield 65, 3) := by decide +kernel
theorem dX8_init_141 : decode cX8_init 141 = .ok (.aload_n 0, 1) := by decide +kernel
theorem dX8_init_142 : decode cX8_init 142 = .ok (.bipush 60, 2) := by decide +kernel
theorem dX8_init_144 : decode cX8_init 144 = .ok (.newarray .int, 2) := by decide +kernel
theorem dX8_init_146 : decode cX8_init 146 = .ok (.putfield 68, 3) := by decide +kernel
theorem dX8_init_149 : decode cX8_init 149 = .ok (.aload_n 0, 1) := by decide +kernel
theorem dX8_init_150 : decode cX8_init 150 = .ok (.bipush 60, 2) := by decide +kernel
theorem dX8_init_152 : decode cX8_init 152 = .ok (.newarray .int, 2) := by decide +kernel
theorem dX8_init_154 : decode cX8_init 154 = .ok (.putfield 71, 3) := by decide +kernel
theorem dX8_init_157 : decode cX8_init 157 = .ok (.aload_n 0, 1) := by decide +kernel
theorem dX8_init_158 : decode cX8_init 158 = .ok (.sipush 600, 3) := by decide +kernel
theorem dX8_init_161 : decode cX8_init 161 = .ok (.newarray .int, 2) := by decide +kernel
theorem dX8_init_163 : decode cX8_init 163 = .ok (.putfield 74, 3) := by decide +kernel
theorem dX8_init_166 : decode cX8_init 166 = .ok (.aload_n 0, 1) := by decide +kernel
theorem dX8_init_167 : decode cX8_init 167 = .ok (.bipush 101, 2) := by decide +kernel
theorem dX8_init_169 : decode cX8_init 169 = .ok (.newarray .int, 2) := by decide +kernel
theorem dX8_init_171 : decode cX8_init 171 = .ok (.putfield 77, 3) := by decide +kernel
theorem dX8_init_174 : decode cX8_init 174 = .ok (.aload_n 0, 1) := by decide +kernel
theorem dX8_init_175 : decode cX8_init 175 = .ok (.iconst 0, 1) := by decide +kernel
theorem dX8_init_176 : decode cX8_init 176 = .ok (.putfield 80, 3) := by decide +kernel
theorem dX8_init_179 : decode cX8_init 179 = .ok (.aload_n 0, 1) := by decide +kernel
theorem dX8_init_180 : decode cX8_init 180 = .ok (.iconst 0, 1) := by decide +kernel
theorem dX8_init_181 : decode cX8_init 181 = .ok (.putfield 83, 3) := by decide +kernel
theorem dX8_init_184 : decode cX8_init 184 = .ok (.aload_n 0, 1) := by decide +kernel
theorem dX8_init_185 : decode cX8_init 185 = .ok (.iconst 0, 1) := by decide +kernel
theorem dX8_init_186 : decode cX8_init 186 = .ok (.putfield 86, 3) := by decide +kernel
theorem dX8_init_189 : decode cX8_init 189 = .ok (.aload_n 0, 1) := by decide +kernel
theorem dX8_init_190 : decode cX8_init 190 = .ok (.bipush 10, 2) := by decide +kernel
theorem dX8_init_192 : decode cX8_init 192 = .ok (.newarray .int, 2) := by decide +kernel
theorem dX8_init_194 : decode cX8_init 194 = .ok (.dup, 1) := by decide +kernel
theorem dX8_init_195 : decode cX8_init 195 = .ok (.iconst 0, 1) := by decide +kernel
theorem dX8_init_196 : decode cX8_init 196 = .ok (.bipush 111, 2) := by decide +kernel
theorem dX8_init_198 : decode cX8_init 198 = .ok (.iastore, 1) := by decide +kernel
theorem dX8_init_199 : decode cX8_init 199 = .ok (.dup, 1) := by decide +kernel
theorem dX8_init_200 : decode cX8_init 200 = .ok (.iconst 1, 1) := by decide +kernel
theorem dX8_init_201 : decode cX8_init 201 = .ok (.bipush 119, 2) := by decide +kernel
theorem dX8_init_203 : decode cX8_init 203 = .ok (.iastore, 1) := by decide +kernel
theorem dX8_init_204 : decode cX8_init 204 = .ok (.dup, 1) := by decide +kernel
theorem dX8_init_205 : decode cX8_init 205 = .ok (.iconst 2, 1) := by decide +kernel
theorem dX8_init_206 : decode cX8_init 206 = .ok (.bipush 101, 2) := by decide +kernel
theorem dX8_init_208 : decode cX8_init 208 = .ok (.iastore, 1) := by decide +kernel
theorem dX8_init_209 : decode cX8_init 209 = .ok (.dup, 1) := by decide +kernel
theorem dX8_init_210 : decode cX8_init 210 = .ok (.iconst 3, 1) := by decide +kernel
theorem dX8_init_211 : decode cX8_init 211 = .ok (.bipush 115, 2) := by decide +kernel
theorem dX8_init_213 : decode cX8_init 213 = .ok (.iastore, 1) := by decide +kernel
theorem dX8_init_214 : decode cX8_init 214 = .ok (.dup, 1) := by decide +kernel
theorem dX8_init_215 : decode cX8_init 215 = .ok (.iconst 4, 1) := by decide +kernel
theorem dX8_init_216 : decode cX8_init 216 = .ok (.bipush 101, 2) := by decide +kernel
theorem dX8_init_218 : decode cX8_init 218 = .ok (.iastore, 1) := by decide +kernel
theorem dX8_init_219 : decode cX8_init 219 = .ok (.dup, 1) := by decide +kernel
theorem dX8_init_220 : decode cX8_init 220 = .ok (.iconst 5, 1) := by decide +kernel
theorem dX8_init_221 : decode cX8_init 221 = .ok (.bipush 101, 2) := by decide +kernel
theorem dX8_init_223 : decode cX8_init 223 = .ok (.iastore, 1) := by decide +kernel
theorem dX8_init_224 : decode cX8_init 224 = .ok (.dup, 1) := by decide +kernel
theorem dX8_init_225 : decode cX8_init 225 = .ok (.bipush 6, 2) := by decide +kernel
theorem dX8_init_227 : decode cX8_init 227 = .ok (.bipush 109, 2) := by decide +kernel
theorem dX8_init_229 : decode cX8_init 229 = .ok (.iastore, 1) := by decide +kernel
theorem dX8_init_230 : decode cX8_init 230 = .ok (.dup, 1) := by decide +kernel
theorem dX8_init_231 : decode cX8_init 231 = .ok (.bipush 7, 2) := by decide +kernel
theorem dX8_init_233 : decode cX8_init 233 = .ok (.bipush 111, 2) := by decide +kernel
theorem dX8_init_235 : decode cX8_init 235 = .ok (.iastore, 1) := by decide +kernel
theorem dX8_init_236 : decode cX8_init 236 = .ok (.dup, 1) := by decide +kernel
theorem dX8_init_237 : decode cX8_init 237 = .ok (.bipush 8, 2) := by decide +kernel
theorem dX8_init_239 : decode cX8_init 239 = .ok (.bipush 115, 2) := by decide +kernel
theorem dX8_init_241 : decode cX8_init 241 = .ok (.iastore, 1) := by decide +kernel
theorem dX8_init_242 : decode cX8_init 242 = .ok (.dup, 1) := by decide +kernel
theorem dX8_init_243 : decode cX8_init 243 = .ok (.bipush 9, 2) := by decide +kernel
theorem dX8_init_245 : decode cX8_init 245 = .ok (.bipush 116, 2) := by decide +kernel
theorem dX8_init_247 : decode cX8_init 247 = .ok (.iastore, 1) := by decide +kernel
theorem dX8_init_248 : decode cX8_init 248 = .ok (.putfield 89, 3) := by decide +kernel
theorem dX8_init_251 : decode cX8_init 251 = .ok (.aload_n 0, 1) := by decide +kernel
theorem dX8_init_252 : decode cX8_init 252 = .ok (.bipush 100, 2) := by decide +kernel
theorem dX8_init_254 : decode cX8_init 254 = .ok (.newarray .boolean, 2) := by decide +kernel
theorem dX8_init_256 : decode cX8_init 256 = .ok (.putfield 92, 3) := by decide +kernel
theorem dX8_init_259 : decode cX8_init 259 = .ok (.aload_n 0, 1) := by decide +kernel
theorem dX8_init_260 : decode cX8_init 260 = .ok (.bipush 15, 2) := by decide +kernel
theorem dX8_init_262 : decode cX8_init 262 = .ok (.newarray .int, 2) := by decide +kernel
theorem dX8_init_264 : decode cX8_init 264 = .ok (.putfield 96, 3) := by decide +kernel
theorem dX8_init_267 : decode cX8_init 267 = .ok (.aload_n 0, 1) := by decide +kernel
theorem dX8_init_268 : decode cX8_init 268 = .ok (.iconst 5, 1) := by decide +kernel
theorem dX8_init_269 : decode cX8_init 269 = .ok (.newarray .int, 2) := by decide +kernel
theorem dX8_init_271 : decode cX8_init 271 = .ok (.putfield 99, 3) := by decide +kernel
theorem dX8_init_274 : decode cX8_init 274 = .ok (.aload_n 0, 1) := by decide +kernel
theorem dX8_init_275 : decode cX8_init 275 = .ok (.iconst 5, 1) := by decide +kernel
theorem dX8_init_276 : decode cX8_init 276 = .ok (.newarray .int, 2) := by decide +kernel
theorem dX8_init_278 : decode cX8_init 278 = .ok (.putfield 102, 3) := by decide +kernel
theorem dX8_init_281 : decode cX8_init 281 = .ok (.aload_n 0, 1) := by decide +kernel
theorem dX8_init_282 : decode cX8_init 282 = .ok (.iconst 5, 1) := by decide +kernel
theorem dX8_init_283 : decode cX8_init 283 = .ok (.newarray .int, 2) := by decide +kernel
theorem dX8_init_285 : decode cX8_init 285 = .ok (.putfield 105, 3) := by decide +kernel
theorem dX8_init_288 : decode cX8_init 288 = .ok (.aload_n 0, 1) := by decide +kernel
theorem dX8_init_289 : decode cX8_init 289 = .ok (.iconst 5, 1) := by decide +kernel
theorem dX8_init_290 : decode cX8_init 290 = .ok (.newarray .int, 2) := by decide +kernel
theorem dX8_init_292 : decode cX8_init 292 = .ok (.putfield 108, 3) := by decide +kernel
theorem dX8_init_295 : decode cX8_init 295 = .ok (.aload_n 0, 1) := by decide +kernel
theorem dX8_init_296 : decode cX8_init 296 = .ok (.iconst 0, 1) := by decide +kernel
theorem dX8_init_297 : decode cX8_init 297 = .ok (.putfield 111, 3) := by decide +kernel
theorem dX8_init_300 : decode cX8_init 300 = .ok (.aload_n 0, 1) := by decide +kernel
theorem dX8_init_301 : decode cX8_init 301 = .ok (.iconst 0, 1) := by decide +kernel
theorem dX8_init_302 : decode cX8_init 302 = .ok (.putfield 114, 3) := by decide +kernel
theorem dX8_init_305 : decode cX8_init 305 = .ok (.aload_n 0, 1) := by decide +kernel
theorem dX8_init_306 : decode cX8_init 306 = .ok (.iconst 0, 1) := by decide +kernel
theorem dX8_init_307 : decode cX8_init 307 = .ok (.putfield 117, 3) := by decide +kernel
theorem dX8_init_310 : decode cX8_init 310 = .ok (.aload_n 0, 1) := by decide +kernel
theorem dX8_init_311 : decode cX8_init 311 = .ok (.iconst 0, 1) := by decide +kernel
theorem dX8_init_312 : decode cX8_init 312 = .ok (.putfield 120, 3) := by decide +kernel
theorem dX8_init_315 : decode cX8_init 315 = .ok (.aload_n 0, 1) := by decide +kernel
theorem dX8_init_316 : decode cX8_init 316 = .ok (.iconst 3, 1) := by decide +kernel
theorem dX8_init_317 : decode cX8_init 317 = .ok (.newarray .int, 2) := by decide +kernel
theorem dX8_init_319 : decode cX8_init 319 = .ok (.putfield 123, 3) := by decide +kernel
theorem dX8_init_322 : decode cX8_init 322 = .ok (.aload_n 0, 1) := by decide +kernel
theorem dX8_init_323 : decode cX8_init 323 = .ok (.iconst 0, 1) := by decide +kernel
theorem dX8_init_324 : decode cX8_init 324 = .ok (.putfield 126, 3) := by decide +kernel
theorem dX8_init_327 : decode cX8_init 327 = .ok (.aload_n 0, 1) := by decide +kernel
theorem dX8_init_328 : decode cX8_init 328 = .ok (.bipush 12, 2) := by decide +kernel
theorem dX8_init_330 : decode cX8_init 330 = .ok (.newarray .int, 2) := by decide +kernel
theorem dX8_init_332 : decode cX8_init 332 = .ok (.putfield 129, 3) := by decide +kernel
theorem dX8_init_335 : decode cX8_init 335 = .ok (.aload_n 0, 1) := by decide +kernel
theorem dX8_init_336 : decode cX8_init 336 = .ok (.bipush 12, 2) := by decide +kernel
theorem dX8_init_338 : decode cX8_init 338 = .ok (.newarray .int, 2) := by decide +kernel
theorem dX8_init_340 : decode cX8_init 340 = .ok (.putfield 132, 3) := by decide +kernel
theorem dX8_init_343 : decode cX8_init 343 = .ok (.aload_n 0, 1) := by decide +kernel
theorem dX8_init_344 : decode cX8_init 344 = .ok (.iconst 0, 1) := by decide +kernel
theorem dX8_init_345 : decode cX8_init 345 = .ok (.putfield 135, 3) := by decide +kernel
theorem dX8_init_348 : decode cX8_init 348 = .ok (.aload_n 0, 1) := by decide +kernel
theorem dX8_init_349 : decode cX8_init 349 = .ok (.iconst (-1), 1) := by decide +kernel
theorem dX8_init_350 : decode cX8_init 350 = .ok (.putfield 139, 3) := by decide +kernel
theorem dX8_init_353 : decode cX8_init 353 = .ok (.aload_n 0, 1) := by decide +kernel
theorem dX8_init_354 : decode cX8_init 354 = .ok (.iconst 0, 1) := by decide +kernel
theorem dX8_init_355 : decode cX8_init 355 = .ok (.putfield 142, 3) := by decide +kernel
theorem dX8_init_358 : decode cX8_init 358 = .ok (.aload_n 0, 1) := by decide +kernel
theorem dX8_init_359 : decode cX8_init 359 = .ok (.iconst 0, 1) := by decide +kernel
theorem dX8_init_360 : decode cX8_init 360 = .ok (.putfield 145, 3) := by decide +kernel
theorem dX8_init_363 : decode cX8_init 363 = .ok (.aload_n 0, 1) := by decide +kernel
theorem dX8_init_364 : decode cX8_init 364 = .ok (.iconst 0, 1) := by decide +kernel
theorem dX8_init_365 : decode cX8_init 365 = .ok (.putfield 148, 3) := by decide +kernel
theorem dX8_init_368 : decode cX8_init 368 = .ok (.aload_n 0, 1) := by decide +kernel
theorem dX8_init_369 : decode cX8_init 369 = .ok (.iconst 5, 1) := by decide +kernel
theorem dX8_init_370 : decode cX8_init 370 = .ok (.newarray .int, 2) := by decide +kernel
theorem dX8_init_372 : decode cX8_init 372 = .ok (.putfield 151, 3) := by decide +kernel
theorem dX8_init_375 : decode cX8_init 375 = .ok (.aload_n 0, 1) := by decide +kernel
theorem dX8_init_376 : decode cX8_init 376 = .ok (.iconst 5, 1) := by decide +kernel
theorem dX8_init_377 : decode cX8_init 377 = .ok (.newarray .int, 2) := by decide +kernel
theorem dX8_init_379 : decode cX8_init 379 = .ok (.putfield 154, 3) := by decide +kernel
theorem dX8_init_382 : decode cX8_init 382 = .ok (.aload_n 0, 1) := by decide +kernel
theorem dX8_init_383 : decode cX8_init 383 = .ok (.bipush 15, 2) := by decide +kernel
theorem dX8_init_385 : decode cX8_init 385 = .ok (.newarray .int, 2) := by decide +kernel
theorem dX8_init_387 : decode cX8_init 387 = .ok (.putfield 157, 3) := by decide +kernel
theorem dX8_init_390 : decode cX8_init 390 = .ok (.aload_n 0, 1) := by decide +kernel
theorem dX8_init_391 : decode cX8_init 391 = .ok (.iconst 5, 1) := by decide +kernel
theorem dX8_init_392 : decode cX8_init 392 = .ok (.newarray .int, 2) := by decide +kernel
theorem dX8_init_394 : decode cX8_init 394 = .ok (.putfield 160, 3) := by decide +kernel
theorem dX8_init_397 : decode cX8_init 397 = .ok (.aload_n 0, 1) := by decide +kernel
theorem dX8_init_398 : decode cX8_init 398 = .ok (.iconst 5, 1) := by decide +kernel
theorem dX8_init_399 : decode cX8_init 399 = .ok (.newarray .int, 2) := by decide +kernel
theorem dX8_init_401 : decode cX8_init 401 = .ok (.putfield 163, 3) := by decide +kernel
theorem dX8_init_404 : decode cX8_init 404 = .ok (.aload_n 0, 1) := by decide +kernel
theorem dX8_init_405 : decode cX8_init 405 = .ok (.iconst 5, 1) := by decide +kernel
theorem dX8_init_406 : decode cX8_init 406 = .ok (.newarray .int, 2) := by decide +kernel
theorem dX8_init_408 : decode cX8_init 408 = .ok (.putfield 166, 3) := by decide +kernel
theorem dX8_init_411 : decode cX8_init 411 = .ok (.aload_n 0, 1) := by decide +kernel
theorem dX8_init_412 : decode cX8_init 412 = .ok (.bipush 15, 2) := by decide +kernel
theorem dX8_init_414 : decode cX8_init 414 = .ok (.newarray .int, 2) := by decide +kernel
theorem dX8_init_416 : decode cX8_init 416 = .ok (.putfield 169, 3) := by decide +kernel
theorem dX8_init_419 : decode cX8_init 419 = .ok (.aload_n 0, 1) := by decide +kernel
theorem dX8_init_420 : decode cX8_init 420 = .ok (.iconst 3, 1) := by decide +kernel
theorem dX8_init_421 : decode cX8_init 421 = .ok (.newarray .int, 2) := by decide +kernel
theorem dX8_init_423 : decode cX8_init 423 = .ok (.putfield 172, 3) := by decide +kernel
theorem dX8_init_426 : decode cX8_init 426 = .ok (.aload_n 0, 1) := by decide +kernel
theorem dX8_init_427 : decode cX8_init 427 = .ok (.bipush 12, 2) := by decide +kernel
theorem dX8_init_429 : decode cX8_init 429 = .ok (.newarray .int, 2) := by decide +kernel
theorem dX8_init_431 : decode cX8_init 431 = .ok (.putfield 175, 3) := by decide +kernel
theorem dX8_init_434 : decode cX8_init 434 = .ok (.aload_n 0, 1) := by decide +kernel
theorem dX8_init_435 : decode cX8_init 435 = .ok (.bipush 12, 2) := by decide +kernel
theorem dX8_init_437 : decode cX8_init 437 = .ok (.newarray .int, 2) := by decide +kernel
theorem dX8_init_439 : decode cX8_init 439 = .ok (.putfield 178, 3) := by decide +kernel
theorem dX8_init_442 : decode cX8_init 442 = .ok (.aload_n 0, 1) := by decide +kernel
theorem dX8_init_443 : decode cX8_init 443 = .ok (.iconst 0, 1) := by decide +kernel
theorem dX8_init_444 : decode cX8_init 444 = .ok (.putfield 181, 3) := by decide +kernel
theorem dX8_init_447 : decode cX8_init 447 = .ok (.aload_n 0, 1) := by decide +kernel
theorem dX8_init_448 : decode cX8_init 448 = .ok (.bipush 20, 2) := by decide +kernel
theorem dX8_init_450 : decode cX8_init 450 = .ok (.newarray .int, 2) := by decide +kernel
theorem dX8_init_452 : decode cX8_init 452 = .ok (.putfield 184, 3) := by decide +kernel
theorem dX8_init_455 : decode cX8_init 455 = .ok (.aload_n 0, 1) := by decide +kernel
theorem dX8_init_456 : decode cX8_init 456 = .ok (.bipush 6, 2) := by decide +kernel
theorem dX8_init_458 : decode cX8_init 458 = .ok (.newarray .int, 2) := by decide +kernel
theorem dX8_init_460 : decode cX8_init 460 = .ok (.dup, 1) := by decide +kernel
theorem dX8_init_461 : decode cX8_init 461 = .ok (.iconst 0, 1) := by decide +kernel
theorem dX8_init_462 : decode cX8_init 462 = .ok (.iconst (-1), 1) := by decide +kernel
theorem dX8_init_463 : decode cX8_init 463 = .ok (.iastore, 1) := by decide +kernel
theorem dX8_init_464 : decode cX8_init 464 = .ok (.dup, 1) := by decide +kernel
theorem dX8_init_465 : decode cX8_init 465 = .ok (.iconst 1, 1) := by decide +kernel
theorem dX8_init_466 : decode cX8_init 466 = .ok (.iconst (-1), 1) := by decide +kernel
theorem dX8_init_467 : decode cX8_init 467 = .ok (.iastore, 1) := by decide +kernel
theorem dX8_init_468 : decode cX8_init 468 = .ok (.dup, 1) := by decide +kernel
theorem dX8_init_469 : decode cX8_init 469 = .ok (.iconst 2, 1) := by decide +kernel
theorem dX8_init_470 : decode cX8_init 470 = .ok (.iconst (-1), 1) := by decide +kernel
theorem dX8_init_471 : decode cX8_init 471 = .ok (.iastore, 1) := by decide +kernel
theorem dX8_init_472 : decode cX8_init 472 = .ok (.dup, 1) := by decide +kernel
theorem dX8_init_473 : decode cX8_init 473 = .ok (.iconst 3, 1) := by decide +kernel
theorem dX8_init_474 : decode cX8_init 474 = .ok (.iconst (-1), 1) := by decide +kernel
theorem dX8_init_475 : decode cX8_init 475 = .ok (.iastore, 1) := by decide +kernel
theorem dX8_init_476 : decode cX8_init 476 = .ok (.dup, 1) := by decide +kernel
theorem dX8_init_477 : decode cX8_init 477 = .ok (.iconst 4, 1) := by decide +kernel
theorem dX8_init_478 : decode cX8_init 478 = .ok (.iconst (-1), 1) := by decide +kernel
theorem dX8_init_479 : decode cX8_init 479 = .ok (.iastore, 1) := by decide +kernel
theorem dX8_init_480 : decode cX8_init 480 = .ok (.dup, 1) := by decide +kernel
theorem dX8_init_481 : decode cX8_init 481 = .ok (.iconst 5, 1) := by decide +kernel
theorem dX8_init_482 : decode cX8_init 482 = .ok (.iconst (-1), 1) := by decide +kernel
theorem dX8_init_483 : decode cX8_init 483 = .ok (.iastore, 1) := by decide +kernel
theorem dX8_init_484 : decode cX8_init 484 = .ok (.putfield 187, 3) := by decide +kernel
theorem dX8_init_487 : decode cX8_init 487 = .ok (.aload_n 0, 1) := by decide +kernel
theorem dX8_init_488 : decode cX8_init 488 = .ok (.bipush 6, 2) := by decide +kernel
theorem dX8_init_490 : decode cX8_init 490 = .ok (.newarray .int, 2) := by decide +kernel
theorem dX8_init_492 : decode cX8_init 492 = .ok (.putfield 190, 3) := by decide +kernel
theorem dX8_init_495 : decode cX8_init 495 = .ok (.aload_n 0, 1) := by decide +kernel
theorem dX8_init_496 : decode cX8_init 496 = .ok (.sipush 360, 3) := by decide +kernel
theorem dX8_init_499 : decode cX8_init 499 = .ok (.newarray .long, 2) := by decide +kernel
theorem dX8_init_501 : decode cX8_init 501 = .ok (.putfield 193, 3) := by decide +kernel
theorem dX8_init_504 : decode cX8_init 504 = .ok (.aload_n 0, 1) := by decide +kernel
theorem dX8_init_505 : decode cX8_init 505 = .ok (.bipush 60, 2) := by decide +kernel
theorem dX8_init_507 : decode cX8_init 507 = .ok (.newarray .long, 2) := by decide +kernel
theorem dX8_init_509 : decode cX8_init 509 = .ok (.putfield 197, 3) := by decide +kernel
theorem dX8_init_512 : decode cX8_init 512 = .ok (.return_, 1) := by decide +kernel
theorem dX8_in_0 : decode cX8_in 0 = .ok (.iload_n 1, 1) := by decide +kernel
theorem dX8_in_1 : decode cX8_in 1 = .ok (.iload_n 2, 1) := by decide +kernel
theorem dX8_in_2 : decode cX8_in 2 = .ok (.if_icmp .lt 12, 3) := by decide +kernel
theorem dX8_in_5 : decode cX8_in 5 = .ok (.iload_n 1, 1) := by decide +kernel
theorem dX8_in_6 : decode cX8_in 6 = .ok (.iload_n 3, 1) := by decide +kernel
theorem dX8_in_7 : decode cX8_in 7 = .ok (.if_icmp .gt 7, 3) := by decide +kernel
theorem dX8_in_10 : decode cX8_in 10 = .ok (.iconst 1, 1) := by decide +kernel
theorem dX8_in_11 : decode cX8_in 11 = .ok (.goto 4, 3) := by decide +kernel
theorem dX8_in_14 : decode cX8_in 14 = .ok (.iconst 0, 1) := by decide +kernel
theorem dX8_in_15 : decode cX8_in 15 = .ok (.ireturn, 1) := by decide +kernel
theorem dX8_isSort_0 : decode cX8_isSort 0 = .ok (.aload_n 0, 1) := by decide +kernel
theorem dX8_isSort_1 : decode cX8_isSort 1 = .ok (.iload_n 1, 1) := by decide +kernel
theorem dX8_isSort_2 : decode cX8_isSort 2 = .ok (.iconst 0, 1) := by decide +kernel
theorem dX8_isSort_3 : decode cX8_isSort 3 = .ok (.aload_n 0, 1) := by decide +kernel
theorem dX8_isSort_4 : decode cX8_isSort 4 = .ok (.getfield 7, 3) := by decide +kernel
theorem dX8_isSort_7 : decode cX8_isSort 7 = .ok (.iconst 1, 1) := by decide +kernel
theorem dX8_isSort_8 : decode cX8_isSort 8 = .ok (.isub, 1) := by decide +kernel
theorem dX8_isSort_9 : decode cX8_isSort 9 = .ok (.invokevirtual 200, 3) := by decide +kernel
theorem dX8_isSort_12 : decode cX8_isSort 12 = .ok (.ireturn, 1) := by decide +kernel
theorem dX8_isDigit9_0 : decode cX8_isDigit9 0 = .ok (.aload_n 0, 1) := by decide +kernel
theorem dX8_isDigit9_1 : decode cX8_isDigit9 1 = .ok (.iload_n 1, 1) := by decide +kernel
theorem dX8_isDigit9_2 : decode cX8_isDigit9 2 = .ok (.iconst 0, 1) := by decide +kernel
theorem dX8_isDigit9_3 : decode cX8_isDigit9 3 = .ok (.bipush 9, 2) := by decide +kernel
theorem dX8_isDigit9_5 : decode cX8_isDigit9 5 = .ok (.invokevirtual 200, 3) := by decide +kernel
theorem dX8_isDigit9_8 : decode cX8_isDigit9 8 = .ok (.ireturn, 1) := by decide +kernel
theorem dX8_sort_0 : decode cX8_sort 0 = .ok (.aload_n 0, 1) := by decide +kernel
theorem dX8_sort_1 : decode cX8_sort 1 = .ok (.iload_n 1, 1) := by decide +kernel
theorem dX8_sort_2 : decode cX8_sort 2 = .ok (.iconst 0, 1) := by decide +kernel
theorem dX8_sort_3 : decode cX8_sort 3 = .ok (.bipush 6, 2) := by decide +kernel
theorem dX8_sort_5 : decode cX8_sort 5 = .ok (.invokevirtual 200, 3) := by decide +kernel
theorem dX8_sort_8 : decode cX8_sort 8 = .ok (.ifCond .ne 5, 3) := by decide +kernel
theorem dX8_sort_11 : decode cX8_sort 11 = .ok (.iconst (-1), 1) := by decide +kernel
theorem dX8_sort_12 : decode cX8_sort 12 = .ok (.ireturn, 1) := by decide +kernel
theorem dX8_sort_13 : decode cX8_sort 13 = .ok (.aload_n 0, 1) := by decide +kernel
theorem dX8_sort_14 : decode cX8_sort 14 = .ok (.iload_n 2, 1) := by decide +kernel
theorem dX8_sort_15 : decode cX8_sort 15 = .ok (.invokevirtual 204, 3) := by decide +kernel
theorem dX8_sort_18 : decode cX8_sort 18 = .ok (.ifCond .eq 41, 3) := by decide +kernel
theorem dX8_sort_21 : decode cX8_sort 21 = .ok (.aload_n 0, 1) := by decide +kernel
theorem dX8_sort_22 : decode cX8_sort 22 = .ok (.iload_n 3, 1) := by decide +kernel
theorem dX8_sort_23 : decode cX8_sort 23 = .ok (.invokevirtual 204, 3) := by decide +kernel
theorem dX8_sort_26 : decode cX8_sort 26 = .ok (.ifCond .eq 33, 3) := by decide +kernel
theorem dX8_sort_29 : decode cX8_sort 29 = .ok (.aload_n 0, 1) := by decide +kernel
theorem dX8_sort_30 : decode cX8_sort 30 = .ok (.iload 4, 2) := by decide +kernel
theorem dX8_sort_32 : decode cX8_sort 32 = .ok (.invokevirtual 204, 3) := by decide +kernel
theorem dX8_sort_35 : decode cX8_sort 35 = .ok (.ifCond .eq 24, 3) := by decide +kernel
theorem dX8_sort_38 : decode cX8_sort 38 = .ok (.aload_n 0, 1) := by decide +kernel
theorem dX8_sort_39 : decode cX8_sort 39 = .ok (.iload 5, 2) := by decide +kernel
theorem dX8_sort_41 : decode cX8_sort 41 = .ok (.invokevirtual 204, 3) := by decide +kernel
theorem dX8_sort_44 : decode cX8_sort 44 = .ok (.ifCond .eq 15, 3) := by decide +kernel
theorem dX8_sort_47 : decode cX8_sort 47 = .ok (.aload_n 0, 1) := by decide +kernel
theorem dX8_sort_48 : decode cX8_sort 48 = .ok (.iload 6, 2) := by decide +kernel
theorem dX8_sort_50 : decode cX8_sort 50 = .ok (.iconst 0, 1) := by decide +kernel
theorem dX8_sort_51 : decode cX8_sort 51 = .ok (.bipush 99, 2) := by decide +kernel
theorem dX8_sort_53 : decode cX8_sort 53 = .ok (.invokevirtual 200, 3) := by decide +kernel
theorem dX8_sort_56 : decode cX8_sort 56 = .ok (.ifCond .ne 6, 3) := by decide +kernel
theorem dX8_sort_59 : decode cX8_sort 59 = .ok (.bipush (-2), 2) := by decide +kernel
theorem dX8_sort_61 : decode cX8_sort 61 = .ok (.ireturn, 1) := by decide +kernel
theorem dX8_sort_62 : decode cX8_sort 62 = .ok (.aload_n 0, 1) := by decide +kernel
theorem dX8_sort_63 : decode cX8_sort 63 = .ok (.getfield 7, 3) := by decide +kernel
theorem dX8_sort_66 : decode cX8_sort 66 = .ok (.iconst 5, 1) := by decide +kernel
theorem dX8_sort_67 : decode cX8_sort 67 = .ok (.if_icmp .ne 6, 3) := by decide +kernel
theorem dX8_sort_70 : decode cX8_sort 70 = .ok (.bipush (-4), 2) := by decide +kernel
theorem dX8_sort_72 : decode cX8_sort 72 = .ok (.ireturn, 1) := by decide +kernel
theorem dX8_sort_73 : decode cX8_sort 73 = .ok (.aload_n 0, 1) := by decide +kernel
theorem dX8_sort_74 : decode cX8_sort 74 = .ok (.getfield 16, 3) := by decide +kernel
theorem dX8_sort_77 : decode cX8_sort 77 = .ok (.aload_n 0, 1) := by decide +kernel
theorem dX8_sort_78 : decode cX8_sort 78 = .ok (.getfield 7, 3) := by decide +kernel
theorem dX8_sort_81 : decode cX8_sort 81 = .ok (.iload_n 1, 1) := by decide +kernel
theorem dX8_sort_82 : decode cX8_sort 82 = .ok (.iastore, 1) := by decide +kernel
theorem dX8_sort_83 : decode cX8_sort 83 = .ok (.aload_n 0, 1) := by decide +kernel
theorem dX8_sort_84 : decode cX8_sort 84 = .ok (.getfield 20, 3) := by decide +kernel
theorem dX8_sort_87 : decode cX8_sort 87 = .ok (.aload_n 0, 1) := by decide +kernel
theorem dX8_sort_88 : decode cX8_sort 88 = .ok (.getfield 7, 3) := by decide +kernel
theorem dX8_sort_91 : decode cX8_sort 91 = .ok (.iload_n 2, 1) := by decide +kernel
theorem dX8_sort_92 : decode cX8_sort 92 = .ok (.iastore, 1) := by decide +kernel
theorem dX8_sort_93 : decode cX8_sort 93 = .ok (.aload_n 0, 1) := by decide +kernel
theorem dX8_sort_94 : decode cX8_sort 94 = .ok (.getfield 23, 3) := by decide +kernel
theorem dX8_sort_97 : decode cX8_sort 97 = .ok (.iconst 3, 1) := by decide +kernel
theorem dX8_sort_98 : decode cX8_sort 98 = .ok (.aload_n 0, 1) := by decide +kernel
theorem dX8_sort_99 : decode cX8_sort 99 = .ok (.getfield 7, 3) := by decide +kernel
theorem dX8_sort_102 : decode cX8_sort 102 = .ok (.imul, 1) := by decide +kernel
theorem dX8_sort_103 : decode cX8_sort 103 = .ok (.iload_n 3, 1) := by decide +kernel
theorem dX8_sort_104 : decode cX8_sort 104 = .ok (.iastore, 1) := by decide +kernel
theorem dX8_sort_105 : decode cX8_sort 105 = .ok (.aload_n 0, 1) := by decide +kernel
theorem dX8_sort_106 : decode cX8_sort 106 = .ok (.getfield 23, 3) := by decide +kernel
theorem dX8_sort_109 : decode cX8_sort 109 = .ok (.iconst 3, 1) := by decide +kernel
theorem dX8_sort_110 : decode cX8_sort 110 = .ok (.aload_n 0, 1) := by decide +kernel
theorem dX8_sort_111 : decode cX8_sort 111 = .ok (.getfield 7, 3) := by decide +kernel
theorem dX8_sort_114 : decode cX8_sort 114 = .ok (.imul, 1) := by decide +kernel
theorem dX8_sort_115 : decode cX8_sort 115 = .ok (.iconst 1, 1) := by decide +kernel
theorem dX8_sort_116 : decode cX8_sort 116 = .ok (.iadd, 1) := by decide +kernel
theorem dX8_sort_117 : decode cX8_sort 117 = .ok (.iload 4, 2) := by decide +kernel
theorem dX8_sort_119 : decode cX8_sort 119 = .ok (.iastore, 1) := by decide +kernel
theorem dX8_sort_120 : decode cX8_sort 120 = .ok (.aload_n 0, 1) := by decide +kernel
theorem dX8_sort_121 : decode cX8_sort 121 = .ok (.getfield 23, 3) := by decide +kernel
theorem dX8_sort_124 : decode cX8_sort 124 = .ok (.iconst 3, 1) := by decide +kernel
theorem dX8_sort_125 : decode cX8_sort 125 = .ok (.aload_n 0, 1) := by decide +kernel
theorem dX8_sort_126 : decode cX8_sort 126 = .ok (.getfield 7, 3) := by decide +kernel
theorem dX8_sort_129 : decode cX8_sort 129 = .ok (.imul, 1) := by decide +kernel
theorem dX8_sort_130 : decode cX8_sort 130 = .ok (.iconst 2, 1) := by decide +kernel
theorem dX8_sort_131 : decode cX8_sort 131 = .ok (.iadd, 1) := by decide +kernel
theorem dX8_sort_132 : decode cX8_sort 132 = .ok (.iload 5, 2) := by decide +kernel
theorem dX8_sort_134 : decode cX8_sort 134 = .ok (.iastore, 1) := by decide +kernel
theorem dX8_sort_135 : decode cX8_sort 135 = .ok (.aload_n 0, 1) := by decide +kernel
theorem dX8_sort_136 : decode cX8_sort 136 = .ok (.getfield 26, 3) := by decide +kernel
theorem dX8_sort_139 : decode cX8_sort 139 = .ok (.aload_n 0, 1) := by decide +kernel
theorem dX8_sort_140 : decode cX8_sort 140 = .ok (.getfield 7, 3) := by decide +kernel
theorem dX8_sort_143 : decode cX8_sort 143 = .ok (.iload 6, 2) := by decide +kernel
theorem dX8_sort_145 : decode cX8_sort 145 = .ok (.iastore, 1) := by decide +kernel
theorem dX8_sort_146 : decode cX8_sort 146 = .ok (.aload_n 0, 1) := by decide +kernel
theorem dX8_sort_147 : decode cX8_sort 147 = .ok (.getfield 29, 3) := by decide +kernel
theorem dX8_sort_150 : decode cX8_sort 150 = .ok (.aload_n 0, 1) := by decide +kernel
theorem dX8_sort_151 : decode cX8_sort 151 = .ok (.getfield 7, 3) := by decide +kernel
theorem dX8_sort_154 : decode cX8_sort 154 = .ok (.iconst 0, 1) := by decide +kernel
theorem dX8_sort_155 : decode cX8_sort 155 = .ok (.iastore, 1) := by decide +kernel
theorem dX8_sort_156 : decode cX8_sort 156 = .ok (.aload_n 0, 1) := by decide +kernel
theorem dX8_sort_157 : decode cX8_sort 157 = .ok (.getfield 32, 3) := by decide +kernel
theorem dX8_sort_160 : decode cX8_sort 160 = .ok (.aload_n 0, 1) := by decide +kernel
theorem dX8_sort_161 : decode cX8_sort 161 = .ok (.getfield 7, 3) := by decide +kernel
theorem dX8_sort_164 : decode cX8_sort 164 = .ok (.iconst 0, 1) := by decide +kernel
theorem dX8_sort_165 : decode cX8_sort 165 = .ok (.iastore, 1) := by decide +kernel
theorem dX8_sort_166 : decode cX8_sort 166 = .ok (.iconst 0, 1) := by decide +kernel
theorem dX8_sort_167 : decode cX8_sort 167 = .ok (.istore 7, 2) := by decide +kernel
theorem dX8_sort_169 : decode cX8_sort 169 = .ok (.iload 7, 2) := by decide +kernel
theorem dX8_sort_171 : decode cX8_sort 171 = .ok (.iconst 3, 1) := by decide +kernel
theorem dX8_sort_172 : decode cX8_sort 172 = .ok (.if_icmp .ge 24, 3) := by decide +kernel
theorem dX8_sort_175 : decode cX8_sort 175 = .ok (.aload_n 0, 1) := by decide +kernel
theorem dX8_sort_176 : decode cX8_sort 176 = .ok (.getfield 35, 3) := by decide +kernel
theorem dX8_sort_179 : decode cX8_sort 179 = .ok (.iconst 3, 1) := by decide +kernel
theorem dX8_sort_180 : decode cX8_sort 180 = .ok (.aload_n 0, 1) := by decide +kernel
theorem dX8_sort_181 : decode cX8_sort 181 = .ok (.getfield 7, 3) := by decide +kernel
theorem dX8_sort_184 : decode cX8_sort 184 = .ok (.imul, 1) := by decide +kernel
theorem dX8_sort_185 : decode cX8_sort 185 = .ok (.iload 7, 2) := by decide +kernel
theorem dX8_sort_187 : decode cX8_sort 187 = .ok (.iadd, 1) := by decide +kernel
theorem dX8_sort_188 : decode cX8_sort 188 = .ok (.iconst 0, 1) := by decide +kernel
theorem dX8_sort_189 : decode cX8_sort 189 = .ok (.iastore, 1) := by decide +kernel
theorem dX8_sort_190 : decode cX8_sort 190 = .ok (.iinc 7 1, 3) := by decide +kernel
theorem dX8_sort_193 : decode cX8_sort 193 = .ok (.goto (-24), 3) := by decide +kernel
theorem dX8_sort_196 : decode cX8_sort 196 = .ok (.aload_n 0, 1) := by decide +kernel
theorem dX8_sort_197 : decode cX8_sort 197 = .ok (.dup, 1) := by decide +kernel
theorem dX8_sort_198 : decode cX8_sort 198 = .ok (.getfield 7, 3) := by decide +kernel
theorem dX8_sort_201 : decode cX8_sort 201 = .ok (.iconst 1, 1) := by decide +kernel
theorem dX8_sort_202 : decode cX8_sort 202 = .ok (.iadd, 1) := by decide +kernel
theorem dX8_sort_203 : decode cX8_sort 203 = .ok (.putfield 7, 3) := by decide +kernel
theorem dX8_sort_206 : decode cX8_sort 206 = .ok (.aload_n 0, 1) := by decide +kernel
theorem dX8_sort_207 : decode cX8_sort 207 = .ok (.getfield 7, 3) := by decide +kernel
theorem dX8_sort_210 : decode cX8_sort 210 = .ok (.iconst 1, 1) := by decide +kernel
theorem dX8_sort_211 : decode cX8_sort 211 = .ok (.isub, 1) := by decide +kernel
theorem dX8_sort_212 : decode cX8_sort 212 = .ok (.ireturn, 1) := by decide +kernel
theorem dX8_herd_0 : decode cX8_herd 0 = .ok (.aload_n 0, 1) := by decide +kernel
theorem dX8_herd_1 : decode cX8_herd 1 = .ok (.iload_n 1, 1) := by decide +kernel
theorem dX8_herd_2 : decode cX8_herd 2 = .ok (.invokevirtual 208, 3) := by decide +kernel
theorem dX8_herd_5 : decode cX8_herd 5 = .ok (.ifCond .eq 13, 3) := by decide +kernel
theorem dX8_herd_8 : decode cX8_herd 8 = .ok (.aload_n 0, 1) := by decide +kernel
theorem dX8_herd_9 : decode cX8_herd 9 = .ok (.iload_n 2, 1) := by decide +kernel
theorem dX8_herd_10 : decode cX8_herd 10 = .ok (.iconst 0, 1) := by decide +kernel
theorem dX8_herd_11 : decode cX8_herd 11 = .ok (.iconst 1, 1) := by decide +kernel
theorem dX8_herd_12 : decode cX8_herd 12 = .ok (.invokevirtual 200, 3) := by decide +kernel
theorem dX8_herd_15 : decode cX8_herd 15 = .ok (.ifCond .ne 5, 3) := by decide +kernel
theorem dX8_herd_18 : decode cX8_herd 18 = .ok (.iconst (-1), 1) := by decide +kernel
theorem dX8_herd_19 : decode cX8_herd 19 = .ok (.ireturn, 1) := by decide +kernel
theorem dX8_herd_20 : decode cX8_herd 20 = .ok (.aload_n 0, 1) := by decide +kernel
theorem dX8_herd_21 : decode cX8_herd 21 = .ok (.iload_n 3, 1) := by decide +kernel
theorem dX8_herd_22 : decode cX8_herd 22 = .ok (.iconst 0, 1) := by decide +kernel
theorem dX8_herd_23 : decode cX8_herd 23 = .ok (.bipush 12, 2) := by decide +kernel
theorem dX8_herd_25 : decode cX8_herd 25 = .ok (.invokevirtual 200, 3) := by decide +kernel
theorem dX8_herd_28 : decode cX8_herd 28 = .ok (.ifCond .ne 6, 3) := by decide +kernel
theorem dX8_herd_31 : decode cX8_herd 31 = .ok (.bipush (-2), 2) := by decide +kernel
theorem dX8_herd_33 : decode cX8_herd 33 = .ok (.ireturn, 1) := by decide +kernel
theorem dX8_herd_34 : decode cX8_herd 34 = .ok (.iload_n 2, 1) := by decide +kernel
theorem dX8_herd_35 : decode cX8_herd 35 = .ok (.ifCond .ne 12, 3) := by decide +kernel
theorem dX8_herd_38 : decode cX8_herd 38 = .ok (.aload_n 0, 1) := by decide +kernel
theorem dX8_herd_39 : decode cX8_herd 39 = .ok (.getfield 29, 3) := by decide +kernel
theorem dX8_herd_42 : decode cX8_herd 42 = .ok (.iload_n 1, 1) := by decide +kernel
theorem dX8_herd_43 : decode cX8_herd 43 = .ok (.iaload, 1) := by decide +kernel
theorem dX8_herd_44 : decode cX8_herd 44 = .ok (.goto 9, 3) := by decide +kernel
theorem dX8_herd_47 : decode cX8_herd 47 = .ok (.aload_n 0, 1) := by decide +kernel
theorem dX8_herd_48 : decode cX8_herd 48 = .ok (.getfield 32, 3) := by decide +kernel
theorem dX8_herd_51 : decode cX8_herd 51 = .ok (.iload_n 1, 1) := by decide +kernel
theorem dX8_herd_52 : decode cX8_herd 52 = .ok (.iaload, 1) := by decide +kernel
theorem dX8_herd_53 : decode cX8_herd 53 = .ok (.istore 4, 2) := by decide +kernel
theorem dX8_herd_55 : decode cX8_herd 55 = .ok (.iload_n 2, 1) := by decide +kernel
theorem dX8_herd_56 : decode cX8_herd 56 = .ok (.ifCond .ne 13, 3) := by decide +kernel
theorem dX8_herd_59 : decode cX8_herd 59 = .ok (.aload_n 0, 1) := by decide +kernel
theorem dX8_herd_60 : decode cX8_herd 60 = .ok (.getfield 29, 3) := by decide +kernel
theorem dX8_herd_63 : decode cX8_herd 63 = .ok (.iload_n 1, 1) := by decide +kernel
theorem dX8_herd_64 : decode cX8_herd 64 = .ok (.iload_n 3, 1) := by decide +kernel
theorem dX8_herd_65 : decode cX8_herd 65 = .ok (.iastore, 1) := by decide +kernel
theorem dX8_herd_66 : decode cX8_herd 66 = .ok (.goto 10, 3) := by decide +kernel
theorem dX8_herd_69 : decode cX8_herd 69 = .ok (.aload_n 0, 1) := by decide +kernel
theorem dX8_herd_70 : decode cX8_herd 70 = .ok (.getfield 32, 3) := by decide +kernel
theorem dX8_herd_73 : decode cX8_herd 73 = .ok (.iload_n 1, 1) := by decide +kernel
theorem dX8_herd_74 : decode cX8_herd 74 = .ok (.iload_n 3, 1) := by decide +kernel
theorem dX8_herd_75 : decode cX8_herd 75 = .ok (.iastore, 1) := by decide +kernel
theorem dX8_herd_76 : decode cX8_herd 76 = .ok (.iload 4, 2) := by decide +kernel
theorem dX8_herd_78 : decode cX8_herd 78 = .ok (.ireturn, 1) := by decide +kernel
theorem dX8_row_0 : decode cX8_row 0 = .ok (.aload_n 0, 1) := by decide +kernel
theorem dX8_row_1 : decode cX8_row 1 = .ok (.iload_n 1, 1) := by decide +kernel
theorem dX8_row_2 : decode cX8_row 2 = .ok (.invokevirtual 208, 3) := by decide +kernel
theorem dX8_row_5 : decode cX8_row 5 = .ok (.ifCond .eq 13, 3) := by decide +kernel
theorem dX8_row_8 : decode cX8_row 8 = .ok (.aload_n 0, 1) := by decide +kernel
theorem dX8_row_9 : decode cX8_row 9 = .ok (.iload_n 2, 1) := by decide +kernel
theorem dX8_row_10 : decode cX8_row 10 = .ok (.iconst 0, 1) := by decide +kernel
theorem dX8_row_11 : decode cX8_row 11 = .ok (.iconst 2, 1) := by decide +kernel
theorem dX8_row_12 : decode cX8_row 12 = .ok (.invokevirtual 200, 3) := by decide +kernel
theorem dX8_row_15 : decode cX8_row 15 = .ok (.ifCond .ne 5, 3) := by decide +kernel
theorem dX8_row_18 : decode cX8_row 18 = .ok (.iconst (-1), 1) := by decide +kernel
theorem dX8_row_19 : decode cX8_row 19 = .ok (.ireturn, 1) := by decide +kernel
theorem dX8_row_20 : decode cX8_row 20 = .ok (.aload_n 0, 1) := by decide +kernel
theorem dX8_row_21 : decode cX8_row 21 = .ok (.iload_n 3, 1) := by decide +kernel
theorem dX8_row_22 : decode cX8_row 22 = .ok (.invokevirtual 204, 3) := by decide +kernel
theorem dX8_row_25 : decode cX8_row 25 = .ok (.ifCond .ne 6, 3) := by decide +kernel
theorem dX8_row_28 : decode cX8_row 28 = .ok (.bipush (-2), 2) := by decide +kernel
theorem dX8_row_30 : decode cX8_row 30 = .ok (.ireturn, 1) := by decide +kernel
theorem dX8_row_31 : decode cX8_row 31 = .ok (.aload_n 0, 1) := by decide +kernel
theorem dX8_row_32 : decode cX8_row 32 = .ok (.getfield 16, 3) := by decide +kernel
theorem dX8_row_35 : decode cX8_row 35 = .ok (.iload_n 1, 1) := by decide +kernel
theorem dX8_row_36 : decode cX8_row 36 = .ok (.iaload, 1) := by decide +kernel
theorem dX8_row_37 : decode cX8_row 37 = .ok (.bipush 6, 2) := by decide +kernel
theorem dX8_row_39 : decode cX8_row 39 = .ok (.if_icmp .eq 6, 3) := by decide +kernel
theorem dX8_row_42 : decode cX8_row 42 = .ok (.bipush (-3), 2) := by decide +kernel
theorem dX8_row_44 : decode cX8_row 44 = .ok (.ireturn, 1) := by decide +kernel
theorem dX8_row_45 : decode cX8_row 45 = .ok (.aload_n 0, 1) := by decide +kernel
theorem dX8_row_46 : decode cX8_row 46 = .ok (.getfield 35, 3) := by decide +kernel
theorem dX8_row_49 : decode cX8_row 49 = .ok (.iconst 3, 1) := by decide +kernel
theorem dX8_row_50 : decode cX8_row 50 = .ok (.iload_n 1, 1) := by decide +kernel
theorem dX8_row_51 : decode cX8_row 51 = .ok (.imul, 1) := by decide +kernel
theorem dX8_row_52 : decode cX8_row 52 = .ok (.iload_n 2, 1) := by decide +kernel
theorem dX8_row_53 : decode cX8_row 53 = .ok (.iadd, 1) := by decide +kernel
theorem dX8_row_54 : decode cX8_row 54 = .ok (.iaload, 1) := by decide +kernel
theorem dX8_row_55 : decode cX8_row 55 = .ok (.istore 4, 2) := by decide +kernel
theorem dX8_row_57 : decode cX8_row 57 = .ok (.aload_n 0, 1) := by decide +kernel
theorem dX8_row_58 : decode cX8_row 58 = .ok (.getfield 35, 3) := by decide +kernel
theorem dX8_row_61 : decode cX8_row 61 = .ok (.iconst 3, 1) := by decide +kernel
theorem dX8_row_62 : decode cX8_row 62 = .ok (.iload_n 1, 1) := by decide +kernel
theorem dX8_row_63 : decode cX8_row 63 = .ok (.imul, 1) := by decide +kernel
theorem dX8_row_64 : decode cX8_row 64 = .ok (.iload_n 2, 1) := by decide +kernel
theorem dX8_row_65 : decode cX8_row 65 = .ok (.iadd, 1) := by decide +kernel
theorem dX8_row_66 : decode cX8_row 66 = .ok (.iload_n 3, 1) := by decide +kernel
theorem dX8_row_67 : decode cX8_row 67 = .ok (.iastore, 1) := by decide +kernel
theorem dX8_row_68 : decode cX8_row 68 = .ok (.iload 4, 2) := by decide +kernel
theorem dX8_row_70 : decode cX8_row 70 = .ok (.ireturn, 1) := by decide +kernel
theorem dX8_month_0 : decode cX8_month 0 = .ok (.aload_n 0, 1) := by decide +kernel
theorem dX8_month_1 : decode cX8_month 1 = .ok (.iload_n 1, 1) := by decide +kernel
theorem dX8_month_2 : decode cX8_month 2 = .ok (.iconst 0, 1) := by decide +kernel
theorem dX8_month_3 : decode cX8_month 3 = .ok (.bipush 11, 2) := by decide +kernel
theorem dX8_month_5 : decode cX8_month 5 = .ok (.invokevirtual 200, 3) := by decide +kernel
theorem dX8_month_8 : decode cX8_month 8 = .ok (.ifCond .ne 6, 3) := by decide +kernel
theorem dX8_month_11 : decode cX8_month 11 = .ok (.bipush (-2), 2) := by decide +kernel
theorem dX8_month_13 : decode cX8_month 13 = .ok (.ireturn, 1) := by decide +kernel
theorem dX8_month_14 : decode cX8_month 14 = .ok (.aload_n 0, 1) := by decide +kernel
theorem dX8_month_15 : decode cX8_month 15 = .ok (.getfield 13, 3) := by decide +kernel
theorem dX8_month_18 : decode cX8_month 18 = .ok (.istore_n 2, 1) := by decide +kernel
theorem dX8_month_19 : decode cX8_month 19 = .ok (.aload_n 0, 1) := by decide +kernel
theorem dX8_month_20 : decode cX8_month 20 = .ok (.iload_n 1, 1) := by decide +kernel
theorem dX8_month_21 : decode cX8_month 21 = .ok (.putfield 13, 3) := by decide +kernel
theorem dX8_month_24 : decode cX8_month 24 = .ok (.iload_n 2, 1) := by decide +kernel
theorem dX8_month_25 : decode cX8_month 25 = .ok (.ireturn, 1) := by decide +kernel
theorem dX8_tell_0 : decode cX8_tell 0 = .ok (.aload_n 0, 1) := by decide +kernel
theorem dX8_tell_1 : decode cX8_tell 1 = .ok (.iload_n 1, 1) := by decide +kernel
theorem dX8_tell_2 : decode cX8_tell 2 = .ok (.iconst 0, 1) := by decide +kernel
theorem dX8_tell_3 : decode cX8_tell 3 = .ok (.iconst 2, 1) := by decide +kernel
theorem dX8_tell_4 : decode cX8_tell 4 = .ok (.invokevirtual 200, 3) := by decide +kernel
theorem dX8_tell_7 : decode cX8_tell 7 = .ok (.ifCond .ne 5, 3) := by decide +kernel
theorem dX8_tell_10 : decode cX8_tell 10 = .ok (.iconst (-1), 1) := by decide +kernel
theorem dX8_tell_11 : decode cX8_tell 11 = .ok (.ireturn, 1) := by decide +kernel
theorem dX8_tell_12 : decode cX8_tell 12 = .ok (.aload_n 0, 1) := by decide +kernel
theorem dX8_tell_13 : decode cX8_tell 13 = .ok (.iload_n 2, 1) := by decide +kernel
theorem dX8_tell_14 : decode cX8_tell 14 = .ok (.iconst (-1), 1) := by decide +kernel
theorem dX8_tell_15 : decode cX8_tell 15 = .ok (.sipush 999, 3) := by decide +kernel
theorem dX8_tell_18 : decode cX8_tell 18 = .ok (.invokevirtual 200, 3) := by decide +kernel
theorem dX8_tell_21 : decode cX8_tell 21 = .ok (.ifCond .ne 6, 3) := by decide +kernel
theorem dX8_tell_24 : decode cX8_tell 24 = .ok (.bipush (-2), 2) := by decide +kernel
theorem dX8_tell_26 : decode cX8_tell 26 = .ok (.ireturn, 1) := by decide +kernel
theorem dX8_tell_27 : decode cX8_tell 27 = .ok (.aload_n 0, 1) := by decide +kernel
theorem dX8_tell_28 : decode cX8_tell 28 = .ok (.getfield 38, 3) := by decide +kernel
theorem dX8_tell_31 : decode cX8_tell 31 = .ok (.iload_n 1, 1) := by decide +kernel
theorem dX8_tell_32 : decode cX8_tell 32 = .ok (.iload_n 2, 1) := by decide +kernel
theorem dX8_tell_33 : decode cX8_tell 33 = .ok (.iastore, 1) := by decide +kernel
theorem dX8_tell_34 : decode cX8_tell 34 = .ok (.iconst 1, 1) := by decide +kernel
theorem dX8_tell_35 : decode cX8_tell 35 = .ok (.ireturn, 1) := by decide +kernel
theorem dX8_feed_0 : decode cX8_feed 0 = .ok (.aload_n 0, 1) := by decide +kernel
theorem dX8_feed_1 : decode cX8_feed 1 = .ok (.iload_n 1, 1) := by decide +kernel
theorem dX8_feed_2 : decode cX8_feed 2 = .ok (.iconst 0, 1) := by decide +kernel
theorem dX8_feed_3 : decode cX8_feed 3 = .ok (.bipush 127, 2) := by decide +kernel
theorem dX8_feed_5 : decode cX8_feed 5 = .ok (.invokevirtual 200, 3) := by decide +kernel
theorem dX8_feed_8 : decode cX8_feed 8 = .ok (.ifCond .ne 6, 3) := by decide +kernel
theorem dX8_feed_11 : decode cX8_feed 11 = .ok (.bipush (-2), 2) := by decide +kernel
theorem dX8_feed_13 : decode cX8_feed 13 = .ok (.ireturn, 1) := by decide +kernel
theorem dX8_feed_14 : decode cX8_feed 14 = .ok (.aload_n 0, 1) := by decide +kernel
theorem dX8_feed_15 : decode cX8_feed 15 = .ok (.getfield 47, 3) := by decide +kernel
theorem dX8_feed_18 : decode cX8_feed 18 = .ok (.bipush 100, 2) := by decide +kernel
theorem dX8_feed_20 : decode cX8_feed 20 = .ok (.if_icmp .ne 6, 3) := by decide +kernel
theorem dX8_feed_23 : decode cX8_feed 23 = .ok (.bipush (-4), 2) := by decide +kernel
theorem dX8_feed_25 : decode cX8_feed 25 = .ok (.ireturn, 1) := by decide +kernel
theorem dX8_feed_26 : decode cX8_feed 26 = .ok (.aload_n 0, 1) := by decide +kernel
theorem dX8_feed_27 : decode cX8_feed 27 = .ok (.getfield 56, 3) := by decide +kernel
theorem dX8_feed_30 : decode cX8_feed 30 = .ok (.aload_n 0, 1) := by decide +kernel
theorem dX8_feed_31 : decode cX8_feed 31 = .ok (.getfield 47, 3) := by decide +kernel
theorem dX8_feed_34 : decode cX8_feed 34 = .ok (.iload_n 1, 1) := by decide +kernel
theorem dX8_feed_35 : decode cX8_feed 35 = .ok (.iastore, 1) := by decide +kernel
theorem dX8_feed_36 : decode cX8_feed 36 = .ok (.aload_n 0, 1) := by decide +kernel
theorem dX8_feed_37 : decode cX8_feed 37 = .ok (.dup, 1) := by decide +kernel
theorem dX8_feed_38 : decode cX8_feed 38 = .ok (.getfield 47, 3) := by decide +kernel
theorem dX8_feed_41 : decode cX8_feed 41 = .ok (.iconst 1, 1) := by decide +kernel
theorem dX8_feed_42 : decode cX8_feed 42 = .ok (.iadd, 1) := by decide +kernel
theorem dX8_feed_43 : decode cX8_feed 43 = .ok (.putfield 47, 3) := by decide +kernel
theorem dX8_feed_46 : decode cX8_feed 46 = .ok (.aload_n 0, 1) := by decide +kernel
theorem dX8_feed_47 : decode cX8_feed 47 = .ok (.getfield 47, 3) := by decide +kernel
theorem dX8_feed_50 : decode cX8_feed 50 = .ok (.ireturn, 1) := by decide +kernel
theorem dX8_next_0 : decode cX8_next 0 = .ok (.aload_n 0, 1) := by decide +kernel
theorem dX8_next_1 : decode cX8_next 1 = .ok (.getfield 50, 3) := by decide +kernel
theorem dX8_next_4 : decode cX8_next 4 = .ok (.aload_n 0, 1) := by decide +kernel
theorem dX8_next_5 : decode cX8_next 5 = .ok (.getfield 47, 3) := by decide +kernel
theorem dX8_next_8 : decode cX8_next 8 = .ok (.if_icmp .ge 15, 3) := by decide +kernel
theorem dX8_next_11 : decode cX8_next 11 = .ok (.aload_n 0, 1) := by decide +kernel
theorem dX8_next_12 : decode cX8_next 12 = .ok (.getfield 56, 3) := by decide +kernel
theorem dX8_next_15 : decode cX8_next 15 = .ok (.aload_n 0, 1) := by decide +kernel
theorem dX8_next_16 : decode cX8_next 16 = .ok (.getfield 50, 3) := by decide +kernel
theorem dX8_next_19 : decode cX8_next 19 = .ok (.iaload, 1) := by decide +kernel
theorem dX8_next_20 : decode cX8_next 20 = .ok (.goto 4, 3) := by decide +kernel
theorem dX8_next_23 : decode cX8_next 23 = .ok (.iconst (-1), 1) := by decide +kernel
theorem dX8_next_24 : decode cX8_next 24 = .ok (.ireturn, 1) := by decide +kernel
theorem dX8_takes_0 : decode cX8_takes 0 = .ok (.aload_n 0, 1) := by decide +kernel
theorem dX8_takes_1 : decode cX8_takes 1 = .ok (.invokevirtual 211, 3) := by decide +kernel
theorem dX8_takes_4 : decode cX8_takes 4 = .ok (.iload_n 1, 1) := by decide +kernel
theorem dX8_takes_5 : decode cX8_takes 5 = .ok (.if_icmp .eq 5, 3) := by decide +kernel
theorem dX8_takes_8 : decode cX8_takes 8 = .ok (.iconst 0, 1) := by decide +kernel
theorem dX8_takes_9 : decode cX8_takes 9 = .ok (.ireturn, 1) := by decide +kernel
theorem dX8_takes_10 : decode cX8_takes 10 = .ok (.aload_n 0, 1) := by decide +kernel
theorem dX8_takes_11 : decode cX8_takes 11 = .ok (.dup, 1) := by decide +kernel
theorem dX8_takes_12 : decode cX8_takes 12 = .ok (.getfield 50, 3) := by decide +kernel
theorem dX8_takes_15 : decode cX8_takes 15 = .ok (.iconst 1, 1) := by decide +kernel
theorem dX8_takes_16 : decode cX8_takes 16 = .ok (.iadd, 1) := by decide +kernel
theorem dX8_takes_17 : decode cX8_takes 17 = .ok (.putfield 50, 3) := by decide +kernel
theorem dX8_takes_20 : decode cX8_takes 20 = .ok (.iconst 1, 1) := by decide +kernel
theorem dX8_takes_21 : decode cX8_takes 21 = .ok (.ireturn, 1) := by decide +kernel
theorem dX8_takesWord_0 : decode cX8_takesWord 0 = .ok (.iconst 0, 1) := by decide +kernel
theorem dX8_takesWord_1 : decode cX8_takesWord 1 = .ok (.istore_n 3, 1) := by decide +kernel
theorem dX8_takesWord_2 : decode cX8_takesWord 2 = .ok (.iload_n 3, 1) := by decide +kernel
theorem dX8_takesWord_3 : decode cX8_takesWord 3 = .ok (.iload_n 2, 1) := by decide +kernel
theorem dX8_takesWord_4 : decode cX8_takesWord 4 = .ok (.if_icmp .ge 26, 3) := by decide +kernel
theorem dX8_takesWord_7 : decode cX8_takesWord 7 = .ok (.aload_n 0, 1) := by decide +kernel
theorem dX8_takesWord_8 : decode cX8_takesWord 8 = .ok (.aload_n 0, 1) := by decide +kernel
theorem dX8_takesWord_9 : decode cX8_takesWord 9 = .ok (.getfield 89, 3) := by decide +kernel
theorem dX8_takesWord_12 : decode cX8_takesWord 12 = .ok (.iload_n 1, 1) := by decide +kernel
theorem dX8_takesWord_13 : decode cX8_takesWord 13 = .ok (.iload_n 3, 1) := by decide +kernel
theorem dX8_takesWord_14 : decode cX8_takesWord 14 = .ok (.iadd, 1) := by decide +kernel
theorem dX8_takesWord_15 : decode cX8_takesWord 15 = .ok (.iaload, 1) := by decide +kernel
theorem dX8_takesWord_16 : decode cX8_takesWord 16 = .ok (.invokevirtual 215, 3) := by decide +kernel
theorem dX8_takesWord_19 : decode cX8_takesWord 19 = .ok (.ifCond .ne 5, 3) := by decide +kernel
theorem dX8_takesWord_22 : decode cX8_takesWord 22 = .ok (.iconst 0, 1) := by decide +kernel
theorem dX8_takesWord_23 : decode cX8_takesWord 23 = .ok (.ireturn, 1) := by decide +kernel
theorem dX8_takesWord_24 : decode cX8_takesWord 24 = .ok (.iinc 3 1, 3) := by decide +kernel
theorem dX8_takesWord_27 : decode cX8_takesWord 27 = .ok (.goto (-25), 3) := by decide +kernel
theorem dX8_takesWord_30 : decode cX8_takesWord 30 = .ok (.aload_n 0, 1) := by decide +kernel
theorem dX8_takesWord_31 : decode cX8_takesWord 31 = .ok (.bipush 32, 2) := by decide +kernel
theorem dX8_takesWord_33 : decode cX8_takesWord 33 = .ok (.invokevirtual 215, 3) := by decide +kernel
theorem dX8_takesWord_36 : decode cX8_takesWord 36 = .ok (.ireturn, 1) := by decide +kernel
theorem dX8_isDigit_0 : decode cX8_isDigit 0 = .ok (.aload_n 0, 1) := by decide +kernel
theorem dX8_isDigit_1 : decode cX8_isDigit 1 = .ok (.aload_n 0, 1) := by decide +kernel
theorem dX8_isDigit_2 : decode cX8_isDigit 2 = .ok (.invokevirtual 211, 3) := by decide +kernel
theorem dX8_isDigit_5 : decode cX8_isDigit 5 = .ok (.bipush 48, 2) := by decide +kernel
theorem dX8_isDigit_7 : decode cX8_isDigit 7 = .ok (.bipush 57, 2) := by decide +kernel
theorem dX8_isDigit_9 : decode cX8_isDigit 9 = .ok (.invokevirtual 200, 3) := by decide +kernel
theorem dX8_isDigit_12 : decode cX8_isDigit 12 = .ok (.ireturn, 1) := by decide +kernel
theorem dX8_takesNumber_0 : decode cX8_takesNumber 0 = .ok (.aload_n 0, 1) := by decide +kernel
theorem dX8_takesNumber_1 : decode cX8_takesNumber 1 = .ok (.invokevirtual 218, 3) := by decide +kernel
theorem dX8_takesNumber_4 : decode cX8_takesNumber 4 = .ok (.ifCond .ne 5, 3) := by decide +kernel
theorem dX8_takesNumber_7 : decode cX8_takesNumber 7 = .ok (.iconst 0, 1) := by decide +kernel
theorem dX8_takesNumber_8 : decode cX8_takesNumber 8 = .ok (.ireturn, 1) := by decide +kernel
theorem dX8_takesNumber_9 : decode cX8_takesNumber 9 = .ok (.aload_n 0, 1) := by decide +kernel
theorem dX8_takesNumber_10 : decode cX8_takesNumber 10 = .ok (.iconst 0, 1) := by decide +kernel
theorem dX8_takesNumber_11 : decode cX8_takesNumber 11 = .ok (.putfield 53, 3) := by decide +kernel
theorem dX8_takesNumber_14 : decode cX8_takesNumber 14 = .ok (.iconst 0, 1) := by decide +kernel
theorem dX8_takesNumber_15 : decode cX8_takesNumber 15 = .ok (.istore_n 1, 1) := by decide +kernel
theorem dX8_takesNumber_16 : decode cX8_takesNumber 16 = .ok (.iload_n 1, 1) := by decide +kernel
theorem dX8_takesNumber_17 : decode cX8_takesNumber 17 = .ok (.iconst 2, 1) := by decide +kernel
theorem dX8_takesNumber_18 : decode cX8_takesNumber 18 = .ok (.if_icmp .ge 45, 3) := by decide +kernel
theorem dX8_takesNumber_21 : decode cX8_takesNumber 21 = .ok (.aload_n 0, 1) := by decide +kernel
theorem dX8_takesNumber_22 : decode cX8_takesNumber 22 = .ok (.invokevirtual 218, 3) := by decide +kernel
theorem dX8_takesNumber_25 : decode cX8_takesNumber 25 = .ok (.ifCond .eq 38, 3) := by decide +kernel
theorem dX8_takesNumber_28 : decode cX8_takesNumber 28 = .ok (.aload_n 0, 1) := by decide +kernel
theorem dX8_takesNumber_29 : decode cX8_takesNumber 29 = .ok (.bipush 10, 2) := by decide +kernel
theorem dX8_takesNumber_31 : decode cX8_takesNumber 31 = .ok (.aload_n 0, 1) := by decide +kernel
theorem dX8_takesNumber_32 : decode cX8_takesNumber 32 = .ok (.getfield 53, 3) := by decide +kernel
theorem dX8_takesNumber_35 : decode cX8_takesNumber 35 = .ok (.imul, 1) := by decide +kernel
theorem dX8_takesNumber_36 : decode cX8_takesNumber 36 = .ok (.aload_n 0, 1) := by decide +kernel
theorem dX8_takesNumber_37 : decode cX8_takesNumber 37 = .ok (.invokevirtual 211, 3) := by decide +kernel
theorem dX8_takesNumber_40 : decode cX8_takesNumber 40 = .ok (.iadd, 1) := by decide +kernel
theorem dX8_takesNumber_41 : decode cX8_takesNumber 41 = .ok (.bipush 48, 2) := by decide +kernel
theorem dX8_takesNumber_43 : decode cX8_takesNumber 43 = .ok (.isub, 1) := by decide +kernel
theorem dX8_takesNumber_44 : decode cX8_takesNumber 44 = .ok (.putfield 53, 3) := by decide +kernel
theorem dX8_takesNumber_47 : decode cX8_takesNumber 47 = .ok (.aload_n 0, 1) := by decide +kernel
theorem dX8_takesNumber_48 : decode cX8_takesNumber 48 = .ok (.dup, 1) := by decide +kernel
theorem dX8_takesNumber_49 : decode cX8_takesNumber 49 = .ok (.getfield 50, 3) := by decide +kernel
theorem dX8_takesNumber_52 : decode cX8_takesNumber 52 = .ok (.iconst 1, 1) := by decide +kernel
theorem dX8_takesNumber_53 : decode cX8_takesNumber 53 = .ok (.iadd, 1) := by decide +kernel
theorem dX8_takesNumber_54 : decode cX8_takesNumber 54 = .ok (.putfield 50, 3) := by decide +kernel
theorem dX8_takesNumber_57 : decode cX8_takesNumber 57 = .ok (.iinc 1 1, 3) := by decide +kernel
theorem dX8_takesNumber_60 : decode cX8_takesNumber 60 = .ok (.goto (-44), 3) := by decide +kernel
theorem dX8_takesNumber_63 : decode cX8_takesNumber 63 = .ok (.iconst 1, 1) := by decide +kernel
theorem dX8_takesNumber_64 : decode cX8_takesNumber 64 = .ok (.ireturn, 1) := by decide +kernel
theorem dX8_emits_0 : decode cX8_emits 0 = .ok (.aload_n 0, 1) := by decide +kernel
theorem dX8_emits_1 : decode cX8_emits 1 = .ok (.getfield 74, 3) := by decide +kernel
theorem dX8_emits_4 : decode cX8_emits 4 = .ok (.aload_n 0, 1) := by decide +kernel
theorem dX8_emits_5 : decode cX8_emits 5 = .ok (.getfield 80, 3) := by decide +kernel
theorem dX8_emits_8 : decode cX8_emits 8 = .ok (.iload_n 1, 1) := by decide +kernel
theorem dX8_emits_9 : decode cX8_emits 9 = .ok (.iastore, 1) := by decide +kernel
theorem dX8_emits_10 : decode cX8_emits 10 = .ok (.aload_n 0, 1) := by decide +kernel
theorem dX8_emits_11 : decode cX8_emits 11 = .ok (.dup, 1) := by decide +kernel
theorem dX8_emits_12 : decode cX8_emits 12 = .ok (.getfield 80, 3) := by decide +kernel
theorem dX8_emits_15 : decode cX8_emits 15 = .ok (.iconst 1, 1) := by decide +kernel
theorem dX8_emits_16 : decode cX8_emits 16 = .ok (.iadd, 1) := by decide +kernel
theorem dX8_emits_17 : decode cX8_emits 17 = .ok (.putfield 80, 3) := by decide +kernel
theorem dX8_emits_20 : decode cX8_emits 20 = .ok (.return_, 1) := by decide +kernel
theorem dX8_whole_0 : decode cX8_whole 0 = .ok (.aload_n 0, 1) := by decide +kernel
theorem dX8_whole_1 : decode cX8_whole 1 = .ok (.getfield 83, 3) := by decide +kernel
theorem dX8_whole_4 : decode cX8_whole 4 = .ok (.ifCond .le 48, 3) := by decide +kernel
theorem dX8_whole_7 : decode cX8_whole 7 = .ok (.aload_n 0, 1) := by decide +kernel
theorem dX8_whole_8 : decode cX8_whole 8 = .ok (.getfield 77, 3) := by decide +kernel
theorem dX8_whole_11 : decode cX8_whole 11 = .ok (.aload_n 0, 1) := by decide +kernel
theorem dX8_whole_12 : decode cX8_whole 12 = .ok (.getfield 83, 3) := by decide +kernel
theorem dX8_whole_15 : decode cX8_whole 15 = .ok (.iconst 1, 1) := by decide +kernel
theorem dX8_whole_16 : decode cX8_whole 16 = .ok (.isub, 1) := by decide +kernel
theorem dX8_whole_17 : decode cX8_whole 17 = .ok (.iaload, 1) := by decide +kernel
theorem dX8_whole_18 : decode cX8_whole 18 = .ok (.bipush 33, 2) := by decide +kernel
theorem dX8_whole_20 : decode cX8_whole 20 = .ok (.if_icmp .ne 32, 3) := by decide +kernel
theorem dX8_whole_23 : decode cX8_whole 23 = .ok (.aload_n 0, 1) := by decide +kernel
theorem dX8_whole_24 : decode cX8_whole 24 = .ok (.bipush (-33), 2) := by decide +kernel
theorem dX8_whole_26 : decode cX8_whole 26 = .ok (.invokevirtual 222, 3) := by decide +kernel
theorem dX8_whole_29 : decode cX8_whole 29 = .ok (.aload_n 0, 1) := by decide +kernel
theorem dX8_whole_30 : decode cX8_whole 30 = .ok (.dup, 1) := by decide +kernel
theorem dX8_whole_31 : decode cX8_whole 31 = .ok (.getfield 83, 3) := by decide +kernel
theorem dX8_whole_34 : decode cX8_whole 34 = .ok (.iconst 1, 1) := by decide +kernel
theorem dX8_whole_35 : decode cX8_whole 35 = .ok (.isub, 1) := by decide +kernel
theorem dX8_whole_36 : decode cX8_whole 36 = .ok (.putfield 83, 3) := by decide +kernel
theorem dX8_whole_39 : decode cX8_whole 39 = .ok (.aload_n 0, 1) := by decide +kernel
theorem dX8_whole_40 : decode cX8_whole 40 = .ok (.dup, 1) := by decide +kernel
theorem dX8_whole_41 : decode cX8_whole 41 = .ok (.getfield 86, 3) := by decide +kernel
theorem dX8_whole_44 : decode cX8_whole 44 = .ok (.iconst 1, 1) := by decide +kernel
theorem dX8_whole_45 : decode cX8_whole 45 = .ok (.isub, 1) := by decide +kernel
theorem dX8_whole_46 : decode cX8_whole 46 = .ok (.putfield 86, 3) := by decide +kernel
theorem dX8_whole_49 : decode cX8_whole 49 = .ok (.goto (-49), 3) := by decide +kernel
theorem dX8_whole_52 : decode cX8_whole 52 = .ok (.return_, 1) := by decide +kernel
theorem dX8_settle_0 : decode cX8_settle 0 = .ok (.aload_n 0, 1) := by decide +kernel
theorem dX8_settle_1 : decode cX8_settle 1 = .ok (.getfield 83, 3) := by decide +kernel
theorem dX8_settle_4 : decode cX8_settle 4 = .ok (.ifCond .le 68, 3) := by decide +kernel
theorem dX8_settle_7 : decode cX8_settle 7 = .ok (.aload_n 0, 1) := by decide +kernel
theorem dX8_settle_8 : decode cX8_settle 8 = .ok (.getfield 77, 3) := by decide +kernel
theorem dX8_settle_11 : decode cX8_settle 11 = .ok (.aload_n 0, 1) := by decide +kernel
theorem dX8_settle_12 : decode cX8_settle 12 = .ok (.getfield 83, 3) := by decide +kernel
theorem dX8_settle_15 : decode cX8_settle 15 = .ok (.iconst 1, 1) := by decide +kernel
theorem dX8_settle_16 : decode cX8_settle 16 = .ok (.isub, 1) := by decide +kernel
theorem dX8_settle_17 : decode cX8_settle 17 = .ok (.iaload, 1) := by decide +kernel
theorem dX8_settle_18 : decode cX8_settle 18 = .ok (.bipush 38, 2) := by decide +kernel
theorem dX8_settle_20 : decode cX8_settle 20 = .ok (.if_icmp .eq 25, 3) := by decide +kernel
theorem dX8_settle_23 : decode cX8_settle 23 = .ok (.aload_n 0, 1) := by decide +kernel
theorem dX8_settle_24 : decode cX8_settle 24 = .ok (.getfield 77, 3) := by decide +kernel
theorem dX8_settle_27 : decode cX8_settle 27 = .ok (.aload_n 0, 1) := by decide +kernel
theorem dX8_settle_28 : decode cX8_settle 28 = .ok (.getfield 83, 3) := by decide +kernel
theorem dX8_settle_31 : decode cX8_settle 31 = .ok (.iconst 1, 1) := by decide +kernel
theorem dX8_settle_32 : decode cX8_settle 32 = .ok (.isub, 1) := by decide +kernel
theorem dX8_settle_33 : decode cX8_settle 33 = .ok (.iaload, 1) := by decide +kernel
theorem dX8_settle_34 : decode cX8_settle 34 = .ok (.bipush 124, 2) := by decide +kernel
theorem dX8_settle_36 : decode cX8_settle 36 = .ok (.if_icmp .ne 36, 3) := by decide +kernel
theorem dX8_settle_39 : decode cX8_settle 39 = .ok (.iload_n 1, 1) := by decide +kernel
theorem dX8_settle_40 : decode cX8_settle 40 = .ok (.bipush 38, 2) := by decide +kernel
theorem dX8_settle_42 : decode cX8_settle 42 = .ok (.if_icmp .eq 30, 3) := by decide +kernel
theorem dX8_settle_45 : decode cX8_settle 45 = .ok (.aload_n 0, 1) := by decide +kernel
theorem dX8_settle_46 : decode cX8_settle 46 = .ok (.dup, 1) := by decide +kernel
theorem dX8_settle_47 : decode cX8_settle 47 = .ok (.getfield 83, 3) := by decide +kernel
theorem dX8_settle_50 : decode cX8_settle 50 = .ok (.iconst 1, 1) := by decide +kernel
theorem dX8_settle_51 : decode cX8_settle 51 = .ok (.isub, 1) := by decide +kernel
theorem dX8_settle_52 : decode cX8_settle 52 = .ok (.putfield 83, 3) := by decide +kernel
theorem dX8_settle_55 : decode cX8_settle 55 = .ok (.aload_n 0, 1) := by decide +kernel
theorem dX8_settle_56 : decode cX8_settle 56 = .ok (.aload_n 0, 1) := by decide +kernel
theorem dX8_settle_57 : decode cX8_settle 57 = .ok (.getfield 77, 3) := by decide +kernel
theorem dX8_settle_60 : decode cX8_settle 60 = .ok (.aload_n 0, 1) := by decide +kernel
theorem dX8_settle_61 : decode cX8_settle 61 = .ok (.getfield 83, 3) := by decide +kernel
theorem dX8_settle_64 : decode cX8_settle 64 = .ok (.iaload, 1) := by decide +kernel
theorem dX8_settle_65 : decode cX8_settle 65 = .ok (.ineg, 1) := by decide +kernel
theorem dX8_settle_66 : decode cX8_settle 66 = .ok (.invokevirtual 222, 3) := by decide +kernel
theorem dX8_settle_69 : decode cX8_settle 69 = .ok (.goto (-69), 3) := by decide +kernel
theorem dX8_settle_72 : decode cX8_settle 72 = .ok (.return_, 1) := by decide +kernel
theorem dX8_place_0 : decode cX8_place 0 = .ok (.iload_n 1, 1) := by decide +kernel
theorem dX8_place_1 : decode cX8_place 1 = .ok (.tableswitch 95 102 118 #[89, 95, 93, 95, 95, 85, 95, 91, 95, 95, 95, 95, 95, 83, 95, 95, 87], 83) := by decide +kernel
theorem dX8_place_84 : decode cX8_place 84 = .ok (.iconst 0, 1) := by decide +kernel
theorem dX8_place_85 : decode cX8_place 85 = .ok (.ireturn, 1) := by decide +kernel
theorem dX8_place_86 : decode cX8_place 86 = .ok (.iconst 1, 1) := by decide +kernel
theorem dX8_place_87 : decode cX8_place 87 = .ok (.ireturn, 1) := by decide +kernel
theorem dX8_place_88 : decode cX8_place 88 = .ok (.iconst 2, 1) := by decide +kernel
theorem dX8_place_89 : decode cX8_place 89 = .ok (.ireturn, 1) := by decide +kernel
theorem dX8_place_90 : decode cX8_place 90 = .ok (.iconst 3, 1) := by decide +kernel
theorem dX8_place_91 : decode cX8_place 91 = .ok (.ireturn, 1) := by decide +kernel
theorem dX8_place_92 : decode cX8_place 92 = .ok (.iconst 4, 1) := by decide +kernel
theorem dX8_place_93 : decode cX8_place 93 = .ok (.ireturn, 1) := by decide +kernel
theorem dX8_place_94 : decode cX8_place 94 = .ok (.iconst 5, 1) := by decide +kernel
theorem dX8_place_95 : decode cX8_place 95 = .ok (.ireturn, 1) := by decide +kernel
theorem dX8_place_96 : decode cX8_place 96 = .ok (.iconst (-1), 1) := by decide +kernel
theorem dX8_place_97 : decode cX8_place 97 = .ok (.ireturn, 1) := by decide +kernel
theorem dX8_takesTest_0 : decode cX8_takesTest 0 = .ok (.aload_n 0, 1) := by decide +kernel
theorem dX8_takesTest_1 : decode cX8_takesTest 1 = .ok (.aload_n 0, 1) := by decide +kernel
theorem dX8_takesTest_2 : decode cX8_takesTest 2 = .ok (.invokevirtual 211, 3) := by decide +kernel
theorem dX8_takesTest_5 : decode cX8_takesTest 5 = .ok (.invokevirtual 226, 3) := by decide +kernel
theorem dX8_takesTest_8 : decode cX8_takesTest 8 = .ok (.istore_n 1, 1) := by decide +kernel
theorem dX8_takesTest_9 : decode cX8_takesTest 9 = .ok (.iload_n 1, 1) := by decide +kernel
theorem dX8_takesTest_10 : decode cX8_takesTest 10 = .ok (.ifCond .ge 5, 3) := by decide +kernel
theorem dX8_takesTest_13 : decode cX8_takesTest 13 = .ok (.iconst 0, 1) := by decide +kernel
theorem dX8_takesTest_14 : decode cX8_takesTest 14 = .ok (.ireturn, 1) := by decide +kernel
theorem dX8_takesTest_15 : decode cX8_takesTest 15 = .ok (.aload_n 0, 1) := by decide +kernel
theorem dX8_takesTest_16 : decode cX8_takesTest 16 = .ok (.dup, 1) := by decide +kernel
theorem dX8_takesTest_17 : decode cX8_takesTest 17 = .ok (.getfield 50, 3) := by decide +kernel
theorem dX8_takesTest_20 : decode cX8_takesTest 20 = .ok (.iconst 1, 1) := by decide +kernel
theorem dX8_takesTest_21 : decode cX8_takesTest 21 = .ok (.iadd, 1) := by decide +kernel
theorem dX8_takesTest_22 : decode cX8_takesTest 22 = .ok (.putfield 50, 3) := by decide +kernel
theorem dX8_takesTest_25 : decode cX8_takesTest 25 = .ok (.aload_n 0, 1) := by decide +kernel
theorem dX8_takesTest_26 : decode cX8_takesTest 26 = .ok (.invokevirtual 211, 3) := by decide +kernel
theorem dX8_takesTest_29 : decode cX8_takesTest 29 = .ok (.istore_n 2, 1) := by decide +kernel
theorem dX8_takesTest_30 : decode cX8_takesTest 30 = .ok (.aload_n 0, 1) := by decide +kernel
theorem dX8_takesTest_31 : decode cX8_takesTest 31 = .ok (.iload_n 2, 1) := by decide +kernel
theorem dX8_takesTest_32 : decode cX8_takesTest 32 = .ok (.bipush 60, 2) := by decide +kernel
theorem dX8_takesTest_34 : decode cX8_takesTest 34 = .ok (.bipush 62, 2) := by decide +kernel
theorem dX8_takesTest_36 : decode cX8_takesTest 36 = .ok (.invokevirtual 200, 3) := by decide +kernel
theorem dX8_takesTest_39 : decode cX8_takesTest 39 = .ok (.ifCond .ne 5, 3) := by decide +kernel
theorem dX8_takesTest_42 : decode cX8_takesTest 42 = .ok (.iconst 0, 1) := by decide +kernel
theorem dX8_takesTest_43 : decode cX8_takesTest 43 = .ok (.ireturn, 1) := by decide +kernel
theorem dX8_takesTest_44 : decode cX8_takesTest 44 = .ok (.aload_n 0, 1) := by decide +kernel
theorem dX8_takesTest_45 : decode cX8_takesTest 45 = .ok (.dup, 1) := by decide +kernel
theorem dX8_takesTest_46 : decode cX8_takesTest 46 = .ok (.getfield 50, 3) := by decide +kernel
theorem dX8_takesTest_49 : decode cX8_takesTest 49 = .ok (.iconst 1, 1) := by decide +kernel
theorem dX8_takesTest_50 : decode cX8_takesTest 50 = .ok (.iadd, 1) := by decide +kernel
theorem dX8_takesTest_51 : decode cX8_takesTest 51 = .ok (.putfield 50, 3) := by decide +kernel
theorem dX8_takesTest_54 : decode cX8_takesTest 54 = .ok (.aload_n 0, 1) := by decide +kernel
theorem dX8_takesTest_55 : decode cX8_takesTest 55 = .ok (.invokevirtual 230, 3) := by decide +kernel
theorem dX8_takesTest_58 : decode cX8_takesTest 58 = .ok (.ifCond .ne 5, 3) := by decide +kernel
theorem dX8_takesTest_61 : decode cX8_takesTest 61 = .ok (.iconst 0, 1) := by decide +kernel
theorem dX8_takesTest_62 : decode cX8_takesTest 62 = .ok (.ireturn, 1) := by decide +kernel
theorem dX8_takesTest_63 : decode cX8_takesTest 63 = .ok (.aload_n 0, 1) := by decide +kernel
theorem dX8_takesTest_64 : decode cX8_takesTest 64 = .ok (.sipush 1000, 3) := by decide +kernel
theorem dX8_takesTest_67 : decode cX8_takesTest 67 = .ok (.iload_n 1, 1) := by decide +kernel
theorem dX8_takesTest_68 : decode cX8_takesTest 68 = .ok (.imul, 1) := by decide +kernel
theorem dX8_takesTest_69 : decode cX8_takesTest 69 = .ok (.bipush 100, 2) := by decide +kernel
theorem dX8_takesTest_71 : decode cX8_takesTest 71 = .ok (.iload_n 2, 1) := by decide +kernel
theorem dX8_takesTest_72 : decode cX8_takesTest 72 = .ok (.bipush 60, 2) := by decide +kernel
theorem dX8_takesTest_74 : decode cX8_takesTest 74 = .ok (.isub, 1) := by decide +kernel
theorem dX8_takesTest_75 : decode cX8_takesTest 75 = .ok (.imul, 1) := by decide +kernel
theorem dX8_takesTest_76 : decode cX8_takesTest 76 = .ok (.iadd, 1) := by decide +kernel
theorem dX8_takesTest_77 : decode cX8_takesTest 77 = .ok (.aload_n 0, 1) := by decide +kernel
theorem dX8_takesTest_78 : decode cX8_takesTest 78 = .ok (.getfield 53, 3) := by decide +kernel
theorem dX8_takesTest_81 : decode cX8_takesTest 81 = .ok (.iadd, 1) := by decide +kernel
theorem dX8_takesTest_82 : decode cX8_takesTest 82 = .ok (.invokevirtual 222, 3) := by decide +kernel
theorem dX8_takesTest_85 : decode cX8_takesTest 85 = .ok (.aload_n 0, 1) := by decide +kernel
theorem dX8_takesTest_86 : decode cX8_takesTest 86 = .ok (.invokevirtual 233, 3) := by decide +kernel
theorem dX8_takesTest_89 : decode cX8_takesTest 89 = .ok (.iconst 1, 1) := by decide +kernel
theorem dX8_takesTest_90 : decode cX8_takesTest 90 = .ok (.ireturn, 1) := by decide +kernel
theorem dX8_takesE_0 : decode cX8_takesE 0 = .ok (.aload_n 0, 1) := by decide +kernel
theorem dX8_takesE_1 : decode cX8_takesE 1 = .ok (.iconst 0, 1) := by decide +kernel
theorem dX8_takesE_2 : decode cX8_takesE 2 = .ok (.putfield 83, 3) := by decide +kernel
theorem dX8_takesE_5 : decode cX8_takesE 5 = .ok (.aload_n 0, 1) := by decide +kernel
theorem dX8_takesE_6 : decode cX8_takesE 6 = .ok (.iconst 0, 1) := by decide +kernel
theorem dX8_takesE_7 : decode cX8_takesE 7 = .ok (.putfield 86, 3) := by decide +kernel
theorem dX8_takesE_10 : decode cX8_takesE 10 = .ok (.aload_n 0, 1) := by decide +kernel
theorem dX8_takesE_11 : decode cX8_takesE 11 = .ok (.getfield 68, 3) := by decide +kernel
theorem dX8_takesE_14 : decode cX8_takesE 14 = .ok (.iload_n 1, 1) := by decide +kernel
theorem dX8_takesE_15 : decode cX8_takesE 15 = .ok (.aload_n 0, 1) := by decide +kernel
theorem dX8_takesE_16 : decode cX8_takesE 16 = .ok (.getfield 80, 3) := by decide +kernel
theorem dX8_takesE_19 : decode cX8_takesE 19 = .ok (.iastore, 1) := by decide +kernel
theorem dX8_takesE_20 : decode cX8_takesE 20 = .ok (.iconst 1, 1) := by decide +kernel
theorem dX8_takesE_21 : decode cX8_takesE 21 = .ok (.istore_n 2, 1) := by decide +kernel
theorem dX8_takesE_22 : decode cX8_takesE 22 = .ok (.aload_n 0, 1) := by decide +kernel
theorem dX8_takesE_23 : decode cX8_takesE 23 = .ok (.invokevirtual 211, 3) := by decide +kernel
theorem dX8_takesE_26 : decode cX8_takesE 26 = .ok (.istore_n 3, 1) := by decide +kernel
theorem dX8_takesE_27 : decode cX8_takesE 27 = .ok (.iload_n 2, 1) := by decide +kernel
theorem dX8_takesE_28 : decode cX8_takesE 28 = .ok (.ifCond .eq 82, 3) := by decide +kernel
theorem dX8_takesE_31 : decode cX8_takesE 31 = .ok (.iload_n 3, 1) := by decide +kernel
theorem dX8_takesE_32 : decode cX8_takesE 32 = .ok (.bipush 33, 2) := by decide +kernel
theorem dX8_takesE_34 : decode cX8_takesE 34 = .ok (.if_icmp .eq 9, 3) := by decide +kernel
theorem dX8_takesE_37 : decode cX8_takesE 37 = .ok (.iload_n 3, 1) := by decide +kernel
theorem dX8_takesE_38 : decode cX8_takesE 38 = .ok (.bipush 40, 2) := by decide +kernel
theorem dX8_takesE_40 : decode cX8_takesE 40 = .ok (.if_icmp .ne 56, 3) := by decide +kernel
theorem dX8_takesE_43 : decode cX8_takesE 43 = .ok (.aload_n 0, 1) := by decide +kernel
theorem dX8_takesE_44 : decode cX8_takesE 44 = .ok (.getfield 86, 3) := by decide +kernel
theorem dX8_takesE_47 : decode cX8_takesE 47 = .ok (.iconst 4, 1) := by decide +kernel
theorem dX8_takesE_48 : decode cX8_takesE 48 = .ok (.if_icmp .ne 5, 3) := by decide +kernel
theorem dX8_takesE_51 : decode cX8_takesE 51 = .ok (.iconst 0, 1) := by decide +kernel
theorem dX8_takesE_52 : decode cX8_takesE 52 = .ok (.ireturn, 1) := by decide +kernel
theorem dX8_takesE_53 : decode cX8_takesE 53 = .ok (.aload_n 0, 1) := by decide +kernel
theorem dX8_takesE_54 : decode cX8_takesE 54 = .ok (.dup, 1) := by decide +kernel
theorem dX8_takesE_55 : decode cX8_takesE 55 = .ok (.getfield 86, 3) := by decide +kernel
theorem dX8_takesE_58 : decode cX8_takesE 58 = .ok (.iconst 1, 1) := by decide +kernel
theorem dX8_takesE_59 : decode cX8_takesE 59 = .ok (.iadd, 1) := by decide +kernel
theorem dX8_takesE_60 : decode cX8_takesE 60 = .ok (.putfield 86, 3) := by decide +kernel
theorem dX8_takesE_63 : decode cX8_takesE 63 = .ok (.aload_n 0, 1) := by decide +kernel
theorem dX8_takesE_64 : decode cX8_takesE 64 = .ok (.getfield 77, 3) := by decide +kernel
theorem dX8_takesE_67 : decode cX8_takesE 67 = .ok (.aload_n 0, 1) := by decide +kernel
theorem dX8_takesE_68 : decode cX8_takesE 68 = .ok (.getfield 83, 3) := by decide +kernel
theorem dX8_takesE_71 : decode cX8_takesE 71 = .ok (.iload_n 3, 1) := by decide +kernel
theorem dX8_takesE_72 : decode cX8_takesE 72 = .ok (.iastore, 1) := by decide +kernel
theorem dX8_takesE_73 : decode cX8_takesE 73 = .ok (.aload_n 0, 1) := by decide +kernel
theorem dX8_takesE_74 : decode cX8_takesE 74 = .ok (.dup, 1) := by decide +kernel
theorem dX8_takesE_75 : decode cX8_takesE 75 = .ok (.getfield 83, 3) := by decide +kernel
theorem dX8_takesE_78 : decode cX8_takesE 78 = .ok (.iconst 1, 1) := by decide +kernel
theorem dX8_takesE_79 : decode cX8_takesE 79 = .ok (.iadd, 1) := by decide +kernel
theorem dX8_takesE_80 : decode cX8_takesE 80 = .ok (.putfield 83, 3) := by decide +kernel
theorem dX8_takesE_83 : decode cX8_takesE 83 = .ok (.aload_n 0, 1) := by decide +kernel
theorem dX8_takesE_84 : decode cX8_takesE 84 = .ok (.dup, 1) := by decide +kernel
theorem dX8_takesE_85 : decode cX8_takesE 85 = .ok (.getfield 50, 3) := by decide +kernel
theorem dX8_takesE_88 : decode cX8_takesE 88 = .ok (.iconst 1, 1) := by decide +kernel
theorem dX8_takesE_89 : decode cX8_takesE 89 = .ok (.iadd, 1) := by decide +kernel
theorem dX8_takesE_90 : decode cX8_takesE 90 = .ok (.putfield 50, 3) := by decide +kernel
theorem dX8_takesE_93 : decode cX8_takesE 93 = .ok (.goto (-71), 3) := by decide +kernel
theorem dX8_takesE_96 : decode cX8_takesE 96 = .ok (.aload_n 0, 1) := by decide +kernel
theorem dX8_takesE_97 : decode cX8_takesE 97 = .ok (.invokevirtual 236, 3) := by decide +kernel
theorem dX8_takesE_100 : decode cX8_takesE 100 = .ok (.ifCond .eq 8, 3) := by decide +kernel
theorem dX8_takesE_103 : decode cX8_takesE 103 = .ok (.iconst 0, 1) := by decide +kernel
theorem dX8_takesE_104 : decode cX8_takesE 104 = .ok (.istore_n 2, 1) := by decide +kernel
theorem dX8_takesE_105 : decode cX8_takesE 105 = .ok (.goto (-83), 3) := by decide +kernel
theorem dX8_takesE_108 : decode cX8_takesE 108 = .ok (.iconst 0, 1) := by decide +kernel
theorem dX8_takesE_109 : decode cX8_takesE 109 = .ok (.ireturn, 1) := by decide +kernel
theorem dX8_takesE_110 : decode cX8_takesE 110 = .ok (.iload_n 3, 1) := by decide +kernel
theorem dX8_takesE_111 : decode cX8_takesE 111 = .ok (.bipush 38, 2) := by decide +kernel
theorem dX8_takesE_113 : decode cX8_takesE 113 = .ok (.if_icmp .eq 9, 3) := by decide +kernel
theorem dX8_takesE_116 : decode cX8_takesE 116 = .ok (.iload_n 3, 1) := by decide +kernel
theorem dX8_takesE_117 : decode cX8_takesE 117 = .ok (.bipush 124, 2) := by decide +kernel
theorem dX8_takesE_119 : decode cX8_takesE 119 = .ok (.if_icmp .ne 43, 3) := by decide +kernel
theorem dX8_takesE_122 : decode cX8_takesE 122 = .ok (.aload_n 0, 1) := by decide +kernel
theorem dX8_takesE_123 : decode cX8_takesE 123 = .ok (.iload_n 3, 1) := by decide +kernel
theorem dX8_takesE_124 : decode cX8_takesE 124 = .ok (.invokevirtual 239, 3) := by decide +kernel
theorem dX8_takesE_127 : decode cX8_takesE 127 = .ok (.aload_n 0, 1) := by decide +kernel
theorem dX8_takesE_128 : decode cX8_takesE 128 = .ok (.getfield 77, 3) := by decide +kernel
theorem dX8_takesE_131 : decode cX8_takesE 131 = .ok (.aload_n 0, 1) := by decide +kernel
theorem dX8_takesE_132 : decode cX8_takesE 132 = .ok (.getfield 83, 3) := by decide +kernel
theorem dX8_takesE_135 : decode cX8_takesE 135 = .ok (.iload_n 3, 1) := by decide +kernel
theorem dX8_takesE_136 : decode cX8_takesE 136 = .ok (.iastore, 1) := by decide +kernel
theorem dX8_takesE_137 : decode cX8_takesE 137 = .ok (.aload_n 0, 1) := by decide +kernel
theorem dX8_takesE_138 : decode cX8_takesE 138 = .ok (.dup, 1) := by decide +kernel
theorem dX8_takesE_139 : decode cX8_takesE 139 = .ok (.getfield 83, 3) := by decide +kernel
theorem dX8_takesE_142 : decode cX8_takesE 142 = .ok (.iconst 1, 1) := by decide +kernel
theorem dX8_takesE_143 : decode cX8_takesE 143 = .ok (.iadd, 1) := by decide +kernel
theorem dX8_takesE_144 : decode cX8_takesE 144 = .ok (.putfield 83, 3) := by decide +kernel
theorem dX8_takesE_147 : decode cX8_takesE 147 = .ok (.iconst 1, 1) := by decide +kernel
theorem dX8_takesE_148 : decode cX8_takesE 148 = .ok (.istore_n 2, 1) := by decide +kernel
theorem dX8_takesE_149 : decode cX8_takesE 149 = .ok (.aload_n 0, 1) := by decide +kernel
theorem dX8_takesE_150 : decode cX8_takesE 150 = .ok (.dup, 1) := by decide +kernel
theorem dX8_takesE_151 : decode cX8_takesE 151 = .ok (.getfield 50, 3) := by decide +kernel
theorem dX8_takesE_154 : decode cX8_takesE 154 = .ok (.iconst 1, 1) := by decide +kernel
theorem dX8_takesE_155 : decode cX8_takesE 155 = .ok (.iadd, 1) := by decide +kernel
theorem dX8_takesE_156 : decode cX8_takesE 156 = .ok (.putfield 50, 3) := by decide +kernel
theorem dX8_takesE_159 : decode cX8_takesE 159 = .ok (.goto (-137), 3) := by decide +kernel
theorem dX8_takesE_162 : decode cX8_takesE 162 = .ok (.aload_n 0, 1) := by decide +kernel
theorem dX8_takesE_163 : decode cX8_takesE 163 = .ok (.bipush 124, 2) := by decide +kernel
theorem dX8_takesE_165 : decode cX8_takesE 165 = .ok (.invokevirtual 239, 3) := by decide +kernel
theorem dX8_takesE_168 : decode cX8_takesE 168 = .ok (.aload_n 0, 1) := by decide +kernel
theorem dX8_takesE_169 : decode cX8_takesE 169 = .ok (.getfield 71, 3) := by decide +kernel
theorem dX8_takesE_172 : decode cX8_takesE 172 = .ok (.iload_n 1, 1) := by decide +kernel
theorem dX8_takesE_173 : decode cX8_takesE 173 = .ok (.aload_n 0, 1) := by decide +kernel
theorem dX8_takesE_174 : decode cX8_takesE 174 = .ok (.getfield 80, 3) := by decide +kernel
theorem dX8_takesE_177 : decode cX8_takesE 177 = .ok (.iastore, 1) := by decide +kernel
theorem dX8_takesE_178 : decode cX8_takesE 178 = .ok (.aload_n 0, 1) := by decide +kernel
theorem dX8_takesE_179 : decode cX8_takesE 179 = .ok (.getfield 83, 3) := by decide +kernel
theorem dX8_takesE_182 : decode cX8_takesE 182 = .ok (.ifCond .ne 5, 3) := by decide +kernel
theorem dX8_takesE_185 : decode cX8_takesE 185 = .ok (.iconst 1, 1) := by decide +kernel
theorem dX8_takesE_186 : decode cX8_takesE 186 = .ok (.ireturn, 1) := by decide +kernel
theorem dX8_takesE_187 : decode cX8_takesE 187 = .ok (.iload_n 3, 1) := by decide +kernel
theorem dX8_takesE_188 : decode cX8_takesE 188 = .ok (.bipush 41, 2) := by decide +kernel
theorem dX8_takesE_190 : decode cX8_takesE 190 = .ok (.if_icmp .eq 5, 3) := by decide +kernel
theorem dX8_takesE_193 : decode cX8_takesE 193 = .ok (.iconst 0, 1) := by decide +kernel
theorem dX8_takesE_194 : decode cX8_takesE 194 = .ok (.ireturn, 1) := by decide +kernel
theorem dX8_takesE_195 : decode cX8_takesE 195 = .ok (.aload_n 0, 1) := by decide +kernel
theorem dX8_takesE_196 : decode cX8_takesE 196 = .ok (.dup, 1) := by decide +kernel
theorem dX8_takesE_197 : decode cX8_takesE 197 = .ok (.getfield 83, 3) := by decide +kernel
theorem dX8_takesE_200 : decode cX8_takesE 200 = .ok (.iconst 1, 1) := by decide +kernel
theorem dX8_takesE_201 : decode cX8_takesE 201 = .ok (.isub, 1) := by decide +kernel
theorem dX8_takesE_202 : decode cX8_takesE 202 = .ok (.putfield 83, 3) := by decide +kernel
theorem dX8_takesE_205 : decode cX8_takesE 205 = .ok (.aload_n 0, 1) := by decide +kernel
theorem dX8_takesE_206 : decode cX8_takesE 206 = .ok (.dup, 1) := by decide +kernel
theorem dX8_takesE_207 : decode cX8_takesE 207 = .ok (.getfield 86, 3) := by decide +kernel
theorem dX8_takesE_210 : decode cX8_takesE 210 = .ok (.iconst 1, 1) := by decide +kernel
theorem dX8_takesE_211 : decode cX8_takesE 211 = .ok (.isub, 1) := by decide +kernel
theorem dX8_takesE_212 : decode cX8_takesE 212 = .ok (.putfield 86, 3) := by decide +kernel
theorem dX8_takesE_215 : decode cX8_takesE 215 = .ok (.aload_n 0, 1) := by decide +kernel
theorem dX8_takesE_216 : decode cX8_takesE 216 = .ok (.dup, 1) := by decide +kernel
theorem dX8_takesE_217 : decode cX8_takesE 217 = .ok (.getfield 50, 3) := by decide +kernel
theorem dX8_takesE_220 : decode cX8_takesE 220 = .ok (.iconst 1, 1) := by decide +kernel
theorem dX8_takesE_221 : decode cX8_takesE 221 = .ok (.iadd, 1) := by decide +kernel
theorem dX8_takesE_222 : decode cX8_takesE 222 = .ok (.putfield 50, 3) := by decide +kernel
theorem dX8_takesE_225 : decode cX8_takesE 225 = .ok (.aload_n 0, 1) := by decide +kernel
theorem dX8_takesE_226 : decode cX8_takesE 226 = .ok (.invokevirtual 233, 3) := by decide +kernel
theorem dX8_takesE_229 : decode cX8_takesE 229 = .ok (.goto (-207), 3) := by decide +kernel
theorem dX8_takesHead_0 : decode cX8_takesHead 0 = .ok (.aload_n 0, 1) := by decide +kernel
theorem dX8_takesHead_1 : decode cX8_takesHead 1 = .ok (.invokevirtual 211, 3) := by decide +kernel
theorem dX8_takesHead_4 : decode cX8_takesHead 4 = .ok (.lookupswitch 56 #[(111, 28), (115, 42)], 28) := by decide +kernel
theorem dX8_takesHead_32 : decode cX8_takesHead 32 = .ok (.aload_n 0, 1) := by decide +kernel
theorem dX8_takesHead_33 : decode cX8_takesHead 33 = .ok (.getfield 62, 3) := by decide +kernel
theorem dX8_takesHead_36 : decode cX8_takesHead 36 = .ok (.iload_n 1, 1) := by decide +kernel
theorem dX8_takesHead_37 : decode cX8_takesHead 37 = .ok (.iconst 0, 1) := by decide +kernel
theorem dX8_takesHead_38 : decode cX8_takesHead 38 = .ok (.iastore, 1) := by decide +kernel
theorem dX8_takesHead_39 : decode cX8_takesHead 39 = .ok (.aload_n 0, 1) := by decide +kernel
theorem dX8_takesHead_40 : decode cX8_takesHead 40 = .ok (.iconst 0, 1) := by decide +kernel
theorem dX8_takesHead_41 : decode cX8_takesHead 41 = .ok (.iconst 3, 1) := by decide +kernel
theorem dX8_takesHead_42 : decode cX8_takesHead 42 = .ok (.invokevirtual 242, 3) := by decide +kernel
theorem dX8_takesHead_45 : decode cX8_takesHead 45 = .ok (.ireturn, 1) := by decide +kernel
theorem dX8_takesHead_46 : decode cX8_takesHead 46 = .ok (.aload_n 0, 1) := by decide +kernel
theorem dX8_takesHead_47 : decode cX8_takesHead 47 = .ok (.getfield 62, 3) := by decide +kernel
theorem dX8_takesHead_50 : decode cX8_takesHead 50 = .ok (.iload_n 1, 1) := by decide +kernel
theorem dX8_takesHead_51 : decode cX8_takesHead 51 = .ok (.iconst 1, 1) := by decide +kernel
theorem dX8_takesHead_52 : decode cX8_takesHead 52 = .ok (.iastore, 1) := by decide +kernel
theorem dX8_takesHead_53 : decode cX8_takesHead 53 = .ok (.aload_n 0, 1) := by decide +kernel
theorem dX8_takesHead_54 : decode cX8_takesHead 54 = .ok (.iconst 3, 1) := by decide +kernel
theorem dX8_takesHead_55 : decode cX8_takesHead 55 = .ok (.iconst 3, 1) := by decide +kernel
theorem dX8_takesHead_56 : decode cX8_takesHead 56 = .ok (.invokevirtual 242, 3) := by decide +kernel
theorem dX8_takesHead_59 : decode cX8_takesHead 59 = .ok (.ireturn, 1) := by decide +kernel
theorem dX8_takesHead_60 : decode cX8_takesHead 60 = .ok (.aload_n 0, 1) := by decide +kernel
theorem dX8_takesHead_61 : decode cX8_takesHead 61 = .ok (.getfield 62, 3) := by decide +kernel
theorem dX8_takesHead_64 : decode cX8_takesHead 64 = .ok (.iload_n 1, 1) := by decide +kernel
theorem dX8_takesHead_65 : decode cX8_takesHead 65 = .ok (.iconst 2, 1) := by decide +kernel
theorem dX8_takesHead_66 : decode cX8_takesHead 66 = .ok (.iastore, 1) := by decide +kernel
theorem dX8_takesHead_67 : decode cX8_takesHead 67 = .ok (.aload_n 0, 1) := by decide +kernel
theorem dX8_takesHead_68 : decode cX8_takesHead 68 = .ok (.bipush 6, 2) := by decide +kernel
theorem dX8_takesHead_70 : decode cX8_takesHead 70 = .ok (.iconst 4, 1) := by decide +kernel
theorem dX8_takesHead_71 : decode cX8_takesHead 71 = .ok (.invokevirtual 242, 3) := by decide +kernel
theorem dX8_takesHead_74 : decode cX8_takesHead 74 = .ok (.ireturn, 1) := by decide +kernel
theorem dX8_takesClause_0 : decode cX8_takesClause 0 = .ok (.aload_n 0, 1) := by decide +kernel
theorem dX8_takesClause_1 : decode cX8_takesClause 1 = .ok (.iload_n 1, 1) := by decide +kernel
theorem dX8_takesClause_2 : decode cX8_takesClause 2 = .ok (.invokevirtual 246, 3) := by decide +kernel
theorem dX8_takesClause_5 : decode cX8_takesClause 5 = .ok (.ifCond .eq 10, 3) := by decide +kernel
theorem dX8_takesClause_8 : decode cX8_takesClause 8 = .ok (.aload_n 0, 1) := by decide +kernel
theorem dX8_takesClause_9 : decode cX8_takesClause 9 = .ok (.invokevirtual 230, 3) := by decide +kernel
theorem dX8_takesClause_12 : decode cX8_takesClause 12 = .ok (.ifCond .ne 5, 3) := by decide +kernel
theorem dX8_takesClause_15 : decode cX8_takesClause 15 = .ok (.iconst 0, 1) := by decide +kernel
theorem dX8_takesClause_16 : decode cX8_takesClause 16 = .ok (.ireturn, 1) := by decide +kernel
theorem dX8_takesClause_17 : decode cX8_takesClause 17 = .ok (.aload_n 0, 1) := by decide +kernel
theorem dX8_takesClause_18 : decode cX8_takesClause 18 = .ok (.getfield 65, 3) := by decide +kernel
theorem dX8_takesClause_21 : decode cX8_takesClause 21 = .ok (.iload_n 1, 1) := by decide +kernel
theorem dX8_takesClause_22 : decode cX8_takesClause 22 = .ok (.aload_n 0, 1) := by decide +kernel
theorem dX8_takesClause_23 : decode cX8_takesClause 23 = .ok (.getfield 53, 3) := by decide +kernel
theorem dX8_takesClause_26 : decode cX8_takesClause 26 = .ok (.iastore, 1) := by decide +kernel
theorem dX8_takesClause_27 : decode cX8_takesClause 27 = .ok (.aload_n 0, 1) := by decide +kernel
theorem dX8_takesClause_28 : decode cX8_takesClause 28 = .ok (.getfield 62, 3) := by decide +kernel
theorem dX8_takesClause_31 : decode cX8_takesClause 31 = .ok (.iload_n 1, 1) := by decide +kernel
theorem dX8_takesClause_32 : decode cX8_takesClause 32 = .ok (.iaload, 1) := by decide +kernel
theorem dX8_takesClause_33 : decode cX8_takesClause 33 = .ok (.iconst 2, 1) := by decide +kernel
theorem dX8_takesClause_34 : decode cX8_takesClause 34 = .ok (.if_icmp .eq 20, 3) := by decide +kernel
theorem dX8_takesClause_37 : decode cX8_takesClause 37 = .ok (.aload_n 0, 1) := by decide +kernel
theorem dX8_takesClause_38 : decode cX8_takesClause 38 = .ok (.bipush 32, 2) := by decide +kernel
theorem dX8_takesClause_40 : decode cX8_takesClause 40 = .ok (.invokevirtual 215, 3) := by decide +kernel
theorem dX8_takesClause_43 : decode cX8_takesClause 43 = .ok (.ifCond .eq 15, 3) := by decide +kernel
theorem dX8_takesClause_46 : decode cX8_takesClause 46 = .ok (.aload_n 0, 1) := by decide +kernel
theorem dX8_takesClause_47 : decode cX8_takesClause 47 = .ok (.iload_n 1, 1) := by decide +kernel
theorem dX8_takesClause_48 : decode cX8_takesClause 48 = .ok (.invokevirtual 249, 3) := by decide +kernel
theorem dX8_takesClause_51 : decode cX8_takesClause 51 = .ok (.ifCond .eq 7, 3) := by decide +kernel
theorem dX8_takesClause_54 : decode cX8_takesClause 54 = .ok (.iconst 1, 1) := by decide +kernel
theorem dX8_takesClause_55 : decode cX8_takesClause 55 = .ok (.goto 4, 3) := by decide +kernel
theorem dX8_takesClause_58 : decode cX8_takesClause 58 = .ok (.iconst 0, 1) := by decide +kernel
theorem dX8_takesClause_59 : decode cX8_takesClause 59 = .ok (.ireturn, 1) := by decide +kernel
theorem dX8_goesText_0 : decode cX8_goesText 0 = .ok (.aload_n 0, 1) := by decide +kernel
theorem dX8_goesText_1 : decode cX8_goesText 1 = .ok (.iconst 0, 1) := by decide +kernel
theorem dX8_goesText_2 : decode cX8_goesText 2 = .ok (.putfield 50, 3) := by decide +kernel
theorem dX8_goesText_5 : decode cX8_goesText 5 = .ok (.aload_n 0, 1) := by decide +kernel
theorem dX8_goesText_6 : decode cX8_goesText 6 = .ok (.bipush 100, 2) := by decide +kernel
theorem dX8_goesText_8 : decode cX8_goesText 8 = .ok (.iload_n 1, 1) := by decide +kernel
theorem dX8_goesText_9 : decode cX8_goesText 9 = .ok (.imul, 1) := by decide +kernel
theorem dX8_goesText_10 : decode cX8_goesText 10 = .ok (.putfield 80, 3) := by decide +kernel
theorem dX8_goesText_13 : decode cX8_goesText 13 = .ok (.iconst 0, 1) := by decide +kernel
theorem dX8_goesText_14 : decode cX8_goesText 14 = .ok (.istore_n 2, 1) := by decide +kernel
theorem dX8_goesText_15 : decode cX8_goesText 15 = .ok (.aload_n 0, 1) := by decide +kernel
theorem dX8_goesText_16 : decode cX8_goesText 16 = .ok (.bipush 10, 2) := by decide +kernel
theorem dX8_goesText_18 : decode cX8_goesText 18 = .ok (.iload_n 1, 1) := by decide +kernel
theorem dX8_goesText_19 : decode cX8_goesText 19 = .ok (.imul, 1) := by decide +kernel
theorem dX8_goesText_20 : decode cX8_goesText 20 = .ok (.iload_n 2, 1) := by decide +kernel
theorem dX8_goesText_21 : decode cX8_goesText 21 = .ok (.iadd, 1) := by decide +kernel
theorem dX8_goesText_22 : decode cX8_goesText 22 = .ok (.invokevirtual 252, 3) := by decide +kernel
theorem dX8_goesText_25 : decode cX8_goesText 25 = .ok (.ifCond .ne 5, 3) := by decide +kernel
theorem dX8_goesText_28 : decode cX8_goesText 28 = .ok (.iconst 0, 1) := by decide +kernel
theorem dX8_goesText_29 : decode cX8_goesText 29 = .ok (.ireturn, 1) := by decide +kernel
theorem dX8_goesText_30 : decode cX8_goesText 30 = .ok (.iinc 2 1, 3) := by decide +kernel
theorem dX8_goesText_33 : decode cX8_goesText 33 = .ok (.aload_n 0, 1) := by decide +kernel
theorem dX8_goesText_34 : decode cX8_goesText 34 = .ok (.getfield 59, 3) := by decide +kernel
theorem dX8_goesText_37 : decode cX8_goesText 37 = .ok (.iload_n 1, 1) := by decide +kernel
theorem dX8_goesText_38 : decode cX8_goesText 38 = .ok (.iload_n 2, 1) := by decide +kernel
theorem dX8_goesText_39 : decode cX8_goesText 39 = .ok (.iastore, 1) := by decide +kernel
theorem dX8_goesText_40 : decode cX8_goesText 40 = .ok (.aload_n 0, 1) := by decide +kernel
theorem dX8_goesText_41 : decode cX8_goesText 41 = .ok (.getfield 50, 3) := by decide +kernel
theorem dX8_goesText_44 : decode cX8_goesText 44 = .ok (.aload_n 0, 1) := by decide +kernel
theorem dX8_goesText_45 : decode cX8_goesText 45 = .ok (.getfield 47, 3) := by decide +kernel
theorem dX8_goesText_48 : decode cX8_goesText 48 = .ok (.if_icmp .ne 5, 3) := by decide +kernel
theorem dX8_goesText_51 : decode cX8_goesText 51 = .ok (.iconst 1, 1) := by decide +kernel
theorem dX8_goesText_52 : decode cX8_goesText 52 = .ok (.ireturn, 1) := by decide +kernel
theorem dX8_goesText_53 : decode cX8_goesText 53 = .ok (.iload_n 2, 1) := by decide +kernel
theorem dX8_goesText_54 : decode cX8_goesText 54 = .ok (.bipush 10, 2) := by decide +kernel
theorem dX8_goesText_56 : decode cX8_goesText 56 = .ok (.if_icmp .eq 12, 3) := by decide +kernel
theorem dX8_goesText_59 : decode cX8_goesText 59 = .ok (.aload_n 0, 1) := by decide +kernel
theorem dX8_goesText_60 : decode cX8_goesText 60 = .ok (.bipush 59, 2) := by decide +kernel
theorem dX8_goesText_62 : decode cX8_goesText 62 = .ok (.invokevirtual 215, 3) := by decide +kernel
theorem dX8_goesText_65 : decode cX8_goesText 65 = .ok (.ifCond .ne (-50), 3) := by decide +kernel
theorem dX8_goesText_68 : decode cX8_goesText 68 = .ok (.iconst 0, 1) := by decide +kernel
theorem dX8_goesText_69 : decode cX8_goesText 69 = .ok (.ireturn, 1) := by decide +kernel
theorem dX8_fence_0 : decode cX8_fence 0 = .ok (.aload_n 0, 1) := by decide +kernel
theorem dX8_fence_1 : decode cX8_fence 1 = .ok (.getfield 41, 3) := by decide +kernel
theorem dX8_fence_4 : decode cX8_fence 4 = .ok (.bipush 6, 2) := by decide +kernel
theorem dX8_fence_6 : decode cX8_fence 6 = .ok (.if_icmp .ne 6, 3) := by decide +kernel
theorem dX8_fence_9 : decode cX8_fence 9 = .ok (.bipush (-4), 2) := by decide +kernel
theorem dX8_fence_11 : decode cX8_fence 11 = .ok (.ireturn, 1) := by decide +kernel
theorem dX8_fence_12 : decode cX8_fence 12 = .ok (.aload_n 0, 1) := by decide +kernel
theorem dX8_fence_13 : decode cX8_fence 13 = .ok (.aload_n 0, 1) := by decide +kernel
theorem dX8_fence_14 : decode cX8_fence 14 = .ok (.getfield 41, 3) := by decide +kernel
theorem dX8_fence_17 : decode cX8_fence 17 = .ok (.invokevirtual 255, 3) := by decide +kernel
theorem dX8_fence_20 : decode cX8_fence 20 = .ok (.istore_n 1, 1) := by decide +kernel
theorem dX8_fence_21 : decode cX8_fence 21 = .ok (.aload_n 0, 1) := by decide +kernel
theorem dX8_fence_22 : decode cX8_fence 22 = .ok (.iconst 0, 1) := by decide +kernel
theorem dX8_fence_23 : decode cX8_fence 23 = .ok (.putfield 47, 3) := by decide +kernel
theorem dX8_fence_26 : decode cX8_fence 26 = .ok (.iload_n 1, 1) := by decide +kernel
theorem dX8_fence_27 : decode cX8_fence 27 = .ok (.ifCond .ne 11, 3) := by decide +kernel
theorem dX8_fence_30 : decode cX8_fence 30 = .ok (.bipush (-10), 2) := by decide +kernel
theorem dX8_fence_32 : decode cX8_fence 32 = .ok (.aload_n 0, 1) := by decide +kernel
theorem dX8_fence_33 : decode cX8_fence 33 = .ok (.getfield 50, 3) := by decide +kernel
theorem dX8_fence_36 : decode cX8_fence 36 = .ok (.isub, 1) := by decide +kernel
theorem dX8_fence_37 : decode cX8_fence 37 = .ok (.ireturn, 1) := by decide +kernel
theorem dX8_fence_38 : decode cX8_fence 38 = .ok (.aload_n 0, 1) := by decide +kernel
theorem dX8_fence_39 : decode cX8_fence 39 = .ok (.aload_n 0, 1) := by decide +kernel
theorem dX8_fence_40 : decode cX8_fence 40 = .ok (.getfield 41, 3) := by decide +kernel
theorem dX8_fence_43 : decode cX8_fence 43 = .ok (.putfield 44, 3) := by decide +kernel
theorem dX8_fence_46 : decode cX8_fence 46 = .ok (.aload_n 0, 1) := by decide +kernel
theorem dX8_fence_47 : decode cX8_fence 47 = .ok (.dup, 1) := by decide +kernel
theorem dX8_fence_48 : decode cX8_fence 48 = .ok (.getfield 41, 3) := by decide +kernel
theorem dX8_fence_51 : decode cX8_fence 51 = .ok (.iconst 1, 1) := by decide +kernel
theorem dX8_fence_52 : decode cX8_fence 52 = .ok (.iadd, 1) := by decide +kernel
theorem dX8_fence_53 : decode cX8_fence 53 = .ok (.putfield 41, 3) := by decide +kernel
theorem dX8_fence_56 : decode cX8_fence 56 = .ok (.aload_n 0, 1) := by decide +kernel
theorem dX8_fence_57 : decode cX8_fence 57 = .ok (.getfield 44, 3) := by decide +kernel
theorem dX8_fence_60 : decode cX8_fence 60 = .ok (.ireturn, 1) := by decide +kernel
theorem dX8_begin_0 : decode cX8_begin 0 = .ok (.aload_n 0, 1) := by decide +kernel
theorem dX8_begin_1 : decode cX8_begin 1 = .ok (.getfield 44, 3) := by decide +kernel
theorem dX8_begin_4 : decode cX8_begin 4 = .ok (.ifCond .ge 7, 3) := by decide +kernel
theorem dX8_begin_7 : decode cX8_begin 7 = .ok (.iconst 0, 1) := by decide +kernel
theorem dX8_begin_8 : decode cX8_begin 8 = .ok (.goto 10, 3) := by decide +kernel
theorem dX8_begin_11 : decode cX8_begin 11 = .ok (.bipush 10, 2) := by decide +kernel
theorem dX8_begin_13 : decode cX8_begin 13 = .ok (.aload_n 0, 1) := by decide +kernel
theorem dX8_begin_14 : decode cX8_begin 14 = .ok (.getfield 44, 3) := by decide +kernel
theorem dX8_begin_17 : decode cX8_begin 17 = .ok (.imul, 1) := by decide +kernel
theorem dX8_begin_18 : decode cX8_begin 18 = .ok (.ireturn, 1) := by decide +kernel
theorem dX8_behind_0 : decode cX8_behind 0 = .ok (.aload_n 0, 1) := by decide +kernel
theorem dX8_behind_1 : decode cX8_behind 1 = .ok (.getfield 44, 3) := by decide +kernel
theorem dX8_behind_4 : decode cX8_behind 4 = .ok (.ifCond .ge 7, 3) := by decide +kernel
theorem dX8_behind_7 : decode cX8_behind 7 = .ok (.iconst 0, 1) := by decide +kernel
theorem dX8_behind_8 : decode cX8_behind 8 = .ok (.goto 20, 3) := by decide +kernel
theorem dX8_behind_11 : decode cX8_behind 11 = .ok (.bipush 10, 2) := by decide +kernel
theorem dX8_behind_13 : decode cX8_behind 13 = .ok (.aload_n 0, 1) := by decide +kernel
theorem dX8_behind_14 : decode cX8_behind 14 = .ok (.getfield 44, 3) := by decide +kernel
theorem dX8_behind_17 : decode cX8_behind 17 = .ok (.imul, 1) := by decide +kernel
theorem dX8_behind_18 : decode cX8_behind 18 = .ok (.aload_n 0, 1) := by decide +kernel
theorem dX8_behind_19 : decode cX8_behind 19 = .ok (.getfield 59, 3) := by decide +kernel
theorem dX8_behind_22 : decode cX8_behind 22 = .ok (.aload_n 0, 1) := by decide +kernel
theorem dX8_behind_23 : decode cX8_behind 23 = .ok (.getfield 44, 3) := by decide +kernel
theorem dX8_behind_26 : decode cX8_behind 26 = .ok (.iaload, 1) := by decide +kernel
theorem dX8_behind_27 : decode cX8_behind 27 = .ok (.iadd, 1) := by decide +kernel
theorem dX8_behind_28 : decode cX8_behind 28 = .ok (.ireturn, 1) := by decide +kernel
theorem dX8_mostNow_0 : decode cX8_mostNow 0 = .ok (.bipush 8, 2) := by decide +kernel
theorem dX8_mostNow_2 : decode cX8_mostNow 2 = .ok (.istore_n 1, 1) := by decide +kernel
theorem dX8_mostNow_3 : decode cX8_mostNow 3 = .ok (.aload_n 0, 1) := by decide +kernel
theorem dX8_mostNow_4 : decode cX8_mostNow 4 = .ok (.invokevirtual 258, 3) := by decide +kernel
theorem dX8_mostNow_7 : decode cX8_mostNow 7 = .ok (.istore_n 2, 1) := by decide +kernel
theorem dX8_mostNow_8 : decode cX8_mostNow 8 = .ok (.iload_n 2, 1) := by decide +kernel
theorem dX8_mostNow_9 : decode cX8_mostNow 9 = .ok (.aload_n 0, 1) := by decide +kernel
theorem dX8_mostNow_10 : decode cX8_mostNow 10 = .ok (.invokevirtual 261, 3) := by decide +kernel
theorem dX8_mostNow_13 : decode cX8_mostNow 13 = .ok (.if_icmp .ge 30, 3) := by decide +kernel
theorem dX8_mostNow_16 : decode cX8_mostNow 16 = .ok (.aload_n 0, 1) := by decide +kernel
theorem dX8_mostNow_17 : decode cX8_mostNow 17 = .ok (.getfield 62, 3) := by decide +kernel
theorem dX8_mostNow_20 : decode cX8_mostNow 20 = .ok (.iload_n 2, 1) := by decide +kernel
theorem dX8_mostNow_21 : decode cX8_mostNow 21 = .ok (.iaload, 1) := by decide +kernel
theorem dX8_mostNow_22 : decode cX8_mostNow 22 = .ok (.iconst 2, 1) := by decide +kernel
theorem dX8_mostNow_23 : decode cX8_mostNow 23 = .ok (.if_icmp .ne 12, 3) := by decide +kernel
theorem dX8_mostNow_26 : decode cX8_mostNow 26 = .ok (.aload_n 0, 1) := by decide +kernel
theorem dX8_mostNow_27 : decode cX8_mostNow 27 = .ok (.getfield 65, 3) := by decide +kernel
theorem dX8_mostNow_30 : decode cX8_mostNow 30 = .ok (.iload_n 2, 1) := by decide +kernel
theorem dX8_mostNow_31 : decode cX8_mostNow 31 = .ok (.iaload, 1) := by decide +kernel
theorem dX8_mostNow_32 : decode cX8_mostNow 32 = .ok (.goto 4, 3) := by decide +kernel
theorem dX8_mostNow_35 : decode cX8_mostNow 35 = .ok (.iload_n 1, 1) := by decide +kernel
theorem dX8_mostNow_36 : decode cX8_mostNow 36 = .ok (.istore_n 1, 1) := by decide +kernel
theorem dX8_mostNow_37 : decode cX8_mostNow 37 = .ok (.iinc 2 1, 3) := by decide +kernel
theorem dX8_mostNow_40 : decode cX8_mostNow 40 = .ok (.goto (-32), 3) := by decide +kernel
theorem dX8_mostNow_43 : decode cX8_mostNow 43 = .ok (.iload_n 1, 1) := by decide +kernel
theorem dX8_mostNow_44 : decode cX8_mostNow 44 = .ok (.bipush 9, 2) := by decide +kernel
theorem dX8_mostNow_46 : decode cX8_mostNow 46 = .ok (.if_icmp .le 8, 3) := by decide +kernel
theorem dX8_mostNow_49 : decode cX8_mostNow 49 = .ok (.bipush 9, 2) := by decide +kernel
theorem dX8_mostNow_51 : decode cX8_mostNow 51 = .ok (.goto 4, 3) := by decide +kernel
theorem dX8_mostNow_54 : decode cX8_mostNow 54 = .ok (.iload_n 1, 1) := by decide +kernel
theorem dX8_mostNow_55 : decode cX8_mostNow 55 = .ok (.ireturn, 1) := by decide +kernel
theorem dX8_factOf_0 : decode cX8_factOf 0 = .ok (.iload_n 1, 1) := by decide +kernel
theorem dX8_factOf_1 : decode cX8_factOf 1 = .ok (.tableswitch 65 0 4 #[35, 37, 44, 51, 60], 35) := by decide +kernel
theorem dX8_factOf_36 : decode cX8_factOf 36 = .ok (.iload_n 2, 1) := by decide +kernel
theorem dX8_factOf_37 : decode cX8_factOf 37 = .ok (.ireturn, 1) := by decide +kernel
theorem dX8_factOf_38 : decode cX8_factOf 38 = .ok (.aload_n 0, 1) := by decide +kernel
theorem dX8_factOf_39 : decode cX8_factOf 39 = .ok (.getfield 16, 3) := by decide +kernel
theorem dX8_factOf_42 : decode cX8_factOf 42 = .ok (.iload_n 2, 1) := by decide +kernel
theorem dX8_factOf_43 : decode cX8_factOf 43 = .ok (.iaload, 1) := by decide +kernel
theorem dX8_factOf_44 : decode cX8_factOf 44 = .ok (.ireturn, 1) := by decide +kernel
theorem dX8_factOf_45 : decode cX8_factOf 45 = .ok (.aload_n 0, 1) := by decide +kernel
theorem dX8_factOf_46 : decode cX8_factOf 46 = .ok (.getfield 20, 3) := by decide +kernel
theorem dX8_factOf_49 : decode cX8_factOf 49 = .ok (.iload_n 2, 1) := by decide +kernel
theorem dX8_factOf_50 : decode cX8_factOf 50 = .ok (.iaload, 1) := by decide +kernel
theorem dX8_factOf_51 : decode cX8_factOf 51 = .ok (.ireturn, 1) := by decide +kernel
theorem dX8_factOf_52 : decode cX8_factOf 52 = .ok (.aload_n 0, 1) := by decide +kernel
theorem dX8_factOf_53 : decode cX8_factOf 53 = .ok (.getfield 23, 3) := by decide +kernel
theorem dX8_factOf_56 : decode cX8_factOf 56 = .ok (.iconst 3, 1) := by decide +kernel
theorem dX8_factOf_57 : decode cX8_factOf 57 = .ok (.iload_n 2, 1) := by decide +kernel
theorem dX8_factOf_58 : decode cX8_factOf 58 = .ok (.imul, 1) := by decide +kernel
theorem dX8_factOf_59 : decode cX8_factOf 59 = .ok (.iaload, 1) := by decide +kernel
theorem dX8_factOf_60 : decode cX8_factOf 60 = .ok (.ireturn, 1) := by decide +kernel
theorem dX8_factOf_61 : decode cX8_factOf 61 = .ok (.aload_n 0, 1) := by decide +kernel
theorem dX8_factOf_62 : decode cX8_factOf 62 = .ok (.getfield 13, 3) := by decide +kernel
theorem dX8_factOf_65 : decode cX8_factOf 65 = .ok (.ireturn, 1) := by decide +kernel
theorem dX8_factOf_66 : decode cX8_factOf 66 = .ok (.iload_n 3, 1) := by decide +kernel
theorem dX8_factOf_67 : decode cX8_factOf 67 = .ok (.ireturn, 1) := by decide +kernel
theorem dX8_holds_0 : decode cX8_holds 0 = .ok (.iconst 0, 1) := by decide +kernel
theorem dX8_holds_1 : decode cX8_holds 1 = .ok (.istore 4, 2) := by decide +kernel
theorem dX8_holds_3 : decode cX8_holds 3 = .ok (.aload_n 0, 1) := by decide +kernel
theorem dX8_holds_4 : decode cX8_holds 4 = .ok (.getfield 68, 3) := by decide +kernel
theorem dX8_holds_7 : decode cX8_holds 7 = .ok (.iload_n 1, 1) := by decide +kernel
theorem dX8_holds_8 : decode cX8_holds 8 = .ok (.iaload, 1) := by decide +kernel
theorem dX8_holds_9 : decode cX8_holds 9 = .ok (.istore 5, 2) := by decide +kernel
theorem dX8_holds_11 : decode cX8_holds 11 = .ok (.iload 5, 2) := by decide +kernel
theorem dX8_holds_13 : decode cX8_holds 13 = .ok (.aload_n 0, 1) := by decide +kernel
theorem dX8_holds_14 : decode cX8_holds 14 = .ok (.getfield 71, 3) := by decide +kernel
theorem dX8_holds_17 : decode cX8_holds 17 = .ok (.iload_n 1, 1) := by decide +kernel
theorem dX8_holds_18 : decode cX8_holds 18 = .ok (.iaload, 1) := by decide +kernel
theorem dX8_holds_19 : decode cX8_holds 19 = .ok (.if_icmp .ge 234, 3) := by decide +kernel
theorem dX8_holds_22 : decode cX8_holds 22 = .ok (.aload_n 0, 1) := by decide +kernel
theorem dX8_holds_23 : decode cX8_holds 23 = .ok (.getfield 74, 3) := by decide +kernel
theorem dX8_holds_26 : decode cX8_holds 26 = .ok (.iload 5, 2) := by decide +kernel
theorem dX8_holds_28 : decode cX8_holds 28 = .ok (.iaload, 1) := by decide +kernel
theorem dX8_holds_29 : decode cX8_holds 29 = .ok (.istore 6, 2) := by decide +kernel
theorem dX8_holds_31 : decode cX8_holds 31 = .ok (.iload 6, 2) := by decide +kernel
theorem dX8_holds_33 : decode cX8_holds 33 = .ok (.bipush (-33), 2) := by decide +kernel
theorem dX8_holds_35 : decode cX8_holds 35 = .ok (.if_icmp .ne 32, 3) := by decide +kernel
theorem dX8_holds_38 : decode cX8_holds 38 = .ok (.aload_n 0, 1) := by decide +kernel
theorem dX8_holds_39 : decode cX8_holds 39 = .ok (.getfield 92, 3) := by decide +kernel
theorem dX8_holds_42 : decode cX8_holds 42 = .ok (.iload 4, 2) := by decide +kernel
theorem dX8_holds_44 : decode cX8_holds 44 = .ok (.iconst 1, 1) := by decide +kernel
theorem dX8_holds_45 : decode cX8_holds 45 = .ok (.isub, 1) := by decide +kernel
theorem dX8_holds_46 : decode cX8_holds 46 = .ok (.aload_n 0, 1) := by decide +kernel
theorem dX8_holds_47 : decode cX8_holds 47 = .ok (.getfield 92, 3) := by decide +kernel
theorem dX8_holds_50 : decode cX8_holds 50 = .ok (.iload 4, 2) := by decide +kernel
theorem dX8_holds_52 : decode cX8_holds 52 = .ok (.iconst 1, 1) := by decide +kernel
theorem dX8_holds_53 : decode cX8_holds 53 = .ok (.isub, 1) := by decide +kernel
theorem dX8_holds_54 : decode cX8_holds 54 = .ok (.baload, 1) := by decide +kernel
