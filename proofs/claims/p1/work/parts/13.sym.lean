theorem dX7_fault_0 : decode cX7_fault 0 = .ok (.iload_n 1, 1) := by decide +kernel
theorem dX7_fault_1 : decode cX7_fault 1 = .ok (.ifCond .ne 8, 3) := by decide +kernel
theorem dX7_fault_4 : decode cX7_fault 4 = .ok (.aload_n 0, 1) := by decide +kernel
theorem dX7_fault_5 : decode cX7_fault 5 = .ok (.getfield 69, 3) := by decide +kernel
theorem dX7_fault_8 : decode cX7_fault 8 = .ok (.ireturn, 1) := by decide +kernel
theorem dX7_fault_9 : decode cX7_fault 9 = .ok (.iload_n 1, 1) := by decide +kernel
theorem dX7_fault_10 : decode cX7_fault 10 = .ok (.iconst 1, 1) := by decide +kernel
theorem dX7_fault_11 : decode cX7_fault 11 = .ok (.if_icmp .ne 10, 3) := by decide +kernel
theorem dX7_fault_14 : decode cX7_fault 14 = .ok (.aload_n 0, 1) := by decide +kernel
theorem dX7_fault_15 : decode cX7_fault 15 = .ok (.getfield 20, 3) := by decide +kernel
theorem dX7_fault_18 : decode cX7_fault 18 = .ok (.goto 4, 3) := by decide +kernel
theorem dX7_fault_21 : decode cX7_fault 21 = .ok (.iconst (-1), 1) := by decide +kernel
theorem dX7_fault_22 : decode cX7_fault 22 = .ok (.ireturn, 1) := by decide +kernel
theorem dX7_back_0 : decode cX7_back 0 = .ok (.iload_n 1, 1) := by decide +kernel
theorem dX7_back_1 : decode cX7_back 1 = .ok (.ifCond .lt 8, 3) := by decide +kernel
theorem dX7_back_4 : decode cX7_back 4 = .ok (.iload_n 1, 1) := by decide +kernel
theorem dX7_back_5 : decode cX7_back 5 = .ok (.iconst 3, 1) := by decide +kernel
theorem dX7_back_6 : decode cX7_back 6 = .ok (.if_icmp .lt 6, 3) := by decide +kernel
theorem dX7_back_9 : decode cX7_back 9 = .ok (.bipush (-2), 2) := by decide +kernel
theorem dX7_back_11 : decode cX7_back 11 = .ok (.ireturn, 1) := by decide +kernel
theorem dX7_back_12 : decode cX7_back 12 = .ok (.aload_n 0, 1) := by decide +kernel
theorem dX7_back_13 : decode cX7_back 13 = .ok (.getfield 34, 3) := by decide +kernel
theorem dX7_back_16 : decode cX7_back 16 = .ok (.iload_n 1, 1) := by decide +kernel
theorem dX7_back_17 : decode cX7_back 17 = .ok (.aaload, 1) := by decide +kernel
theorem dX7_back_18 : decode cX7_back 18 = .ok (.ifnonnull 6, 3) := by decide +kernel
theorem dX7_back_21 : decode cX7_back 21 = .ok (.bipush (-6), 2) := by decide +kernel
theorem dX7_back_23 : decode cX7_back 23 = .ok (.ireturn, 1) := by decide +kernel
theorem dX7_write_0 : decode cX7_write 0 = .ok (.iload_n 1, 1) := by decide +kernel
theorem dX7_write_1 : decode cX7_write 1 = .ok (.invokestatic 281, 3) := by decide +kernel
theorem dX7_write_4 : decode cX7_write 4 = .ok (.ifCond .eq 6, 3) := by decide +kernel
theorem dX7_write_7 : decode cX7_write 7 = .ok (.bipush (-2), 2) := by decide +kernel
theorem dX7_write_9 : decode cX7_write 9 = .ok (.ireturn, 1) := by decide +kernel
theorem dX7_write_10 : decode cX7_write 10 = .ok (.aload_n 0, 1) := by decide +kernel
theorem dX7_write_11 : decode cX7_write 11 = .ok (.getfield 50, 3) := by decide +kernel
theorem dX7_write_14 : decode cX7_write 14 = .ok (.iload_n 1, 1) := by decide +kernel
theorem dX7_write_15 : decode cX7_write 15 = .ok (.aaload, 1) := by decide +kernel
theorem dX7_write_16 : decode cX7_write 16 = .ok (.astore 5, 2) := by decide +kernel
theorem dX7_write_18 : decode cX7_write 18 = .ok (.aload 5, 2) := by decide +kernel
theorem dX7_write_20 : decode cX7_write 20 = .ok (.getfield 284, 3) := by decide +kernel
theorem dX7_write_23 : decode cX7_write 23 = .ok (.iconst (-1), 1) := by decide +kernel
theorem dX7_write_24 : decode cX7_write 24 = .ok (.if_icmp .ne 6, 3) := by decide +kernel
theorem dX7_write_27 : decode cX7_write 27 = .ok (.bipush (-6), 2) := by decide +kernel
theorem dX7_write_29 : decode cX7_write 29 = .ok (.ireturn, 1) := by decide +kernel
theorem dX7_paste_0 : decode cX7_paste 0 = .ok (.iload_n 1, 1) := by decide +kernel
theorem dX7_paste_1 : decode cX7_paste 1 = .ok (.invokestatic 281, 3) := by decide +kernel
theorem dX7_paste_4 : decode cX7_paste 4 = .ok (.ifCond .ne 10, 3) := by decide +kernel
theorem dX7_paste_7 : decode cX7_paste 7 = .ok (.iload_n 3, 1) := by decide +kernel
theorem dX7_paste_8 : decode cX7_paste 8 = .ok (.invokestatic 281, 3) := by decide +kernel
theorem dX7_paste_11 : decode cX7_paste 11 = .ok (.ifCond .eq 6, 3) := by decide +kernel
theorem dX7_paste_14 : decode cX7_paste 14 = .ok (.bipush (-2), 2) := by decide +kernel
theorem dX7_paste_16 : decode cX7_paste 16 = .ok (.ireturn, 1) := by decide +kernel
theorem dX7_paste_17 : decode cX7_paste 17 = .ok (.aload_n 0, 1) := by decide +kernel
theorem dX7_paste_18 : decode cX7_paste 18 = .ok (.getfield 50, 3) := by decide +kernel
theorem dX7_paste_21 : decode cX7_paste 21 = .ok (.iload_n 1, 1) := by decide +kernel
theorem dX7_paste_22 : decode cX7_paste 22 = .ok (.aaload, 1) := by decide +kernel
theorem dX7_paste_23 : decode cX7_paste 23 = .ok (.astore 6, 2) := by decide +kernel
theorem dX7_paste_25 : decode cX7_paste 25 = .ok (.aload_n 0, 1) := by decide +kernel
theorem dX7_paste_26 : decode cX7_paste 26 = .ok (.getfield 50, 3) := by decide +kernel
theorem dX7_paste_29 : decode cX7_paste 29 = .ok (.iload_n 3, 1) := by decide +kernel
theorem dX7_paste_30 : decode cX7_paste 30 = .ok (.aaload, 1) := by decide +kernel
theorem dX7_paste_31 : decode cX7_paste 31 = .ok (.astore 7, 2) := by decide +kernel
theorem dX7_paste_33 : decode cX7_paste 33 = .ok (.aload 6, 2) := by decide +kernel
theorem dX7_paste_35 : decode cX7_paste 35 = .ok (.getfield 284, 3) := by decide +kernel
theorem dX7_paste_38 : decode cX7_paste 38 = .ok (.iconst (-1), 1) := by decide +kernel
theorem dX7_paste_39 : decode cX7_paste 39 = .ok (.if_icmp .eq 12, 3) := by decide +kernel
theorem dX7_paste_51 : decode cX7_paste 51 = .ok (.bipush (-6), 2) := by decide +kernel
theorem dX7_paste_53 : decode cX7_paste 53 = .ok (.ireturn, 1) := by decide +kernel
theorem dX7_filledSlots_0 : decode cX7_filledSlots 0 = .ok (.iconst 0, 1) := by decide +kernel
theorem dX7_filledSlots_1 : decode cX7_filledSlots 1 = .ok (.istore_n 1, 1) := by decide +kernel
theorem dX7_filledSlots_2 : decode cX7_filledSlots 2 = .ok (.iconst 0, 1) := by decide +kernel
theorem dX7_filledSlots_3 : decode cX7_filledSlots 3 = .ok (.istore_n 2, 1) := by decide +kernel
theorem dX7_filledSlots_4 : decode cX7_filledSlots 4 = .ok (.iload_n 2, 1) := by decide +kernel
theorem dX7_filledSlots_5 : decode cX7_filledSlots 5 = .ok (.iconst 4, 1) := by decide +kernel
theorem dX7_filledSlots_6 : decode cX7_filledSlots 6 = .ok (.if_icmp .ge 25, 3) := by decide +kernel
theorem dX7_filledSlots_9 : decode cX7_filledSlots 9 = .ok (.aload_n 0, 1) := by decide +kernel
theorem dX7_filledSlots_10 : decode cX7_filledSlots 10 = .ok (.getfield 50, 3) := by decide +kernel
theorem dX7_filledSlots_13 : decode cX7_filledSlots 13 = .ok (.iload_n 2, 1) := by decide +kernel
theorem dX7_filledSlots_14 : decode cX7_filledSlots 14 = .ok (.aaload, 1) := by decide +kernel
theorem dX7_filledSlots_15 : decode cX7_filledSlots 15 = .ok (.getfield 284, 3) := by decide +kernel
theorem dX7_filledSlots_18 : decode cX7_filledSlots 18 = .ok (.iconst (-1), 1) := by decide +kernel
theorem dX7_filledSlots_19 : decode cX7_filledSlots 19 = .ok (.if_icmp .eq 6, 3) := by decide +kernel
theorem dX7_filledSlots_25 : decode cX7_filledSlots 25 = .ok (.iinc 2 1, 3) := by decide +kernel
theorem dX7_filledSlots_28 : decode cX7_filledSlots 28 = .ok (.goto (-24), 3) := by decide +kernel
theorem dX7_filledSlots_31 : decode cX7_filledSlots 31 = .ok (.iload_n 1, 1) := by decide +kernel
theorem dX7_filledSlots_32 : decode cX7_filledSlots 32 = .ok (.ireturn, 1) := by decide +kernel
theorem dX7_count_0 : decode cX7_count 0 = .ok (.iload_n 1, 1) := by decide +kernel
theorem dX7_count_1 : decode cX7_count 1 = .ok (.tableswitch 129 0 9 #[55, 63, 71, 79, 87, 95, 103, 111, 116, 124], 55) := by decide +kernel
theorem dX7_count_56 : decode cX7_count 56 = .ok (.aload_n 0, 1) := by decide +kernel
theorem dX7_count_57 : decode cX7_count 57 = .ok (.getfield 27, 3) := by decide +kernel
theorem dX7_count_60 : decode cX7_count 60 = .ok (.getfield 239, 3) := by decide +kernel
theorem dX7_count_63 : decode cX7_count 63 = .ok (.ireturn, 1) := by decide +kernel
theorem dX7_count_64 : decode cX7_count 64 = .ok (.aload_n 0, 1) := by decide +kernel
theorem dX7_count_65 : decode cX7_count 65 = .ok (.getfield 27, 3) := by decide +kernel
theorem dX7_count_68 : decode cX7_count 68 = .ok (.getfield 236, 3) := by decide +kernel
theorem dX7_count_71 : decode cX7_count 71 = .ok (.ireturn, 1) := by decide +kernel
theorem dX7_count_72 : decode cX7_count 72 = .ok (.aload_n 0, 1) := by decide +kernel
theorem dX7_count_73 : decode cX7_count 73 = .ok (.getfield 27, 3) := by decide +kernel
theorem dX7_count_76 : decode cX7_count 76 = .ok (.getfield 98, 3) := by decide +kernel
theorem dX7_count_79 : decode cX7_count 79 = .ok (.ireturn, 1) := by decide +kernel
theorem dX7_count_80 : decode cX7_count 80 = .ok (.aload_n 0, 1) := by decide +kernel
theorem dX7_count_81 : decode cX7_count 81 = .ok (.getfield 27, 3) := by decide +kernel
theorem dX7_count_84 : decode cX7_count 84 = .ok (.getfield 118, 3) := by decide +kernel
theorem dX7_count_87 : decode cX7_count 87 = .ok (.ireturn, 1) := by decide +kernel
theorem dX7_count_88 : decode cX7_count 88 = .ok (.aload_n 0, 1) := by decide +kernel
theorem dX7_count_89 : decode cX7_count 89 = .ok (.getfield 27, 3) := by decide +kernel
theorem dX7_count_92 : decode cX7_count 92 = .ok (.getfield 115, 3) := by decide +kernel
theorem dX7_count_95 : decode cX7_count 95 = .ok (.ireturn, 1) := by decide +kernel
theorem dX7_count_96 : decode cX7_count 96 = .ok (.aload_n 0, 1) := by decide +kernel
theorem dX7_count_97 : decode cX7_count 97 = .ok (.getfield 27, 3) := by decide +kernel
theorem dX7_count_100 : decode cX7_count 100 = .ok (.getfield 348, 3) := by decide +kernel
theorem dX7_count_103 : decode cX7_count 103 = .ok (.ireturn, 1) := by decide +kernel
theorem dX7_count_104 : decode cX7_count 104 = .ok (.aload_n 0, 1) := by decide +kernel
theorem dX7_count_105 : decode cX7_count 105 = .ok (.getfield 27, 3) := by decide +kernel
theorem dX7_count_108 : decode cX7_count 108 = .ok (.getfield 81, 3) := by decide +kernel
theorem dX7_count_111 : decode cX7_count 111 = .ok (.ireturn, 1) := by decide +kernel
theorem dX7_count_112 : decode cX7_count 112 = .ok (.aload_n 0, 1) := by decide +kernel
theorem dX7_count_113 : decode cX7_count 113 = .ok (.getfield 55, 3) := by decide +kernel
theorem dX7_count_116 : decode cX7_count 116 = .ok (.ireturn, 1) := by decide +kernel
theorem dX7_count_117 : decode cX7_count 117 = .ok (.aload_n 0, 1) := by decide +kernel
theorem dX7_count_118 : decode cX7_count 118 = .ok (.getfield 27, 3) := by decide +kernel
theorem dX7_count_121 : decode cX7_count 121 = .ok (.getfield 91, 3) := by decide +kernel
theorem dX7_count_124 : decode cX7_count 124 = .ok (.ireturn, 1) := by decide +kernel
theorem dX7_count_125 : decode cX7_count 125 = .ok (.aload_n 0, 1) := by decide +kernel
theorem dX7_count_126 : decode cX7_count 126 = .ok (.invokevirtual 351, 3) := by decide +kernel
theorem dX7_count_129 : decode cX7_count 129 = .ok (.ireturn, 1) := by decide +kernel
theorem dX7_count_130 : decode cX7_count 130 = .ok (.iconst (-1), 1) := by decide +kernel
theorem dX7_count_131 : decode cX7_count 131 = .ok (.ireturn, 1) := by decide +kernel
theorem dX8_fault_0 : decode cX8_fault 0 = .ok (.iload_n 1, 1) := by decide +kernel
theorem dX8_fault_1 : decode cX8_fault 1 = .ok (.ifCond .ne 10, 3) := by decide +kernel
theorem dX8_fault_4 : decode cX8_fault 4 = .ok (.aload_n 0, 1) := by decide +kernel
theorem dX8_fault_5 : decode cX8_fault 5 = .ok (.getfield 151, 3) := by decide +kernel
theorem dX8_fault_8 : decode cX8_fault 8 = .ok (.goto 16, 3) := by decide +kernel
theorem dX8_fault_11 : decode cX8_fault 11 = .ok (.iload_n 1, 1) := by decide +kernel
theorem dX8_fault_12 : decode cX8_fault 12 = .ok (.iconst 1, 1) := by decide +kernel
theorem dX8_fault_13 : decode cX8_fault 13 = .ok (.if_icmp .ne 10, 3) := by decide +kernel
theorem dX8_fault_16 : decode cX8_fault 16 = .ok (.aload_n 0, 1) := by decide +kernel
theorem dX8_fault_17 : decode cX8_fault 17 = .ok (.getfield 27, 3) := by decide +kernel
theorem dX8_fault_20 : decode cX8_fault 20 = .ok (.goto 4, 3) := by decide +kernel
theorem dX8_fault_23 : decode cX8_fault 23 = .ok (.iconst (-1), 1) := by decide +kernel
theorem dX8_fault_24 : decode cX8_fault 24 = .ok (.ireturn, 1) := by decide +kernel
theorem dX8_back_0 : decode cX8_back 0 = .ok (.iload_n 1, 1) := by decide +kernel
theorem dX8_back_1 : decode cX8_back 1 = .ok (.i2l, 1) := by decide +kernel
theorem dX8_back_2 : decode cX8_back 2 = .ok (.lconst 0, 1) := by decide +kernel
theorem dX8_back_3 : decode cX8_back 3 = .ok (.ldc2_w 102, 3) := by decide +kernel
theorem dX8_back_6 : decode cX8_back 6 = .ok (.invokestatic 104, 3) := by decide +kernel
theorem dX8_back_9 : decode cX8_back 9 = .ok (.ifCond .ne 6, 3) := by decide +kernel
theorem dX8_back_12 : decode cX8_back 12 = .ok (.bipush (-2), 2) := by decide +kernel
theorem dX8_back_14 : decode cX8_back 14 = .ok (.ireturn, 1) := by decide +kernel
theorem dX8_back_15 : decode cX8_back 15 = .ok (.aload_n 0, 1) := by decide +kernel
theorem dX8_back_16 : decode cX8_back 16 = .ok (.getfield 16, 3) := by decide +kernel
theorem dX8_back_19 : decode cX8_back 19 = .ok (.iload_n 1, 1) := by decide +kernel
theorem dX8_back_20 : decode cX8_back 20 = .ok (.baload, 1) := by decide +kernel
theorem dX8_back_21 : decode cX8_back 21 = .ok (.ifCond .ne 6, 3) := by decide +kernel
theorem dX8_back_24 : decode cX8_back 24 = .ok (.bipush (-6), 2) := by decide +kernel
theorem dX8_back_26 : decode cX8_back 26 = .ok (.ireturn, 1) := by decide +kernel
theorem dX8_write_0 : decode cX8_write 0 = .ok (.iload_n 1, 1) := by decide +kernel
theorem dX8_write_1 : decode cX8_write 1 = .ok (.invokestatic 416, 3) := by decide +kernel
theorem dX8_write_4 : decode cX8_write 4 = .ok (.ifCond .ne 6, 3) := by decide +kernel
theorem dX8_write_7 : decode cX8_write 7 = .ok (.bipush (-2), 2) := by decide +kernel
theorem dX8_write_9 : decode cX8_write 9 = .ok (.ireturn, 1) := by decide +kernel
theorem dX8_write_10 : decode cX8_write 10 = .ok (.aload_n 0, 1) := by decide +kernel
theorem dX8_write_11 : decode cX8_write 11 = .ok (.getfield 86, 3) := by decide +kernel
theorem dX8_write_14 : decode cX8_write 14 = .ok (.iload_n 1, 1) := by decide +kernel
theorem dX8_write_15 : decode cX8_write 15 = .ok (.iaload, 1) := by decide +kernel
theorem dX8_write_16 : decode cX8_write 16 = .ok (.iconst (-1), 1) := by decide +kernel
theorem dX8_write_17 : decode cX8_write 17 = .ok (.if_icmp .ne 6, 3) := by decide +kernel
theorem dX8_write_20 : decode cX8_write 20 = .ok (.bipush (-6), 2) := by decide +kernel
theorem dX8_write_22 : decode cX8_write 22 = .ok (.ireturn, 1) := by decide +kernel
theorem dX8_paste_0 : decode cX8_paste 0 = .ok (.iload_n 1, 1) := by decide +kernel
theorem dX8_paste_1 : decode cX8_paste 1 = .ok (.invokestatic 416, 3) := by decide +kernel
theorem dX8_paste_4 : decode cX8_paste 4 = .ok (.ifCond .eq 10, 3) := by decide +kernel
theorem dX8_paste_7 : decode cX8_paste 7 = .ok (.iload_n 3, 1) := by decide +kernel
theorem dX8_paste_8 : decode cX8_paste 8 = .ok (.invokestatic 416, 3) := by decide +kernel
theorem dX8_paste_11 : decode cX8_paste 11 = .ok (.ifCond .ne 6, 3) := by decide +kernel
theorem dX8_paste_14 : decode cX8_paste 14 = .ok (.bipush (-2), 2) := by decide +kernel
theorem dX8_paste_16 : decode cX8_paste 16 = .ok (.ireturn, 1) := by decide +kernel
theorem dX8_paste_17 : decode cX8_paste 17 = .ok (.aload_n 0, 1) := by decide +kernel
theorem dX8_paste_18 : decode cX8_paste 18 = .ok (.getfield 86, 3) := by decide +kernel
theorem dX8_paste_21 : decode cX8_paste 21 = .ok (.iload_n 1, 1) := by decide +kernel
theorem dX8_paste_22 : decode cX8_paste 22 = .ok (.iaload, 1) := by decide +kernel
theorem dX8_paste_23 : decode cX8_paste 23 = .ok (.iconst (-1), 1) := by decide +kernel
theorem dX8_paste_24 : decode cX8_paste 24 = .ok (.if_icmp .eq 13, 3) := by decide +kernel
theorem dX8_paste_37 : decode cX8_paste 37 = .ok (.bipush (-6), 2) := by decide +kernel
theorem dX8_paste_39 : decode cX8_paste 39 = .ok (.ireturn, 1) := by decide +kernel
theorem dX8_count_0 : decode cX8_count 0 = .ok (.iconst 0, 1) := by decide +kernel
theorem dX8_count_1 : decode cX8_count 1 = .ok (.istore_n 2, 1) := by decide +kernel
theorem dX8_count_2 : decode cX8_count 2 = .ok (.iload_n 1, 1) := by decide +kernel
theorem dX8_count_3 : decode cX8_count 3 = .ok (.tableswitch 149 0 9 #[53, 60, 67, 75, 82, 89, 96, 103, 108, 116], 53) := by decide +kernel
theorem dX8_count_56 : decode cX8_count 56 = .ok (.aload_n 0, 1) := by decide +kernel
theorem dX8_count_57 : decode cX8_count 57 = .ok (.getfield 9, 3) := by decide +kernel
theorem dX8_count_60 : decode cX8_count 60 = .ok (.iconst 4, 1) := by decide +kernel
theorem dX8_count_61 : decode cX8_count 61 = .ok (.iaload, 1) := by decide +kernel
theorem dX8_count_62 : decode cX8_count 62 = .ok (.ireturn, 1) := by decide +kernel
theorem dX8_count_63 : decode cX8_count 63 = .ok (.aload_n 0, 1) := by decide +kernel
theorem dX8_count_64 : decode cX8_count 64 = .ok (.getfield 9, 3) := by decide +kernel
theorem dX8_count_67 : decode cX8_count 67 = .ok (.iconst 5, 1) := by decide +kernel
theorem dX8_count_68 : decode cX8_count 68 = .ok (.iaload, 1) := by decide +kernel
theorem dX8_count_69 : decode cX8_count 69 = .ok (.ireturn, 1) := by decide +kernel
theorem dX8_count_70 : decode cX8_count 70 = .ok (.aload_n 0, 1) := by decide +kernel
theorem dX8_count_71 : decode cX8_count 71 = .ok (.getfield 9, 3) := by decide +kernel
theorem dX8_count_74 : decode cX8_count 74 = .ok (.bipush 6, 2) := by decide +kernel
theorem dX8_count_76 : decode cX8_count 76 = .ok (.iaload, 1) := by decide +kernel
theorem dX8_count_77 : decode cX8_count 77 = .ok (.ireturn, 1) := by decide +kernel
theorem dX8_count_78 : decode cX8_count 78 = .ok (.aload_n 0, 1) := by decide +kernel
theorem dX8_count_79 : decode cX8_count 79 = .ok (.getfield 9, 3) := by decide +kernel
theorem dX8_count_82 : decode cX8_count 82 = .ok (.iconst 1, 1) := by decide +kernel
theorem dX8_count_83 : decode cX8_count 83 = .ok (.iaload, 1) := by decide +kernel
theorem dX8_count_84 : decode cX8_count 84 = .ok (.ireturn, 1) := by decide +kernel
theorem dX8_count_85 : decode cX8_count 85 = .ok (.aload_n 0, 1) := by decide +kernel
theorem dX8_count_86 : decode cX8_count 86 = .ok (.getfield 9, 3) := by decide +kernel
theorem dX8_count_89 : decode cX8_count 89 = .ok (.iconst 2, 1) := by decide +kernel
theorem dX8_count_90 : decode cX8_count 90 = .ok (.iaload, 1) := by decide +kernel
theorem dX8_count_91 : decode cX8_count 91 = .ok (.ireturn, 1) := by decide +kernel
theorem dX8_count_92 : decode cX8_count 92 = .ok (.aload_n 0, 1) := by decide +kernel
theorem dX8_count_93 : decode cX8_count 93 = .ok (.getfield 9, 3) := by decide +kernel
theorem dX8_count_96 : decode cX8_count 96 = .ok (.iconst 0, 1) := by decide +kernel
theorem dX8_count_97 : decode cX8_count 97 = .ok (.iaload, 1) := by decide +kernel
theorem dX8_count_98 : decode cX8_count 98 = .ok (.ireturn, 1) := by decide +kernel
theorem dX8_count_99 : decode cX8_count 99 = .ok (.aload_n 0, 1) := by decide +kernel
theorem dX8_count_100 : decode cX8_count 100 = .ok (.getfield 9, 3) := by decide +kernel
theorem dX8_count_103 : decode cX8_count 103 = .ok (.iconst 3, 1) := by decide +kernel
theorem dX8_count_104 : decode cX8_count 104 = .ok (.iaload, 1) := by decide +kernel
theorem dX8_count_105 : decode cX8_count 105 = .ok (.ireturn, 1) := by decide +kernel
theorem dX8_count_106 : decode cX8_count 106 = .ok (.aload_n 0, 1) := by decide +kernel
theorem dX8_count_107 : decode cX8_count 107 = .ok (.getfield 114, 3) := by decide +kernel
theorem dX8_count_110 : decode cX8_count 110 = .ok (.ireturn, 1) := by decide +kernel
theorem dX8_count_111 : decode cX8_count 111 = .ok (.aload_n 0, 1) := by decide +kernel
theorem dX8_count_112 : decode cX8_count 112 = .ok (.getfield 9, 3) := by decide +kernel
theorem dX8_count_115 : decode cX8_count 115 = .ok (.bipush 7, 2) := by decide +kernel
theorem dX8_count_117 : decode cX8_count 117 = .ok (.iaload, 1) := by decide +kernel
theorem dX8_count_118 : decode cX8_count 118 = .ok (.ireturn, 1) := by decide +kernel
theorem dX8_count_119 : decode cX8_count 119 = .ok (.iconst 0, 1) := by decide +kernel
theorem dX8_count_120 : decode cX8_count 120 = .ok (.istore_n 3, 1) := by decide +kernel
theorem dX8_count_121 : decode cX8_count 121 = .ok (.iload_n 3, 1) := by decide +kernel
theorem dX8_count_122 : decode cX8_count 122 = .ok (.iconst 4, 1) := by decide +kernel
theorem dX8_count_123 : decode cX8_count 123 = .ok (.if_icmp .ge 27, 3) := by decide +kernel
theorem dX8_count_126 : decode cX8_count 126 = .ok (.iload_n 2, 1) := by decide +kernel
theorem dX8_count_127 : decode cX8_count 127 = .ok (.aload_n 0, 1) := by decide +kernel
theorem dX8_count_128 : decode cX8_count 128 = .ok (.getfield 86, 3) := by decide +kernel
theorem dX8_count_131 : decode cX8_count 131 = .ok (.iload_n 3, 1) := by decide +kernel
theorem dX8_count_132 : decode cX8_count 132 = .ok (.iaload, 1) := by decide +kernel
theorem dX8_count_133 : decode cX8_count 133 = .ok (.iconst (-1), 1) := by decide +kernel
theorem dX8_count_134 : decode cX8_count 134 = .ok (.if_icmp .ne 7, 3) := by decide +kernel
theorem dX8_count_137 : decode cX8_count 137 = .ok (.iconst 0, 1) := by decide +kernel
theorem dX8_count_138 : decode cX8_count 138 = .ok (.goto 4, 3) := by decide +kernel
theorem dX8_count_142 : decode cX8_count 142 = .ok (.iadd, 1) := by decide +kernel
theorem dX8_count_143 : decode cX8_count 143 = .ok (.istore_n 2, 1) := by decide +kernel
theorem dX8_count_144 : decode cX8_count 144 = .ok (.iinc 3 1, 3) := by decide +kernel
theorem dX8_count_147 : decode cX8_count 147 = .ok (.goto (-26), 3) := by decide +kernel
theorem dX8_count_150 : decode cX8_count 150 = .ok (.iload_n 2, 1) := by decide +kernel
theorem dX8_count_151 : decode cX8_count 151 = .ok (.ireturn, 1) := by decide +kernel
theorem dX8_count_152 : decode cX8_count 152 = .ok (.iconst (-1), 1) := by decide +kernel
theorem dX8_count_153 : decode cX8_count 153 = .ok (.ireturn, 1) := by decide +kernel
theorem nlt3 {x : Int32} (h : ¬ (0 ≤ x.toInt ∧ x.toInt ≤ 2)) (h1 : ¬ x < 0) : ¬ x < 3 := by
  rw [lt32, z32] at h1
  rw [lt32, show (3 : Int32).toInt = 3 by decide]
  omega

def v_r_X_fault : List Cond := .code yX7_fault cX7_fault 2 (some .int) :: ([.fieldLink RX7 20 "UnseenClock" "faultPlace" "I", .fieldLink RX7 69 "UnseenClock" "faultKind" "I"] ++ (wsX70))
theorem in_r_X_fault_X7 : ∀ w ∈ u_ws RX7 TX7 14, w ∈ v_r_X_fault := fun w h => List.mem_cons_of_mem _ (List.mem_append_right _ (h))
set_option maxHeartbeats 2000000 in
set_option maxRecDepth 100000 in
theorem r_X_fault (l : Launch) (D : va_G) (E : Nat → ClassId) (sz : Nat) (h0 : Nat) (u : Nat → Nat) (a1 : Int32) : Met l yX7_fault v_r_X_fault ({ frames := 0, cells := 0, slots := 0, locals := 0 }) (va_Pc [.ref h0, .int a1] (pre D E (wX E h0 u) sz)) (vp_Si (fun r => r = if a1 = 0 then 0 else -1)) 0 0 (fun _ => False) := by
  refine c_read (cc := cX7_fault) (maxL := 2) (ret := (some .int)) (by decide) rfl (Nat.le_of_ble_eq_true rfl) ?_
  intro p e s m below meth c ls ⟨hx, hb, hr, hts, hown, hlocks, hin, hml⟩ hP hK hD hN hl
  have hown : s.vm.findClass RX7 = some m.cls := hown
  have hl : lv_has ls 2 [(0, .ref h0), (1, .int a1)] := hl
  refine lv_iload_n hx hb dX7_fault_0 rfl (lv_at hl 1 rfl) ?_
  refine lv_if_ne (tgt := 9) hx hb dX7_fault_1 (by decide) (fun h_1 => ?_) (fun h_1 => ?_)
  · refine lv_iload_n hx hb dX7_fault_9 rfl (lv_at hl 1 rfl) ?_
    refine lv_iconst (v := 1) hx hb dX7_fault_10 (by decide) ?_
    refine lv_icmp_ne (tgt := 21) hx hb dX7_fault_11 (by decide) (fun h_2 => ?_) (fun h_2 => ?_)
    · refine lv_iconst (v := (-1)) hx hb dX7_fault_21 (by decide) ?_
      exact e_s (v := (-1)) hx hb hr rfl (if_neg h_1).symm hlocks dX7_fault_22
    · refine lv_aload_n hx hb dX7_fault_14 rfl (lv_at hl 0 rfl) ?_
      refine va_get (ci := 7) (v := .int (-1)) (C := RX7) (T := TX7) (N := 14) hx hb hts in_r_X_fault_X7 hown hK hP 0 rfl rfl 4 (by decide) (hts (.fieldLink RX7 20 "UnseenClock" "faultPlace" "I") (List.mem_of_getElem? (i := 1) rfl)) (fun _ h9 => h9) rfl dX7_fault_15 ?_
      refine lv_goto (tgt := 22) hx hb dX7_fault_18 (by decide) ?_
      exact e_s (v := (-1)) hx hb hr rfl (if_neg h_1).symm hlocks dX7_fault_22
  · refine lv_aload_n hx hb dX7_fault_4 rfl (lv_at hl 0 rfl) ?_
    refine va_get (ci := 7) (v := .int 0) (C := RX7) (T := TX7) (N := 14) hx hb hts in_r_X_fault_X7 hown hK hP 0 rfl rfl 3 (by decide) (hts (.fieldLink RX7 69 "UnseenClock" "faultKind" "I") (List.mem_of_getElem? (i := 2) rfl)) (fun _ h9 => h9) rfl dX7_fault_5 ?_
    exact e_s (v := 0) hx hb hr rfl (if_pos h_1).symm hlocks dX7_fault_8

def v_r_X_back : List Cond := .code yX7_back cX7_back 2 (some .int) :: ([.fieldLink RX7 34 "UnseenClock" "images" "[LUnseenClock$Plan;"] ++ (wsX70))
theorem in_r_X_back_X7 : ∀ w ∈ u_ws RX7 TX7 14, w ∈ v_r_X_back := fun w h => List.mem_cons_of_mem _ (List.mem_append_right _ (h))
set_option maxHeartbeats 2000000 in
set_option maxRecDepth 100000 in
theorem r_X_back (l : Launch) (D : va_G) (E : Nat → ClassId) (sz : Nat) (h0 : Nat) (u : Nat → Nat) (a1 : Int32) : Met l yX7_back v_r_X_back ({ frames := 0, cells := 0, slots := 0, locals := 0 }) (va_Pc [.ref h0, .int a1] (pre D E (wX E h0 u) sz)) (vp_Si (fun r => r = if 0 ≤ a1.toInt ∧ a1.toInt ≤ 2 then -6 else -2)) 0 0 (fun _ => False) := by
  refine c_read (cc := cX7_back) (maxL := 2) (ret := (some .int)) (by decide) rfl (Nat.le_of_ble_eq_true rfl) ?_
  intro p e s m below meth c ls ⟨hx, hb, hr, hts, hown, hlocks, hin, hml⟩ hP hK hD hN hl
  have hown : s.vm.findClass RX7 = some m.cls := hown
  have hl : lv_has ls 2 [(0, .ref h0), (1, .int a1)] := hl
  rcases cs3 a1 with h_1 | rfl | rfl | rfl
  · refine lv_iload_n hx hb dX7_back_0 rfl (lv_at hl 1 rfl) ?_
    refine lv_if_lt (tgt := 9) hx hb dX7_back_1 (by decide) (fun h_2 => ?_) (fun h_2 => ?_)
    · refine lv_bipush (v := (-2)) hx hb dX7_back_9 (by decide) ?_
      exact e_s (v := (-2)) hx hb hr rfl (if_neg h_1).symm hlocks dX7_back_11
    · refine lv_iload_n hx hb dX7_back_4 rfl (lv_at hl 1 rfl) ?_
      refine lv_iconst (v := 3) hx hb dX7_back_5 (by decide) ?_
      refine lv_icmp_lt (tgt := 12) hx hb dX7_back_6 (by decide) (fun h9 => absurd h9 (nlt3 h_1 h_2)) (fun _ => ?_)
      refine lv_bipush (v := (-2)) hx hb dX7_back_9 (by decide) ?_
      exact e_s (v := (-2)) hx hb hr rfl (if_neg h_1).symm hlocks dX7_back_11
  · refine lv_iload_n hx hb dX7_back_0 rfl (lv_at hl 1 rfl) ?_
    refine lv_if_lt (tgt := 9) hx hb dX7_back_1 (by decide) (fun h9 => absurd h9 (by decide)) (fun _ => ?_)
    refine lv_iload_n hx hb dX7_back_4 rfl (lv_at hl 1 rfl) ?_
    refine lv_iconst (v := 3) hx hb dX7_back_5 (by decide) ?_
    refine lv_icmp_lt (tgt := 12) hx hb dX7_back_6 (by decide) (fun _ => ?_) (fun h9 => absurd (by decide) h9)
    refine lv_aload_n hx hb dX7_back_12 rfl (lv_at hl 0 rfl) ?_
    refine va_get (ci := 7) (v := .ref (u 6)) (C := RX7) (T := TX7) (N := 14) hx hb hts in_r_X_back_X7 hown hK hP 0 rfl rfl 7 (by decide) (hts (.fieldLink RX7 34 "UnseenClock" "images" "[LUnseenClock$Plan;") (List.mem_of_getElem? (i := 1) rfl)) (fun _ h9 => h9) rfl dX7_back_13 ?_
    refine lv_iload_n hx hb dX7_back_16 rfl (lv_at hl 1 rfl) ?_
    refine va_aldq hx hb hK hP 7 6 rfl rfl (by unfold vp_in; decide) dX7_back_17 ?_
    refine lv_tov (y := .null) rfl ?_
    refine lv_ifnonnullN hx hb dX7_back_18 ?_
    refine lv_bipush (v := (-6)) hx hb dX7_back_21 (by decide) ?_
    exact e_s (v := (-6)) hx hb hr rfl (by decide) hlocks dX7_back_23
  · refine lv_iload_n hx hb dX7_back_0 rfl (lv_at hl 1 rfl) ?_
    refine lv_if_lt (tgt := 9) hx hb dX7_back_1 (by decide) (fun h9 => absurd h9 (by decide)) (fun _ => ?_)
    refine lv_iload_n hx hb dX7_back_4 rfl (lv_at hl 1 rfl) ?_
    refine lv_iconst (v := 3) hx hb dX7_back_5 (by decide) ?_
    refine lv_icmp_lt (tgt := 12) hx hb dX7_back_6 (by decide) (fun _ => ?_) (fun h9 => absurd (by decide) h9)
    refine lv_aload_n hx hb dX7_back_12 rfl (lv_at hl 0 rfl) ?_
    refine va_get (ci := 7) (v := .ref (u 6)) (C := RX7) (T := TX7) (N := 14) hx hb hts in_r_X_back_X7 hown hK hP 0 rfl rfl 7 (by decide) (hts (.fieldLink RX7 34 "UnseenClock" "images" "[LUnseenClock$Plan;") (List.mem_of_getElem? (i := 1) rfl)) (fun _ h9 => h9) rfl dX7_back_13 ?_
    refine lv_iload_n hx hb dX7_back_16 rfl (lv_at hl 1 rfl) ?_
    refine va_aldq hx hb hK hP 7 6 rfl rfl (by unfold vp_in; decide) dX7_back_17 ?_
    refine lv_tov (y := .null) rfl ?_
    refine lv_ifnonnullN hx hb dX7_back_18 ?_
    refine lv_bipush (v := (-6)) hx hb dX7_back_21 (by decide) ?_
    exact e_s (v := (-6)) hx hb hr rfl (by decide) hlocks dX7_back_23
  · refine lv_iload_n hx hb dX7_back_0 rfl (lv_at hl 1 rfl) ?_
    refine lv_if_lt (tgt := 9) hx hb dX7_back_1 (by decide) (fun h9 => absurd h9 (by decide)) (fun _ => ?_)
    refine lv_iload_n hx hb dX7_back_4 rfl (lv_at hl 1 rfl) ?_
    refine lv_iconst (v := 3) hx hb dX7_back_5 (by decide) ?_
    refine lv_icmp_lt (tgt := 12) hx hb dX7_back_6 (by decide) (fun _ => ?_) (fun h9 => absurd (by decide) h9)
    refine lv_aload_n hx hb dX7_back_12 rfl (lv_at hl 0 rfl) ?_
    refine va_get (ci := 7) (v := .ref (u 6)) (C := RX7) (T := TX7) (N := 14) hx hb hts in_r_X_back_X7 hown hK hP 0 rfl rfl 7 (by decide) (hts (.fieldLink RX7 34 "UnseenClock" "images" "[LUnseenClock$Plan;") (List.mem_of_getElem? (i := 1) rfl)) (fun _ h9 => h9) rfl dX7_back_13 ?_
    refine lv_iload_n hx hb dX7_back_16 rfl (lv_at hl 1 rfl) ?_
    refine va_aldq hx hb hK hP 7 6 rfl rfl (by unfold vp_in; decide) dX7_back_17 ?_
    refine lv_tov (y := .null) rfl ?_
    refine lv_ifnonnullN hx hb dX7_back_18 ?_
    refine lv_bipush (v := (-6)) hx hb dX7_back_21 (by decide) ?_
    exact e_s (v := (-6)) hx hb hr rfl (by decide) hlocks dX7_back_23

def v_r_X_write : List Cond := .code yX7_write cX7_write 6 (some .int) :: ([.code yX7_noSlot cX7_noSlot 1 (some .boolean), .methodLink RX7 281 yX7_noSlot, .static yX7_noSlot, .initialized RX7, .fieldLink RX7 50 "UnseenClock" "rows" "[LUnseenClock$Row;", .fieldLink RX7 284 "UnseenClock$Row" "length" "I"] ++ (wsX70 ++ (wsX60)))
theorem in_r_X_write_X7 : ∀ w ∈ u_ws RX7 TX7 14, w ∈ v_r_X_write := fun w h => List.mem_cons_of_mem _ (List.mem_append_right _ (List.mem_append_left _ h))
theorem in_r_X_write_X6 : ∀ w ∈ u_ws RX6 TX6 3, w ∈ v_r_X_write := fun w h => List.mem_cons_of_mem _ (List.mem_append_right _ (List.mem_append_right _ (h)))
set_option maxRecDepth 20000 in
theorem g_r_X_write_r_X_noSlot : GoodIn v_r_X_write (va_wsS RX7 281 yX7_noSlot v_r_X_noSlot) := g_rows _ [2, 3, 4, 1] rfl (by decide +kernel)
set_option maxHeartbeats 2000000 in
set_option maxRecDepth 100000 in
theorem r_X_write (l : Launch) (D : va_G) (E : Nat → ClassId) (sz : Nat) (h0 : Nat) (u : Nat → Nat) (a1 : Int32) (a2 : Int32) (a3 : Int64) : Met l yX7_write v_r_X_write ({ frames := 1, cells := 0, slots := 0, locals := 20 }) (va_Pc [.ref h0, .int a1, .int a2, .long a3] (pre D E (wX E h0 u) sz)) (vp_Si (fun r => r = if 0 ≤ a1.toInt ∧ a1.toInt ≤ 3 then -6 else -2)) 0 0 (fun _ => False) := by
  refine c_read (cc := cX7_write) (maxL := 6) (ret := (some .int)) (by decide) rfl (Nat.le_of_ble_eq_true rfl) ?_
  intro p e s m below meth c ls ⟨hx, hb, hr, hts, hown, hlocks, hin, hml⟩ hP hK hD hN hl
  have hown : s.vm.findClass RX7 = some m.cls := hown
  have hl : lv_has ls 6 [(0, .ref h0), (1, .int a1), (2, .int a2), (3, .long a3)] := hl
  rcases cs4 a1 with h_1 | rfl | rfl | rfl | rfl
  · refine lv_iload_n hx hb dX7_write_0 rfl (lv_at hl 1 rfl) ?_
    refine vp_callSi (W.runS (As := [.int a1]) (rest := []) ⟨hx, hb, hml, hown, hts⟩ (r_X_noSlot l D E s.heap.size h0 u a1) (va_cwS 1 hts g_r_X_write_r_X_noSlot rfl rfl rfl (by decide +kernel) ⟨Nat.le_of_ble_eq_true rfl, Nat.le_of_ble_eq_true rfl⟩) ⟨pre_blind, pre_at hP hK hD hN⟩ rfl rfl hl.1 rfl (lv_room (Nat.le_of_ble_eq_true rfl)) dX7_write_1 ⟨Nat.le_of_ble_eq_true rfl, Nat.le_of_ble_eq_true rfl⟩) (fun r_2 er_2 => ?_)
    subst er_2
    refine lv_toc (y := 1) (if_neg h_1) ?_
    refine lv_if_eq (tgt := 10) hx hb dX7_write_4 (by decide) (fun h9 => absurd h9 (by decide)) (fun _ => ?_)
    refine lv_bipush (v := (-2)) hx hb dX7_write_7 (by decide) ?_
    exact e_s (v := (-2)) hx hb hr rfl (if_neg h_1).symm hlocks dX7_write_9
  · refine lv_iload_n hx hb dX7_write_0 rfl (lv_at hl 1 rfl) ?_
    refine vp_callSi (W.runS (As := [.int 0]) (rest := []) ⟨hx, hb, hml, hown, hts⟩ (r_X_noSlot l D E s.heap.size h0 u 0) (va_cwS 1 hts g_r_X_write_r_X_noSlot rfl rfl rfl (by decide +kernel) ⟨Nat.le_of_ble_eq_true rfl, Nat.le_of_ble_eq_true rfl⟩) ⟨pre_blind, pre_at hP hK hD hN⟩ rfl rfl hl.1 rfl (lv_room (Nat.le_of_ble_eq_true rfl)) dX7_write_1 ⟨Nat.le_of_ble_eq_true rfl, Nat.le_of_ble_eq_true rfl⟩) (fun r_4 er_4 => ?_)
    subst er_4
    refine lv_toc (y := 0) (by decide) ?_
    refine lv_if_eq (tgt := 10) hx hb dX7_write_4 (by decide) (fun _ => ?_) (fun h9 => absurd (by decide) h9)
    refine lv_aload_n hx hb dX7_write_10 rfl (lv_at hl 0 rfl) ?_
    refine va_get (ci := 7) (v := .ref (u 15)) (C := RX7) (T := TX7) (N := 14) hx hb hts in_r_X_write_X7 hown hK hP 0 rfl rfl 13 (by decide) (hts (.fieldLink RX7 50 "UnseenClock" "rows" "[LUnseenClock$Row;") (List.mem_of_getElem? (i := 5) rfl)) (fun _ h9 => h9) rfl dX7_write_11 ?_
    refine lv_iload_n hx hb dX7_write_14 rfl (lv_at hl 1 rfl) ?_
    refine va_aldq hx hb hK hP 16 7 rfl rfl (by unfold vp_in; decide) dX7_write_15 ?_
    refine lv_tov (y := .ref (u 16)) rfl ?_
    refine lv_astore (lv' := [(5, .ref (u 16)), (0, .ref h0), (1, .int 0), (2, .int a2), (3, .long a3)]) hx hb dX7_write_16 hl (by decide) rfl (fun ls hl => ?_)
    refine lv_aload hx hb dX7_write_18 (lv_at hl 0 rfl) ?_
    refine va_get (ci := 6) (v := .int (-1)) (C := RX6) (T := TX6) (N := 3) hx hb hts in_r_X_write_X6 hown hK hP 17 rfl rfl 1 (by decide) (hts (.fieldLink RX7 284 "UnseenClock$Row" "length" "I") (List.mem_of_getElem? (i := 6) rfl)) (fun _ h9 => h9) rfl dX7_write_20 ?_
    refine lv_iconst (v := (-1)) hx hb dX7_write_23 (by decide) ?_
    refine lv_icmp_ne (tgt := 30) hx hb dX7_write_24 (by decide) (fun h9 => absurd (by decide) h9) (fun _ => ?_)
    refine lv_bipush (v := (-6)) hx hb dX7_write_27 (by decide) ?_
    exact e_s (v := (-6)) hx hb hr rfl (by decide) hlocks dX7_write_29
  · refine lv_iload_n hx hb dX7_write_0 rfl (lv_at hl 1 rfl) ?_
    refine vp_callSi (W.runS (As := [.int 1]) (rest := []) ⟨hx, hb, hml, hown, hts⟩ (r_X_noSlot l D E s.heap.size h0 u 1) (va_cwS 1 hts g_r_X_write_r_X_noSlot rfl rfl rfl (by decide +kernel) ⟨Nat.le_of_ble_eq_true rfl, Nat.le_of_ble_eq_true rfl⟩) ⟨pre_blind, pre_at hP hK hD hN⟩ rfl rfl hl.1 rfl (lv_room (Nat.le_of_ble_eq_true rfl)) dX7_write_1 ⟨Nat.le_of_ble_eq_true rfl, Nat.le_of_ble_eq_true rfl⟩) (fun r_7 er_7 => ?_)
    subst er_7
    refine lv_toc (y := 0) (by decide) ?_
    refine lv_if_eq (tgt := 10) hx hb dX7_write_4 (by decide) (fun _ => ?_) (fun h9 => absurd (by decide) h9)
    refine lv_aload_n hx hb dX7_write_10 rfl (lv_at hl 0 rfl) ?_
    refine va_get (ci := 7) (v := .ref (u 15)) (C := RX7) (T := TX7) (N := 14) hx hb hts in_r_X_write_X7 hown hK hP 0 rfl rfl 13 (by decide) (hts (.fieldLink RX7 50 "UnseenClock" "rows" "[LUnseenClock$Row;") (List.mem_of_getElem? (i := 5) rfl)) (fun _ h9 => h9) rfl dX7_write_11 ?_
    refine lv_iload_n hx hb dX7_write_14 rfl (lv_at hl 1 rfl) ?_
    refine va_aldq hx hb hK hP 16 7 rfl rfl (by unfold vp_in; decide) dX7_write_15 ?_
    refine lv_tov (y := .ref (u 18)) rfl ?_
    refine lv_astore (lv' := [(5, .ref (u 18)), (0, .ref h0), (1, .int 1), (2, .int a2), (3, .long a3)]) hx hb dX7_write_16 hl (by decide) rfl (fun ls hl => ?_)
    refine lv_aload hx hb dX7_write_18 (lv_at hl 0 rfl) ?_
    refine va_get (ci := 6) (v := .int (-1)) (C := RX6) (T := TX6) (N := 3) hx hb hts in_r_X_write_X6 hown hK hP 19 rfl rfl 1 (by decide) (hts (.fieldLink RX7 284 "UnseenClock$Row" "length" "I") (List.mem_of_getElem? (i := 6) rfl)) (fun _ h9 => h9) rfl dX7_write_20 ?_
    refine lv_iconst (v := (-1)) hx hb dX7_write_23 (by decide) ?_
    refine lv_icmp_ne (tgt := 30) hx hb dX7_write_24 (by decide) (fun h9 => absurd (by decide) h9) (fun _ => ?_)
    refine lv_bipush (v := (-6)) hx hb dX7_write_27 (by decide) ?_
    exact e_s (v := (-6)) hx hb hr rfl (by decide) hlocks dX7_write_29
  · refine lv_iload_n hx hb dX7_write_0 rfl (lv_at hl 1 rfl) ?_
    refine vp_callSi (W.runS (As := [.int 2]) (rest := []) ⟨hx, hb, hml, hown, hts⟩ (r_X_noSlot l D E s.heap.size h0 u 2) (va_cwS 1 hts g_r_X_write_r_X_noSlot rfl rfl rfl (by decide +kernel) ⟨Nat.le_of_ble_eq_true rfl, Nat.le_of_ble_eq_true rfl⟩) ⟨pre_blind, pre_at hP hK hD hN⟩ rfl rfl hl.1 rfl (lv_room (Nat.le_of_ble_eq_true rfl)) dX7_write_1 ⟨Nat.le_of_ble_eq_true rfl, Nat.le_of_ble_eq_true rfl⟩) (fun r_10 er_10 => ?_)
    subst er_10
    refine lv_toc (y := 0) (by decide) ?_
    refine lv_if_eq (tgt := 10) hx hb dX7_write_4 (by decide) (fun _ => ?_) (fun h9 => absurd (by decide) h9)
    refine lv_aload_n hx hb dX7_write_10 rfl (lv_at hl 0 rfl) ?_
    refine va_get (ci := 7) (v := .ref (u 15)) (C := RX7) (T := TX7) (N := 14) hx hb hts in_r_X_write_X7 hown hK hP 0 rfl rfl 13 (by decide) (hts (.fieldLink RX7 50 "UnseenClock" "rows" "[LUnseenClock$Row;") (List.mem_of_getElem? (i := 5) rfl)) (fun _ h9 => h9) rfl dX7_write_11 ?_
    refine lv_iload_n hx hb dX7_write_14 rfl (lv_at hl 1 rfl) ?_
    refine va_aldq hx hb hK hP 16 7 rfl rfl (by unfold vp_in; decide) dX7_write_15 ?_
    refine lv_tov (y := .ref (u 20)) rfl ?_
    refine lv_astore (lv' := [(5, .ref (u 20)), (0, .ref h0), (1, .int 2), (2, .int a2), (3, .long a3)]) hx hb dX7_write_16 hl (by decide) rfl (fun ls hl => ?_)
    refine lv_aload hx hb dX7_write_18 (lv_at hl 0 rfl) ?_
    refine va_get (ci := 6) (v := .int (-1)) (C := RX6) (T := TX6) (N := 3) hx hb hts in_r_X_write_X6 hown hK hP 21 rfl rfl 1 (by decide) (hts (.fieldLink RX7 284 "UnseenClock$Row" "length" "I") (List.mem_of_getElem? (i := 6) rfl)) (fun _ h9 => h9) rfl dX7_write_20 ?_
    refine lv_iconst (v := (-1)) hx hb dX7_write_23 (by decide) ?_
    refine lv_icmp_ne (tgt := 30) hx hb dX7_write_24 (by decide) (fun h9 => absurd (by decide) h9) (fun _ => ?_)
    refine lv_bipush (v := (-6)) hx hb dX7_write_27 (by decide) ?_
    exact e_s (v := (-6)) hx hb hr rfl (by decide) hlocks dX7_write_29
  · refine lv_iload_n hx hb dX7_write_0 rfl (lv_at hl 1 rfl) ?_
    refine vp_callSi (W.runS (As := [.int 3]) (rest := []) ⟨hx, hb, hml, hown, hts⟩ (r_X_noSlot l D E s.heap.size h0 u 3) (va_cwS 1 hts g_r_X_write_r_X_noSlot rfl rfl rfl (by decide +kernel) ⟨Nat.le_of_ble_eq_true rfl, Nat.le_of_ble_eq_true rfl⟩) ⟨pre_blind, pre_at hP hK hD hN⟩ rfl rfl hl.1 rfl (lv_room (Nat.le_of_ble_eq_true rfl)) dX7_write_1 ⟨Nat.le_of_ble_eq_true rfl, Nat.le_of_ble_eq_true rfl⟩) (fun r_13 er_13 => ?_)
    subst er_13
    refine lv_toc (y := 0) (by decide) ?_
    refine lv_if_eq (tgt := 10) hx hb dX7_write_4 (by decide) (fun _ => ?_) (fun h9 => absurd (by decide) h9)
    refine lv_aload_n hx hb dX7_write_10 rfl (lv_at hl 0 rfl) ?_
    refine va_get (ci := 7) (v := .ref (u 15)) (C := RX7) (T := TX7) (N := 14) hx hb hts in_r_X_write_X7 hown hK hP 0 rfl rfl 13 (by decide) (hts (.fieldLink RX7 50 "UnseenClock" "rows" "[LUnseenClock$Row;") (List.mem_of_getElem? (i := 5) rfl)) (fun _ h9 => h9) rfl dX7_write_11 ?_
    refine lv_iload_n hx hb dX7_write_14 rfl (lv_at hl 1 rfl) ?_
    refine va_aldq hx hb hK hP 16 7 rfl rfl (by unfold vp_in; decide) dX7_write_15 ?_
    refine lv_tov (y := .ref (u 22)) rfl ?_
    refine lv_astore (lv' := [(5, .ref (u 22)), (0, .ref h0), (1, .int 3), (2, .int a2), (3, .long a3)]) hx hb dX7_write_16 hl (by decide) rfl (fun ls hl => ?_)
    refine lv_aload hx hb dX7_write_18 (lv_at hl 0 rfl) ?_
    refine va_get (ci := 6) (v := .int (-1)) (C := RX6) (T := TX6) (N := 3) hx hb hts in_r_X_write_X6 hown hK hP 23 rfl rfl 1 (by decide) (hts (.fieldLink RX7 284 "UnseenClock$Row" "length" "I") (List.mem_of_getElem? (i := 6) rfl)) (fun _ h9 => h9) rfl dX7_write_20 ?_
    refine lv_iconst (v := (-1)) hx hb dX7_write_23 (by decide) ?_
    refine lv_icmp_ne (tgt := 30) hx hb dX7_write_24 (by decide) (fun h9 => absurd (by decide) h9) (fun _ => ?_)
    refine lv_bipush (v := (-6)) hx hb dX7_write_27 (by decide) ?_
    exact e_s (v := (-6)) hx hb hr rfl (by decide) hlocks dX7_write_29

def v_r_X_paste : List Cond := .code yX7_paste cX7_paste 8 (some .int) :: ([.code yX7_noSlot cX7_noSlot 1 (some .boolean), .methodLink RX7 281 yX7_noSlot, .static yX7_noSlot, .initialized RX7, .fieldLink RX7 50 "UnseenClock" "rows" "[LUnseenClock$Row;", .fieldLink RX7 284 "UnseenClock$Row" "length" "I"] ++ (wsX70 ++ (wsX60)))
theorem in_r_X_paste_X7 : ∀ w ∈ u_ws RX7 TX7 14, w ∈ v_r_X_paste := fun w h => List.mem_cons_of_mem _ (List.mem_append_right _ (List.mem_append_left _ h))
theorem in_r_X_paste_X6 : ∀ w ∈ u_ws RX6 TX6 3, w ∈ v_r_X_paste := fun w h => List.mem_cons_of_mem _ (List.mem_append_right _ (List.mem_append_right _ (h)))
set_option maxRecDepth 20000 in
theorem g_r_X_paste_r_X_noSlot : GoodIn v_r_X_paste (va_wsS RX7 281 yX7_noSlot v_r_X_noSlot) := g_rows _ [2, 3, 4, 1] rfl (by decide +kernel)
set_option maxHeartbeats 2000000 in
set_option maxRecDepth 100000 in
theorem r_X_paste (l : Launch) (D : va_G) (E : Nat → ClassId) (sz : Nat) (h0 : Nat) (u : Nat → Nat) (a1 : Int32) (a2 : Int32) (a3 : Int32) (a4 : Int32) (a5 : Int32) : Met l yX7_paste v_r_X_paste ({ frames := 1, cells := 0, slots := 0, locals := 20 }) (va_Pc [.ref h0, .int a1, .int a2, .int a3, .int a4, .int a5] (pre D E (wX E h0 u) sz)) (vp_Si (fun r => r = if (0 ≤ a1.toInt ∧ a1.toInt ≤ 3) ∧ (0 ≤ a3.toInt ∧ a3.toInt ≤ 3) then -6 else -2)) 0 0 (fun _ => False) := by
  refine c_read (cc := cX7_paste) (maxL := 8) (ret := (some .int)) (by decide) rfl (Nat.le_of_ble_eq_true rfl) ?_
  intro p e s m below meth c ls ⟨hx, hb, hr, hts, hown, hlocks, hin, hml⟩ hP hK hD hN hl
  have hown : s.vm.findClass RX7 = some m.cls := hown
  have hl : lv_has ls 8 [(0, .ref h0), (1, .int a1), (2, .int a2), (3, .int a3), (4, .int a4), (5, .int a5)] := hl
  rcases cs4 a1 with h_1 | rfl | rfl | rfl | rfl
  · refine lv_iload_n hx hb dX7_paste_0 rfl (lv_at hl 1 rfl) ?_
    refine vp_callSi (W.runS (As := [.int a1]) (rest := []) ⟨hx, hb, hml, hown, hts⟩ (r_X_noSlot l D E s.heap.size h0 u a1) (va_cwS 1 hts g_r_X_paste_r_X_noSlot rfl rfl rfl (by decide +kernel) ⟨Nat.le_of_ble_eq_true rfl, Nat.le_of_ble_eq_true rfl⟩) ⟨pre_blind, pre_at hP hK hD hN⟩ rfl rfl hl.1 rfl (lv_room (Nat.le_of_ble_eq_true rfl)) dX7_paste_1 ⟨Nat.le_of_ble_eq_true rfl, Nat.le_of_ble_eq_true rfl⟩) (fun r_2 er_2 => ?_)
    subst er_2
    refine lv_toc (y := 1) (if_neg h_1) ?_
    refine lv_if_ne (tgt := 14) hx hb dX7_paste_4 (by decide) (fun _ => ?_) (fun h9 => absurd h9 (by decide))
    refine lv_bipush (v := (-2)) hx hb dX7_paste_14 (by decide) ?_
    exact e_s (v := (-2)) hx hb hr rfl (if_neg (fun q => h_1 q.1)).symm hlocks dX7_paste_16
  · rcases cs4 a3 with h_4 | rfl | rfl | rfl | rfl
    · refine lv_iload_n hx hb dX7_paste_0 rfl (lv_at hl 1 rfl) ?_
      refine vp_callSi (W.runS (As := [.int 0]) (rest := []) ⟨hx, hb, hml, hown, hts⟩ (r_X_noSlot l D E s.heap.size h0 u 0) (va_cwS 1 hts g_r_X_paste_r_X_noSlot rfl rfl rfl (by decide +kernel) ⟨Nat.le_of_ble_eq_true rfl, Nat.le_of_ble_eq_true rfl⟩) ⟨pre_blind, pre_at hP hK hD hN⟩ rfl rfl hl.1 rfl (lv_room (Nat.le_of_ble_eq_true rfl)) dX7_paste_1 ⟨Nat.le_of_ble_eq_true rfl, Nat.le_of_ble_eq_true rfl⟩) (fun r_5 er_5 => ?_)
      subst er_5
      refine lv_toc (y := 0) (by decide) ?_
      refine lv_if_ne (tgt := 14) hx hb dX7_paste_4 (by decide) (fun h9 => absurd (by decide) h9) (fun _ => ?_)
      refine lv_iload_n hx hb dX7_paste_7 rfl (lv_at hl 3 rfl) ?_
      refine vp_callSi (W.runS (As := [.int a3]) (rest := []) ⟨hx, hb, hml, hown, hts⟩ (r_X_noSlot l D E s.heap.size h0 u a3) (va_cwS 1 hts g_r_X_paste_r_X_noSlot rfl rfl rfl (by decide +kernel) ⟨Nat.le_of_ble_eq_true rfl, Nat.le_of_ble_eq_true rfl⟩) ⟨pre_blind, pre_at hP hK hD hN⟩ rfl rfl hl.1 rfl (lv_room (Nat.le_of_ble_eq_true rfl)) dX7_paste_8 ⟨Nat.le_of_ble_eq_true rfl, Nat.le_of_ble_eq_true rfl⟩) (fun r_7 er_7 => ?_)
      subst er_7
      refine lv_toc (y := 1) (if_neg h_4) ?_
      refine lv_if_eq (tgt := 17) hx hb dX7_paste_11 (by decide) (fun h9 => absurd h9 (by decide)) (fun _ => ?_)
      refine lv_bipush (v := (-2)) hx hb dX7_paste_14 (by decide) ?_
      exact e_s (v := (-2)) hx hb hr rfl (if_neg (fun q => h_4 q.2)).symm hlocks dX7_paste_16
    · refine lv_iload_n hx hb dX7_paste_0 rfl (lv_at hl 1 rfl) ?_
      refine vp_callSi (W.runS (As := [.int 0]) (rest := []) ⟨hx, hb, hml, hown, hts⟩ (r_X_noSlot l D E s.heap.size h0 u 0) (va_cwS 1 hts g_r_X_paste_r_X_noSlot rfl rfl rfl (by decide +kernel) ⟨Nat.le_of_ble_eq_true rfl, Nat.le_of_ble_eq_true rfl⟩) ⟨pre_blind, pre_at hP hK hD hN⟩ rfl rfl hl.1 rfl (lv_room (Nat.le_of_ble_eq_true rfl)) dX7_paste_1 ⟨Nat.le_of_ble_eq_true rfl, Nat.le_of_ble_eq_true rfl⟩) (fun r_9 er_9 => ?_)
      subst er_9
      refine lv_toc (y := 0) (by decide) ?_
      refine lv_if_ne (tgt := 14) hx hb dX7_paste_4 (by decide) (fun h9 => absurd (by decide) h9) (fun _ => ?_)
      refine lv_iload_n hx hb dX7_paste_7 rfl (lv_at hl 3 rfl) ?_
      refine vp_callSi (W.runS (As := [.int 0]) (rest := []) ⟨hx, hb, hml, hown, hts⟩ (r_X_noSlot l D E s.heap.size h0 u 0) (va_cwS 1 hts g_r_X_paste_r_X_noSlot rfl rfl rfl (by decide +kernel) ⟨Nat.le_of_ble_eq_true rfl, Nat.le_of_ble_eq_true rfl⟩) ⟨pre_blind, pre_at hP hK hD hN⟩ rfl rfl hl.1 rfl (lv_room (Nat.le_of_ble_eq_true rfl)) dX7_paste_8 ⟨Nat.le_of_ble_eq_true rfl, Nat.le_of_ble_eq_true rfl⟩) (fun r_11 er_11 => ?_)
      subst er_11
      refine lv_toc (y := 0) (by decide) ?_
      refine lv_if_eq (tgt := 17) hx hb dX7_paste_11 (by decide) (fun _ => ?_) (fun h9 => absurd (by decide) h9)
      refine lv_aload_n hx hb dX7_paste_17 rfl (lv_at hl 0 rfl) ?_
      refine va_get (ci := 7) (v := .ref (u 15)) (C := RX7) (T := TX7) (N := 14) hx hb hts in_r_X_paste_X7 hown hK hP 0 rfl rfl 13 (by decide) (hts (.fieldLink RX7 50 "UnseenClock" "rows" "[LUnseenClock$Row;") (List.mem_of_getElem? (i := 5) rfl)) (fun _ h9 => h9) rfl dX7_paste_18 ?_
      refine lv_iload_n hx hb dX7_paste_21 rfl (lv_at hl 1 rfl) ?_
      refine va_aldq hx hb hK hP 16 7 rfl rfl (by unfold vp_in; decide) dX7_paste_22 ?_
      refine lv_tov (y := .ref (u 16)) rfl ?_
      refine lv_astore (lv' := [(6, .ref (u 16)), (0, .ref h0), (1, .int 0), (2, .int a2), (3, .int 0), (4, .int a4), (5, .int a5)]) hx hb dX7_paste_23 hl (by decide) rfl (fun ls hl => ?_)
      refine lv_aload_n hx hb dX7_paste_25 rfl (lv_at hl 1 rfl) ?_
      refine va_get (ci := 7) (v := .ref (u 15)) (C := RX7) (T := TX7) (N := 14) hx hb hts in_r_X_paste_X7 hown hK hP 0 rfl rfl 13 (by decide) (hts (.fieldLink RX7 50 "UnseenClock" "rows" "[LUnseenClock$Row;") (List.mem_of_getElem? (i := 5) rfl)) (fun _ h9 => h9) rfl dX7_paste_26 ?_
      refine lv_iload_n hx hb dX7_paste_29 rfl (lv_at hl 4 rfl) ?_
      refine va_aldq hx hb hK hP 16 7 rfl rfl (by unfold vp_in; decide) dX7_paste_30 ?_
      refine lv_tov (y := .ref (u 16)) rfl ?_
      refine lv_astore (lv' := [(7, .ref (u 16)), (6, .ref (u 16)), (0, .ref h0), (1, .int 0), (2, .int a2), (3, .int 0), (4, .int a4), (5, .int a5)]) hx hb dX7_paste_31 hl (by decide) rfl (fun ls hl => ?_)
      refine lv_aload hx hb dX7_paste_33 (lv_at hl 1 rfl) ?_
      refine va_get (ci := 6) (v := .int (-1)) (C := RX6) (T := TX6) (N := 3) hx hb hts in_r_X_paste_X6 hown hK hP 17 rfl rfl 1 (by decide) (hts (.fieldLink RX7 284 "UnseenClock$Row" "length" "I") (List.mem_of_getElem? (i := 6) rfl)) (fun _ h9 => h9) rfl dX7_paste_35 ?_
      refine lv_iconst (v := (-1)) hx hb dX7_paste_38 (by decide) ?_
      refine lv_icmp_eq (tgt := 51) hx hb dX7_paste_39 (by decide) (fun _ => ?_) (fun h9 => absurd (by decide) h9)
      refine lv_bipush (v := (-6)) hx hb dX7_paste_51 (by decide) ?_
      exact e_s (v := (-6)) hx hb hr rfl (by decide) hlocks dX7_paste_53
    · refine lv_iload_n hx hb dX7_paste_0 rfl (lv_at hl 1 rfl) ?_
      refine vp_callSi (W.runS (As := [.int 0]) (rest := []) ⟨hx, hb, hml, hown, hts⟩ (r_X_noSlot l D E s.heap.size h0 u 0) (va_cwS 1 hts g_r_X_paste_r_X_noSlot rfl rfl rfl (by decide +kernel) ⟨Nat.le_of_ble_eq_true rfl, Nat.le_of_ble_eq_true rfl⟩) ⟨pre_blind, pre_at hP hK hD hN⟩ rfl rfl hl.1 rfl (lv_room (Nat.le_of_ble_eq_true rfl)) dX7_paste_1 ⟨Nat.le_of_ble_eq_true rfl, Nat.le_of_ble_eq_true rfl⟩) (fun r_14 er_14 => ?_)
      subst er_14
      refine lv_toc (y := 0) (by decide) ?_
      refine lv_if_ne (tgt := 14) hx hb dX7_paste_4 (by decide) (fun h9 => absurd (by decide) h9) (fun _ => ?_)
      refine lv_iload_n hx hb dX7_paste_7 rfl (lv_at hl 3 rfl) ?_
      refine vp_callSi (W.runS (As := [.int 1]) (rest := []) ⟨hx, hb, hml, hown, hts⟩ (r_X_noSlot l D E s.heap.size h0 u 1) (va_cwS 1 hts g_r_X_paste_r_X_noSlot rfl rfl rfl (by decide +kernel) ⟨Nat.le_of_ble_eq_true rfl, Nat.le_of_ble_eq_true rfl⟩) ⟨pre_blind, pre_at hP hK hD hN⟩ rfl rfl hl.1 rfl (lv_room (Nat.le_of_ble_eq_true rfl)) dX7_paste_8 ⟨Nat.le_of_ble_eq_true rfl, Nat.le_of_ble_eq_true rfl⟩) (fun r_16 er_16 => ?_)
      subst er_16
      refine lv_toc (y := 0) (by decide) ?_
      refine lv_if_eq (tgt := 17) hx hb dX7_paste_11 (by decide) (fun _ => ?_) (fun h9 => absurd (by decide) h9)
      refine lv_aload_n hx hb dX7_paste_17 rfl (lv_at hl 0 rfl) ?_
      refine va_get (ci := 7) (v := .ref (u 15)) (C := RX7) (T := TX7) (N := 14) hx hb hts in_r_X_paste_X7 hown hK hP 0 rfl rfl 13 (by decide) (hts (.fieldLink RX7 50 "UnseenClock" "rows" "[LUnseenClock$Row;") (List.mem_of_getElem? (i := 5) rfl)) (fun _ h9 => h9) rfl dX7_paste_18 ?_
      refine lv_iload_n hx hb dX7_paste_21 rfl (lv_at hl 1 rfl) ?_
      refine va_aldq hx hb hK hP 16 7 rfl rfl (by unfold vp_in; decide) dX7_paste_22 ?_
      refine lv_tov (y := .ref (u 16)) rfl ?_
      refine lv_astore (lv' := [(6, .ref (u 16)), (0, .ref h0), (1, .int 0), (2, .int a2), (3, .int 1), (4, .int a4), (5, .int a5)]) hx hb dX7_paste_23 hl (by decide) rfl (fun ls hl => ?_)
      refine lv_aload_n hx hb dX7_paste_25 rfl (lv_at hl 1 rfl) ?_
      refine va_get (ci := 7) (v := .ref (u 15)) (C := RX7) (T := TX7) (N := 14) hx hb hts in_r_X_paste_X7 hown hK hP 0 rfl rfl 13 (by decide) (hts (.fieldLink RX7 50 "UnseenClock" "rows" "[LUnseenClock$Row;") (List.mem_of_getElem? (i := 5) rfl)) (fun _ h9 => h9) rfl dX7_paste_26 ?_
      refine lv_iload_n hx hb dX7_paste_29 rfl (lv_at hl 4 rfl) ?_
      refine va_aldq hx hb hK hP 16 7 rfl rfl (by unfold vp_in; decide) dX7_paste_30 ?_
      refine lv_tov (y := .ref (u 18)) rfl ?_
      refine lv_astore (lv' := [(7, .ref (u 18)), (6, .ref (u 16)), (0, .ref h0), (1, .int 0), (2, .int a2), (3, .int 1), (4, .int a4), (5, .int a5)]) hx hb dX7_paste_31 hl (by decide) rfl (fun ls hl => ?_)
      refine lv_aload hx hb dX7_paste_33 (lv_at hl 1 rfl) ?_
      refine va_get (ci := 6) (v := .int (-1)) (C := RX6) (T := TX6) (N := 3) hx hb hts in_r_X_paste_X6 hown hK hP 17 rfl rfl 1 (by decide) (hts (.fieldLink RX7 284 "UnseenClock$Row" "length" "I") (List.mem_of_getElem? (i := 6) rfl)) (fun _ h9 => h9) rfl dX7_paste_35 ?_
      refine lv_iconst (v := (-1)) hx hb dX7_paste_38 (by decide) ?_
      refine lv_icmp_eq (tgt := 51) hx hb dX7_paste_39 (by decide) (fun _ => ?_) (fun h9 => absurd (by decide) h9)
      refine lv_bipush (v := (-6)) hx hb dX7_paste_51 (by decide) ?_
      exact e_s (v := (-6)) hx hb hr rfl (by decide) hlocks dX7_paste_53
    · refine lv_iload_n hx hb dX7_paste_0 rfl (lv_at hl 1 rfl) ?_
      refine vp_callSi (W.runS (As := [.int 0]) (rest := []) ⟨hx, hb, hml, hown, hts⟩ (r_X_noSlot l D E s.heap.size h0 u 0) (va_cwS 1 hts g_r_X_paste_r_X_noSlot rfl rfl rfl (by decide +kernel) ⟨Nat.le_of_ble_eq_true rfl, Nat.le_of_ble_eq_true rfl⟩) ⟨pre_blind, pre_at hP hK hD hN⟩ rfl rfl hl.1 rfl (lv_room (Nat.le_of_ble_eq_true rfl)) dX7_paste_1 ⟨Nat.le_of_ble_eq_true rfl, Nat.le_of_ble_eq_true rfl⟩) (fun r_19 er_19 => ?_)
      subst er_19
      refine lv_toc (y := 0) (by decide) ?_
      refine lv_if_ne (tgt := 14) hx hb dX7_paste_4 (by decide) (fun h9 => absurd (by decide) h9) (fun _ => ?_)
      refine lv_iload_n hx hb dX7_paste_7 rfl (lv_at hl 3 rfl) ?_
      refine vp_callSi (W.runS (As := [.int 2]) (rest := []) ⟨hx, hb, hml, hown, hts⟩ (r_X_noSlot l D E s.heap.size h0 u 2) (va_cwS 1 hts g_r_X_paste_r_X_noSlot rfl rfl rfl (by decide +kernel) ⟨Nat.le_of_ble_eq_true rfl, Nat.le_of_ble_eq_true rfl⟩) ⟨pre_blind, pre_at hP hK hD hN⟩ rfl rfl hl.1 rfl (lv_room (Nat.le_of_ble_eq_true rfl)) dX7_paste_8 ⟨Nat.le_of_ble_eq_true rfl, Nat.le_of_ble_eq_true rfl⟩) (fun r_21 er_21 => ?_)
      subst er_21
      refine lv_toc (y := 0) (by decide) ?_
      refine lv_if_eq (tgt := 17) hx hb dX7_paste_11 (by decide) (fun _ => ?_) (fun h9 => absurd (by decide) h9)
      refine lv_aload_n hx hb dX7_paste_17 rfl (lv_at hl 0 rfl) ?_
      refine va_get (ci := 7) (v := .ref (u 15)) (C := RX7) (T := TX7) (N := 14) hx hb hts in_r_X_paste_X7 hown hK hP 0 rfl rfl 13 (by decide) (hts (.fieldLink RX7 50 "UnseenClock" "rows" "[LUnseenClock$Row;") (List.mem_of_getElem? (i := 5) rfl)) (fun _ h9 => h9) rfl dX7_paste_18 ?_
      refine lv_iload_n hx hb dX7_paste_21 rfl (lv_at hl 1 rfl) ?_
      refine va_aldq hx hb hK hP 16 7 rfl rfl (by unfold vp_in; decide) dX7_paste_22 ?_
      refine lv_tov (y := .ref (u 16)) rfl ?_
      refine lv_astore (lv' := [(6, .ref (u 16)), (0, .ref h0), (1, .int 0), (2, .int a2), (3, .int 2), (4, .int a4), (5, .int a5)]) hx hb dX7_paste_23 hl (by decide) rfl (fun ls hl => ?_)
      refine lv_aload_n hx hb dX7_paste_25 rfl (lv_at hl 1 rfl) ?_
      refine va_get (ci := 7) (v := .ref (u 15)) (C := RX7) (T := TX7) (N := 14) hx hb hts in_r_X_paste_X7 hown hK hP 0 rfl rfl 13 (by decide) (hts (.fieldLink RX7 50 "UnseenClock" "rows" "[LUnseenClock$Row;") (List.mem_of_getElem? (i := 5) rfl)) (fun _ h9 => h9) rfl dX7_paste_26 ?_
      refine lv_iload_n hx hb dX7_paste_29 rfl (lv_at hl 4 rfl) ?_
      refine va_aldq hx hb hK hP 16 7 rfl rfl (by unfold vp_in; decide) dX7_paste_30 ?_
      refine lv_tov (y := .ref (u 20)) rfl ?_
      refine lv_astore (lv' := [(7, .ref (u 20)), (6, .ref (u 16)), (0, .ref h0), (1, .int 0), (2, .int a2), (3, .int 2), (4, .int a4), (5, .int a5)]) hx hb dX7_paste_31 hl (by decide) rfl (fun ls hl => ?_)
      refine lv_aload hx hb dX7_paste_33 (lv_at hl 1 rfl) ?_
      refine va_get (ci := 6) (v := .int (-1)) (C := RX6) (T := TX6) (N := 3) hx hb hts in_r_X_paste_X6 hown hK hP 17 rfl rfl 1 (by decide) (hts (.fieldLink RX7 284 "UnseenClock$Row" "length" "I") (List.mem_of_getElem? (i := 6) rfl)) (fun _ h9 => h9) rfl dX7_paste_35 ?_
      refine lv_iconst (v := (-1)) hx hb dX7_paste_38 (by decide) ?_
      refine lv_icmp_eq (tgt := 51) hx hb dX7_paste_39 (by decide) (fun _ => ?_) (fun h9 => absurd (by decide) h9)
      refine lv_bipush (v := (-6)) hx hb dX7_paste_51 (by decide) ?_
      exact e_s (v := (-6)) hx hb hr rfl (by decide) hlocks dX7_paste_53
    · refine lv_iload_n hx hb dX7_paste_0 rfl (lv_at hl 1 rfl) ?_
      refine vp_callSi (W.runS (As := [.int 0]) (rest := []) ⟨hx, hb, hml, hown, hts⟩ (r_X_noSlot l D E s.heap.size h0 u 0) (va_cwS 1 hts g_r_X_paste_r_X_noSlot rfl rfl rfl (by decide +kernel) ⟨Nat.le_of_ble_eq_true rfl, Nat.le_of_ble_eq_true rfl⟩) ⟨pre_blind, pre_at hP hK hD hN⟩ rfl rfl hl.1 rfl (lv_room (Nat.le_of_ble_eq_true rfl)) dX7_paste_1 ⟨Nat.le_of_ble_eq_true rfl, Nat.le_of_ble_eq_true rfl⟩) (fun r_24 er_24 => ?_)
      subst er_24
      refine lv_toc (y := 0) (by decide) ?_
      refine lv_if_ne (tgt := 14) hx hb dX7_paste_4 (by decide) (fun h9 => absurd (by decide) h9) (fun _ => ?_)
      refine lv_iload_n hx hb dX7_paste_7 rfl (lv_at hl 3 rfl) ?_
      refine vp_callSi (W.runS (As := [.int 3]) (rest := []) ⟨hx, hb, hml, hown, hts⟩ (r_X_noSlot l D E s.heap.size h0 u 3) (va_cwS 1 hts g_r_X_paste_r_X_noSlot rfl rfl rfl (by decide +kernel) ⟨Nat.le_of_ble_eq_true rfl, Nat.le_of_ble_eq_true rfl⟩) ⟨pre_blind, pre_at hP hK hD hN⟩ rfl rfl hl.1 rfl (lv_room (Nat.le_of_ble_eq_true rfl)) dX7_paste_8 ⟨Nat.le_of_ble_eq_true rfl, Nat.le_of_ble_eq_true rfl⟩) (fun r_26 er_26 => ?_)
      subst er_26
      refine lv_toc (y := 0) (by decide) ?_
      refine lv_if_eq (tgt := 17) hx hb dX7_paste_11 (by decide) (fun _ => ?_) (fun h9 => absurd (by decide) h9)
      refine lv_aload_n hx hb dX7_paste_17 rfl (lv_at hl 0 rfl) ?_
      refine va_get (ci := 7) (v := .ref (u 15)) (C := RX7) (T := TX7) (N := 14) hx hb hts in_r_X_paste_X7 hown hK hP 0 rfl rfl 13 (by decide) (hts (.fieldLink RX7 50 "UnseenClock" "rows" "[LUnseenClock$Row;") (List.mem_of_getElem? (i := 5) rfl)) (fun _ h9 => h9) rfl dX7_paste_18 ?_
      refine lv_iload_n hx hb dX7_paste_21 rfl (lv_at hl 1 rfl) ?_
      refine va_aldq hx hb hK hP 16 7 rfl rfl (by unfold vp_in; decide) dX7_paste_22 ?_
      refine lv_tov (y := .ref (u 16)) rfl ?_
      refine lv_astore (lv' := [(6, .ref (u 16)), (0, .ref h0), (1, .int 0), (2, .int a2), (3, .int 3), (4, .int a4), (5, .int a5)]) hx hb dX7_paste_23 hl (by decide) rfl (fun ls hl => ?_)
      refine lv_aload_n hx hb dX7_paste_25 rfl (lv_at hl 1 rfl) ?_
      refine va_get (ci := 7) (v := .ref (u 15)) (C := RX7) (T := TX7) (N := 14) hx hb hts in_r_X_paste_X7 hown hK hP 0 rfl rfl 13 (by decide) (hts (.fieldLink RX7 50 "UnseenClock" "rows" "[LUnseenClock$Row;") (List.mem_of_getElem? (i := 5) rfl)) (fun _ h9 => h9) rfl dX7_paste_26 ?_
      refine lv_iload_n hx hb dX7_paste_29 rfl (lv_at hl 4 rfl) ?_
      refine va_aldq hx hb hK hP 16 7 rfl rfl (by unfold vp_in; decide) dX7_paste_30 ?_
      refine lv_tov (y := .ref (u 22)) rfl ?_
      refine lv_astore (lv' := [(7, .ref (u 22)), (6, .ref (u 16)), (0, .ref h0), (1, .int 0), (2, .int a2), (3, .int 3), (4, .int a4), (5, .int a5)]) hx hb dX7_paste_31 hl (by decide) rfl (fun ls hl => ?_)
      refine lv_aload hx hb dX7_paste_33 (lv_at hl 1 rfl) ?_
      refine va_get (ci := 6) (v := .int (-1)) (C := RX6) (T := TX6) (N := 3) hx hb hts in_r_X_paste_X6 hown hK hP 17 rfl rfl 1 (by decide) (hts (.fieldLink RX7 284 "UnseenClock$Row" "length" "I") (List.mem_of_getElem? (i := 6) rfl)) (fun _ h9 => h9) rfl dX7_paste_35 ?_
      refine lv_iconst (v := (-1)) hx hb dX7_paste_38 (by decide) ?_
      refine lv_icmp_eq (tgt := 51) hx hb dX7_paste_39 (by decide) (fun _ => ?_) (fun h9 => absurd (by decide) h9)
      refine lv_bipush (v := (-6)) hx hb dX7_paste_51 (by decide) ?_
      exact e_s (v := (-6)) hx hb hr rfl (by decide) hlocks dX7_paste_53
  · rcases cs4 a3 with h_29 | rfl | rfl | rfl | rfl
    · refine lv_iload_n hx hb dX7_paste_0 rfl (lv_at hl 1 rfl) ?_
      refine vp_callSi (W.runS (As := [.int 1]) (rest := []) ⟨hx, hb, hml, hown, hts⟩ (r_X_noSlot l D E s.heap.size h0 u 1) (va_cwS 1 hts g_r_X_paste_r_X_noSlot rfl rfl rfl (by decide +kernel) ⟨Nat.le_of_ble_eq_true rfl, Nat.le_of_ble_eq_true rfl⟩) ⟨pre_blind, pre_at hP hK hD hN⟩ rfl rfl hl.1 rfl (lv_room (Nat.le_of_ble_eq_true rfl)) dX7_paste_1 ⟨Nat.le_of_ble_eq_true rfl, Nat.le_of_ble_eq_true rfl⟩) (fun r_30 er_30 => ?_)
      subst er_30
      refine lv_toc (y := 0) (by decide) ?_
      refine lv_if_ne (tgt := 14) hx hb dX7_paste_4 (by decide) (fun h9 => absurd (by decide) h9) (fun _ => ?_)
      refine lv_iload_n hx hb dX7_paste_7 rfl (lv_at hl 3 rfl) ?_
      refine vp_callSi (W.runS (As := [.int a3]) (rest := []) ⟨hx, hb, hml, hown, hts⟩ (r_X_noSlot l D E s.heap.size h0 u a3) (va_cwS 1 hts g_r_X_paste_r_X_noSlot rfl rfl rfl (by decide +kernel) ⟨Nat.le_of_ble_eq_true rfl, Nat.le_of_ble_eq_true rfl⟩) ⟨pre_blind, pre_at hP hK hD hN⟩ rfl rfl hl.1 rfl (lv_room (Nat.le_of_ble_eq_true rfl)) dX7_paste_8 ⟨Nat.le_of_ble_eq_true rfl, Nat.le_of_ble_eq_true rfl⟩) (fun r_32 er_32 => ?_)
      subst er_32
      refine lv_toc (y := 1) (if_neg h_29) ?_
      refine lv_if_eq (tgt := 17) hx hb dX7_paste_11 (by decide) (fun h9 => absurd h9 (by decide)) (fun _ => ?_)
      refine lv_bipush (v := (-2)) hx hb dX7_paste_14 (by decide) ?_
      exact e_s (v := (-2)) hx hb hr rfl (if_neg (fun q => h_29 q.2)).symm hlocks dX7_paste_16
    · refine lv_iload_n hx hb dX7_paste_0 rfl (lv_at hl 1 rfl) ?_
      refine vp_callSi (W.runS (As := [.int 1]) (rest := []) ⟨hx, hb, hml, hown, hts⟩ (r_X_noSlot l D E s.heap.size h0 u 1) (va_cwS 1 hts g_r_X_paste_r_X_noSlot rfl rfl rfl (by decide +kernel) ⟨Nat.le_of_ble_eq_true rfl, Nat.le_of_ble_eq_true rfl⟩) ⟨pre_blind, pre_at hP hK hD hN⟩ rfl rfl hl.1 rfl (lv_room (Nat.le_of_ble_eq_true rfl)) dX7_paste_1 ⟨Nat.le_of_ble_eq_true rfl, Nat.le_of_ble_eq_true rfl⟩) (fun r_34 er_34 => ?_)
      subst er_34
      refine lv_toc (y := 0) (by decide) ?_
      refine lv_if_ne (tgt := 14) hx hb dX7_paste_4 (by decide) (fun h9 => absurd (by decide) h9) (fun _ => ?_)
      refine lv_iload_n hx hb dX7_paste_7 rfl (lv_at hl 3 rfl) ?_
      refine vp_callSi (W.runS (As := [.int 0]) (rest := []) ⟨hx, hb, hml, hown, hts⟩ (r_X_noSlot l D E s.heap.size h0 u 0) (va_cwS 1 hts g_r_X_paste_r_X_noSlot rfl rfl rfl (by decide +kernel) ⟨Nat.le_of_ble_eq_true rfl, Nat.le_of_ble_eq_true rfl⟩) ⟨pre_blind, pre_at hP hK hD hN⟩ rfl rfl hl.1 rfl (lv_room (Nat.le_of_ble_eq_true rfl)) dX7_paste_8 ⟨Nat.le_of_ble_eq_true rfl, Nat.le_of_ble_eq_true rfl⟩) (fun r_36 er_36 => ?_)
      subst er_36
      refine lv_toc (y := 0) (by decide) ?_
      refine lv_if_eq (tgt := 17) hx hb dX7_paste_11 (by decide) (fun _ => ?_) (fun h9 => absurd (by decide) h9)
      refine lv_aload_n hx hb dX7_paste_17 rfl (lv_at hl 0 rfl) ?_
      refine va_get (ci := 7) (v := .ref (u 15)) (C := RX7) (T := TX7) (N := 14) hx hb hts in_r_X_paste_X7 hown hK hP 0 rfl rfl 13 (by decide) (hts (.fieldLink RX7 50 "UnseenClock" "rows" "[LUnseenClock$Row;") (List.mem_of_getElem? (i := 5) rfl)) (fun _ h9 => h9) rfl dX7_paste_18 ?_
      refine lv_iload_n hx hb dX7_paste_21 rfl (lv_at hl 1 rfl) ?_
      refine va_aldq hx hb hK hP 16 7 rfl rfl (by unfold vp_in; decide) dX7_paste_22 ?_
      refine lv_tov (y := .ref (u 18)) rfl ?_
      refine lv_astore (lv' := [(6, .ref (u 18)), (0, .ref h0), (1, .int 1), (2, .int a2), (3, .int 0), (4, .int a4), (5, .int a5)]) hx hb dX7_paste_23 hl (by decide) rfl (fun ls hl => ?_)
      refine lv_aload_n hx hb dX7_paste_25 rfl (lv_at hl 1 rfl) ?_
      refine va_get (ci := 7) (v := .ref (u 15)) (C := RX7) (T := TX7) (N := 14) hx hb hts in_r_X_paste_X7 hown hK hP 0 rfl rfl 13 (by decide) (hts (.fieldLink RX7 50 "UnseenClock" "rows" "[LUnseenClock$Row;") (List.mem_of_getElem? (i := 5) rfl)) (fun _ h9 => h9) rfl dX7_paste_26 ?_
      refine lv_iload_n hx hb dX7_paste_29 rfl (lv_at hl 4 rfl) ?_
      refine va_aldq hx hb hK hP 16 7 rfl rfl (by unfold vp_in; decide) dX7_paste_30 ?_
      refine lv_tov (y := .ref (u 16)) rfl ?_
      refine lv_astore (lv' := [(7, .ref (u 16)), (6, .ref (u 18)), (0, .ref h0), (1, .int 1), (2, .int a2), (3, .int 0), (4, .int a4), (5, .int a5)]) hx hb dX7_paste_31 hl (by decide) rfl (fun ls hl => ?_)
      refine lv_aload hx hb dX7_paste_33 (lv_at hl 1 rfl) ?_
      refine va_get (ci := 6) (v := .int (-1)) (C := RX6) (T := TX6) (N := 3) hx hb hts in_r_X_paste_X6 hown hK hP 19 rfl rfl 1 (by decide) (hts (.fieldLink RX7 284 "UnseenClock$Row" "length" "I") (List.mem_of_getElem? (i := 6) rfl)) (fun _ h9 => h9) rfl dX7_paste_35 ?_
      refine lv_iconst (v := (-1)) hx hb dX7_paste_38 (by decide) ?_
      refine lv_icmp_eq (tgt := 51) hx hb dX7_paste_39 (by decide) (fun _ => ?_) (fun h9 => absurd (by decide) h9)
      refine lv_bipush (v := (-6)) hx hb dX7_paste_51 (by decide) ?_
      exact e_s (v := (-6)) hx hb hr rfl (by decide) hlocks dX7_paste_53
    · refine lv_iload_n hx hb dX7_paste_0 rfl (lv_at hl 1 rfl) ?_
      refine vp_callSi (W.runS (As := [.int 1]) (rest := []) ⟨hx, hb, hml, hown, hts⟩ (r_X_noSlot l D E s.heap.size h0 u 1) (va_cwS 1 hts g_r_X_paste_r_X_noSlot rfl rfl rfl (by decide +kernel) ⟨Nat.le_of_ble_eq_true rfl, Nat.le_of_ble_eq_true rfl⟩) ⟨pre_blind, pre_at hP hK hD hN⟩ rfl rfl hl.1 rfl (lv_room (Nat.le_of_ble_eq_true rfl)) dX7_paste_1 ⟨Nat.le_of_ble_eq_true rfl, Nat.le_of_ble_eq_true rfl⟩) (fun r_39 er_39 => ?_)
      subst er_39
      refine lv_toc (y := 0) (by decide) ?_
      refine lv_if_ne (tgt := 14) hx hb dX7_paste_4 (by decide) (fun h9 => absurd (by decide) h9) (fun _ => ?_)
      refine lv_iload_n hx hb dX7_paste_7 rfl (lv_at hl 3 rfl) ?_
      refine vp_callSi (W.runS (As := [.int 1]) (rest := []) ⟨hx, hb, hml, hown, hts⟩ (r_X_noSlot l D E s.heap.size h0 u 1) (va_cwS 1 hts g_r_X_paste_r_X_noSlot rfl rfl rfl (by decide +kernel) ⟨Nat.le_of_ble_eq_true rfl, Nat.le_of_ble_eq_true rfl⟩) ⟨pre_blind, pre_at hP hK hD hN⟩ rfl rfl hl.1 rfl (lv_room (Nat.le_of_ble_eq_true rfl)) dX7_paste_8 ⟨Nat.le_of_ble_eq_true rfl, Nat.le_of_ble_eq_true rfl⟩) (fun r_41 er_41 => ?_)
      subst er_41
      refine lv_toc (y := 0) (by decide) ?_
      refine lv_if_eq (tgt := 17) hx hb dX7_paste_11 (by decide) (fun _ => ?_) (fun h9 => absurd (by decide) h9)
      refine lv_aload_n hx hb dX7_paste_17 rfl (lv_at hl 0 rfl) ?_
      refine va_get (ci := 7) (v := .ref (u 15)) (C := RX7) (T := TX7) (N := 14) hx hb hts in_r_X_paste_X7 hown hK hP 0 rfl rfl 13 (by decide) (hts (.fieldLink RX7 50 "UnseenClock" "rows" "[LUnseenClock$Row;") (List.mem_of_getElem? (i := 5) rfl)) (fun _ h9 => h9) rfl dX7_paste_18 ?_
      refine lv_iload_n hx hb dX7_paste_21 rfl (lv_at hl 1 rfl) ?_
      refine va_aldq hx hb hK hP 16 7 rfl rfl (by unfold vp_in; decide) dX7_paste_22 ?_
      refine lv_tov (y := .ref (u 18)) rfl ?_
      refine lv_astore (lv' := [(6, .ref (u 18)), (0, .ref h0), (1, .int 1), (2, .int a2), (3, .int 1), (4, .int a4), (5, .int a5)]) hx hb dX7_paste_23 hl (by decide) rfl (fun ls hl => ?_)
      refine lv_aload_n hx hb dX7_paste_25 rfl (lv_at hl 1 rfl) ?_
      refine va_get (ci := 7) (v := .ref (u 15)) (C := RX7) (T := TX7) (N := 14) hx hb hts in_r_X_paste_X7 hown hK hP 0 rfl rfl 13 (by decide) (hts (.fieldLink RX7 50 "UnseenClock" "rows" "[LUnseenClock$Row;") (List.mem_of_getElem? (i := 5) rfl)) (fun _ h9 => h9) rfl dX7_paste_26 ?_
      refine lv_iload_n hx hb dX7_paste_29 rfl (lv_at hl 4 rfl) ?_
      refine va_aldq hx hb hK hP 16 7 rfl rfl (by unfold vp_in; decide) dX7_paste_30 ?_
      refine lv_tov (y := .ref (u 18)) rfl ?_
      refine lv_astore (lv' := [(7, .ref (u 18)), (6, .ref (u 18)), (0, .ref h0), (1, .int 1), (2, .int a2), (3, .int 1), (4, .int a4), (5, .int a5)]) hx hb dX7_paste_31 hl (by decide) rfl (fun ls hl => ?_)
      refine lv_aload hx hb dX7_paste_33 (lv_at hl 1 rfl) ?_
      refine va_get (ci := 6) (v := .int (-1)) (C := RX6) (T := TX6) (N := 3) hx hb hts in_r_X_paste_X6 hown hK hP 19 rfl rfl 1 (by decide) (hts (.fieldLink RX7 284 "UnseenClock$Row" "length" "I") (List.mem_of_getElem? (i := 6) rfl)) (fun _ h9 => h9) rfl dX7_paste_35 ?_
      refine lv_iconst (v := (-1)) hx hb dX7_paste_38 (by decide) ?_
      refine lv_icmp_eq (tgt := 51) hx hb dX7_paste_39 (by decide) (fun _ => ?_) (fun h9 => absurd (by decide) h9)
      refine lv_bipush (v := (-6)) hx hb dX7_paste_51 (by decide) ?_
      exact e_s (v := (-6)) hx hb hr rfl (by decide) hlocks dX7_paste_53
    · refine lv_iload_n hx hb dX7_paste_0 rfl (lv_at hl 1 rfl) ?_
      refine vp_callSi (W.runS (As := [.int 1]) (rest := []) ⟨hx, hb, hml, hown, hts⟩ (r_X_noSlot l D E s.heap.size h0 u 1) (va_cwS 1 hts g_r_X_paste_r_X_noSlot rfl rfl rfl (by decide +kernel) ⟨Nat.le_of_ble_eq_true rfl, Nat.le_of_ble_eq_true rfl⟩) ⟨pre_blind, pre_at hP hK hD hN⟩ rfl rfl hl.1 rfl (lv_room (Nat.le_of_ble_eq_true rfl)) dX7_paste_1 ⟨Nat.le_of_ble_eq_true rfl, Nat.le_of_ble_eq_true rfl⟩) (fun r_44 er_44 => ?_)
      subst er_44
      refine lv_toc (y := 0) (by decide) ?_
      refine lv_if_ne (tgt := 14) hx hb dX7_paste_4 (by decide) (fun h9 => absurd (by decide) h9) (fun _ => ?_)
      refine lv_iload_n hx hb dX7_paste_7 rfl (lv_at hl 3 rfl) ?_
      refine vp_callSi (W.runS (As := [.int 2]) (rest := []) ⟨hx, hb, hml, hown, hts⟩ (r_X_noSlot l D E s.heap.size h0 u 2) (va_cwS 1 hts g_r_X_paste_r_X_noSlot rfl rfl rfl (by decide +kernel) ⟨Nat.le_of_ble_eq_true rfl, Nat.le_of_ble_eq_true rfl⟩) ⟨pre_blind, pre_at hP hK hD hN⟩ rfl rfl hl.1 rfl (lv_room (Nat.le_of_ble_eq_true rfl)) dX7_paste_8 ⟨Nat.le_of_ble_eq_true rfl, Nat.le_of_ble_eq_true rfl⟩) (fun r_46 er_46 => ?_)
      subst er_46
      refine lv_toc (y := 0) (by decide) ?_
      refine lv_if_eq (tgt := 17) hx hb dX7_paste_11 (by decide) (fun _ => ?_) (fun h9 => absurd (by decide) h9)
      refine lv_aload_n hx hb dX7_paste_17 rfl (lv_at hl 0 rfl) ?_
      refine va_get (ci := 7) (v := .ref (u 15)) (C := RX7) (T := TX7) (N := 14) hx hb hts in_r_X_paste_X7 hown hK hP 0 rfl rfl 13 (by decide) (hts (.fieldLink RX7 50 "UnseenClock" "rows" "[LUnseenClock$Row;") (List.mem_of_getElem? (i := 5) rfl)) (fun _ h9 => h9) rfl dX7_paste_18 ?_
      refine lv_iload_n hx hb dX7_paste_21 rfl (lv_at hl 1 rfl) ?_
      refine va_aldq hx hb hK hP 16 7 rfl rfl (by unfold vp_in; decide) dX7_paste_22 ?_
      refine lv_tov (y := .ref (u 18)) rfl ?_
      refine lv_astore (lv' := [(6, .ref (u 18)), (0, .ref h0), (1, .int 1), (2, .int a2), (3, .int 2), (4, .int a4), (5, .int a5)]) hx hb dX7_paste_23 hl (by decide) rfl (fun ls hl => ?_)
      refine lv_aload_n hx hb dX7_paste_25 rfl (lv_at hl 1 rfl) ?_
      refine va_get (ci := 7) (v := .ref (u 15)) (C := RX7) (T := TX7) (N := 14) hx hb hts in_r_X_paste_X7 hown hK hP 0 rfl rfl 13 (by decide) (hts (.fieldLink RX7 50 "UnseenClock" "rows" "[LUnseenClock$Row;") (List.mem_of_getElem? (i := 5) rfl)) (fun _ h9 => h9) rfl dX7_paste_26 ?_
      refine lv_iload_n hx hb dX7_paste_29 rfl (lv_at hl 4 rfl) ?_
      refine va_aldq hx hb hK hP 16 7 rfl rfl (by unfold vp_in; decide) dX7_paste_30 ?_
      refine lv_tov (y := .ref (u 20)) rfl ?_
      refine lv_astore (lv' := [(7, .ref (u 20)), (6, .ref (u 18)), (0, .ref h0), (1, .int 1), (2, .int a2), (3, .int 2), (4, .int a4), (5, .int a5)]) hx hb dX7_paste_31 hl (by decide) rfl (fun ls hl => ?_)
      refine lv_aload hx hb dX7_paste_33 (lv_at hl 1 rfl) ?_
      refine va_get (ci := 6) (v := .int (-1)) (C := RX6) (T := TX6) (N := 3) hx hb hts in_r_X_paste_X6 hown hK hP 19 rfl rfl 1 (by decide) (hts (.fieldLink RX7 284 "UnseenClock$Row" "length" "I") (List.mem_of_getElem? (i := 6) rfl)) (fun _ h9 => h9) rfl dX7_paste_35 ?_
      refine lv_iconst (v := (-1)) hx hb dX7_paste_38 (by decide) ?_
      refine lv_icmp_eq (tgt := 51) hx hb dX7_paste_39 (by decide) (fun _ => ?_) (fun h9 => absurd (by decide) h9)
      refine lv_bipush (v := (-6)) hx hb dX7_paste_51 (by decide) ?_
      exact e_s (v := (-6)) hx hb hr rfl (by decide) hlocks dX7_paste_53
    · refine lv_iload_n hx hb dX7_paste_0 rfl (lv_at hl 1 rfl) ?_
      refine vp_callSi (W.runS (As := [.int 1]) (rest := []) ⟨hx, hb, hml, hown, hts⟩ (r_X_noSlot l D E s.heap.size h0 u 1) (va_cwS 1 hts g_r_X_paste_r_X_noSlot rfl rfl rfl (by decide +kernel) ⟨Nat.le_of_ble_eq_true rfl, Nat.le_of_ble_eq_true rfl⟩) ⟨pre_blind, pre_at hP hK hD hN⟩ rfl rfl hl.1 rfl (lv_room (Nat.le_of_ble_eq_true rfl)) dX7_paste_1 ⟨Nat.le_of_ble_eq_true rfl, Nat.le_of_ble_eq_true rfl⟩) (fun r_49 er_49 => ?_)
      subst er_49
      refine lv_toc (y := 0) (by decide) ?_
      refine lv_if_ne (tgt := 14) hx hb dX7_paste_4 (by decide) (fun h9 => absurd (by decide) h9) (fun _ => ?_)
      refine lv_iload_n hx hb dX7_paste_7 rfl (lv_at hl 3 rfl) ?_
      refine vp_callSi (W.runS (As := [.int 3]) (rest := []) ⟨hx, hb, hml, hown, hts⟩ (r_X_noSlot l D E s.heap.size h0 u 3) (va_cwS 1 hts g_r_X_paste_r_X_noSlot rfl rfl rfl (by decide +kernel) ⟨Nat.le_of_ble_eq_true rfl, Nat.le_of_ble_eq_true rfl⟩) ⟨pre_blind, pre_at hP hK hD hN⟩ rfl rfl hl.1 rfl (lv_room (Nat.le_of_ble_eq_true rfl)) dX7_paste_8 ⟨Nat.le_of_ble_eq_true rfl, Nat.le_of_ble_eq_true rfl⟩) (fun r_51 er_51 => ?_)
      subst er_51
      refine lv_toc (y := 0) (by decide) ?_
      refine lv_if_eq (tgt := 17) hx hb dX7_paste_11 (by decide) (fun _ => ?_) (fun h9 => absurd (by decide) h9)
      refine lv_aload_n hx hb dX7_paste_17 rfl (lv_at hl 0 rfl) ?_
      refine va_get (ci := 7) (v := .ref (u 15)) (C := RX7) (T := TX7) (N := 14) hx hb hts in_r_X_paste_X7 hown hK hP 0 rfl rfl 13 (by decide) (hts (.fieldLink RX7 50 "UnseenClock" "rows" "[LUnseenClock$Row;") (List.mem_of_getElem? (i := 5) rfl)) (fun _ h9 => h9) rfl dX7_paste_18 ?_
      refine lv_iload_n hx hb dX7_paste_21 rfl (lv_at hl 1 rfl) ?_
      refine va_aldq hx hb hK hP 16 7 rfl rfl (by unfold vp_in; decide) dX7_paste_22 ?_
      refine lv_tov (y := .ref (u 18)) rfl ?_
      refine lv_astore (lv' := [(6, .ref (u 18)), (0, .ref h0), (1, .int 1), (2, .int a2), (3, .int 3), (4, .int a4), (5, .int a5)]) hx hb dX7_paste_23 hl (by decide) rfl (fun ls hl => ?_)
      refine lv_aload_n hx hb dX7_paste_25 rfl (lv_at hl 1 rfl) ?_
      refine va_get (ci := 7) (v := .ref (u 15)) (C := RX7) (T := TX7) (N := 14) hx hb hts in_r_X_paste_X7 hown hK hP 0 rfl rfl 13 (by decide) (hts (.fieldLink RX7 50 "UnseenClock" "rows" "[LUnseenClock$Row;") (List.mem_of_getElem? (i := 5) rfl)) (fun _ h9 => h9) rfl dX7_paste_26 ?_
      refine lv_iload_n hx hb dX7_paste_29 rfl (lv_at hl 4 rfl) ?_
      refine va_aldq hx hb hK hP 16 7 rfl rfl (by unfold vp_in; decide) dX7_paste_30 ?_
      refine lv_tov (y := .ref (u 22)) rfl ?_
      refine lv_astore (lv' := [(7, .ref (u 22)), (6, .ref (u 18)), (0, .ref h0), (1, .int 1), (2, .int a2), (3, .int 3), (4, .int a4), (5, .int a5)]) hx hb dX7_paste_31 hl (by decide) rfl (fun ls hl => ?_)
      refine lv_aload hx hb dX7_paste_33 (lv_at hl 1 rfl) ?_
      refine va_get (ci := 6) (v := .int (-1)) (C := RX6) (T := TX6) (N := 3) hx hb hts in_r_X_paste_X6 hown hK hP 19 rfl rfl 1 (by decide) (hts (.fieldLink RX7 284 "UnseenClock$Row" "length" "I") (List.mem_of_getElem? (i := 6) rfl)) (fun _ h9 => h9) rfl dX7_paste_35 ?_
      refine lv_iconst (v := (-1)) hx hb dX7_paste_38 (by decide) ?_
      refine lv_icmp_eq (tgt := 51) hx hb dX7_paste_39 (by decide) (fun _ => ?_) (fun h9 => absurd (by decide) h9)
      refine lv_bipush (v := (-6)) hx hb dX7_paste_51 (by decide) ?_
      exact e_s (v := (-6)) hx hb hr rfl (by decide) hlocks dX7_paste_53
  · rcases cs4 a3 with h_54 | rfl | rfl | rfl | rfl
    · refine lv_iload_n hx hb dX7_paste_0 rfl (lv_at hl 1 rfl) ?_
      refine vp_callSi (W.runS (As := [.int 2]) (rest := []) ⟨hx, hb, hml, hown, hts⟩ (r_X_noSlot l D E s.heap.size h0 u 2) (va_cwS 1 hts g_r_X_paste_r_X_noSlot rfl rfl rfl (by decide +kernel) ⟨Nat.le_of_ble_eq_true rfl, Nat.le_of_ble_eq_true rfl⟩) ⟨pre_blind, pre_at hP hK hD hN⟩ rfl rfl hl.1 rfl (lv_room (Nat.le_of_ble_eq_true rfl)) dX7_paste_1 ⟨Nat.le_of_ble_eq_true rfl, Nat.le_of_ble_eq_true rfl⟩) (fun r_55 er_55 => ?_)
      subst er_55
      refine lv_toc (y := 0) (by decide) ?_
      refine lv_if_ne (tgt := 14) hx hb dX7_paste_4 (by decide) (fun h9 => absurd (by decide) h9) (fun _ => ?_)
      refine lv_iload_n hx hb dX7_paste_7 rfl (lv_at hl 3 rfl) ?_
      refine vp_callSi (W.runS (As := [.int a3]) (rest := []) ⟨hx, hb, hml, hown, hts⟩ (r_X_noSlot l D E s.heap.size h0 u a3) (va_cwS 1 hts g_r_X_paste_r_X_noSlot rfl rfl rfl (by decide +kernel) ⟨Nat.le_of_ble_eq_true rfl, Nat.le_of_ble_eq_true rfl⟩) ⟨pre_blind, pre_at hP hK hD hN⟩ rfl rfl hl.1 rfl (lv_room (Nat.le_of_ble_eq_true rfl)) dX7_paste_8 ⟨Nat.le_of_ble_eq_true rfl, Nat.le_of_ble_eq_true rfl⟩) (fun r_57 er_57 => ?_)
      subst er_57
      refine lv_toc (y := 1) (if_neg h_54) ?_
      refine lv_if_eq (tgt := 17) hx hb dX7_paste_11 (by decide) (fun h9 => absurd h9 (by decide)) (fun _ => ?_)
      refine lv_bipush (v := (-2)) hx hb dX7_paste_14 (by decide) ?_
      exact e_s (v := (-2)) hx hb hr rfl (if_neg (fun q => h_54 q.2)).symm hlocks dX7_paste_16
    · refine lv_iload_n hx hb dX7_paste_0 rfl (lv_at hl 1 rfl) ?_
      refine vp_callSi (W.runS (As := [.int 2]) (rest := []) ⟨hx, hb, hml, hown, hts⟩ (r_X_noSlot l D E s.heap.size h0 u 2) (va_cwS 1 hts g_r_X_paste_r_X_noSlot rfl rfl rfl (by decide +kernel) ⟨Nat.le_of_ble_eq_true rfl, Nat.le_of_ble_eq_true rfl⟩) ⟨pre_blind, pre_at hP hK hD hN⟩ rfl rfl hl.1 rfl (lv_room (Nat.le_of_ble_eq_true rfl)) dX7_paste_1 ⟨Nat.le_of_ble_eq_true rfl, Nat.le_of_ble_eq_true rfl⟩) (fun r_59 er_59 => ?_)
      subst er_59
      refine lv_toc (y := 0) (by decide) ?_
      refine lv_if_ne (tgt := 14) hx hb dX7_paste_4 (by decide) (fun h9 => absurd (by decide) h9) (fun _ => ?_)
      refine lv_iload_n hx hb dX7_paste_7 rfl (lv_at hl 3 rfl) ?_
      refine vp_callSi (W.runS (As := [.int 0]) (rest := []) ⟨hx, hb, hml, hown, hts⟩ (r_X_noSlot l D E s.heap.size h0 u 0) (va_cwS 1 hts g_r_X_paste_r_X_noSlot rfl rfl rfl (by decide +kernel) ⟨Nat.le_of_ble_eq_true rfl, Nat.le_of_ble_eq_true rfl⟩) ⟨pre_blind, pre_at hP hK hD hN⟩ rfl rfl hl.1 rfl (lv_room (Nat.le_of_ble_eq_true rfl)) dX7_paste_8 ⟨Nat.le_of_ble_eq_true rfl, Nat.le_of_ble_eq_true rfl⟩) (fun r_61 er_61 => ?_)
      subst er_61
      refine lv_toc (y := 0) (by decide) ?_
      refine lv_if_eq (tgt := 17) hx hb dX7_paste_11 (by decide) (fun _ => ?_) (fun h9 => absurd (by decide) h9)
      refine lv_aload_n hx hb dX7_paste_17 rfl (lv_at hl 0 rfl) ?_
      refine va_get (ci := 7) (v := .ref (u 15)) (C := RX7) (T := TX7) (N := 14) hx hb hts in_r_X_paste_X7 hown hK hP 0 rfl rfl 13 (by decide) (hts (.fieldLink RX7 50 "UnseenClock" "rows" "[LUnseenClock$Row;") (List.mem_of_getElem? (i := 5) rfl)) (fun _ h9 => h9) rfl dX7_paste_18 ?_
      refine lv_iload_n hx hb dX7_paste_21 rfl (lv_at hl 1 rfl) ?_
      refine va_aldq hx hb hK hP 16 7 rfl rfl (by unfold vp_in; decide) dX7_paste_22 ?_
      refine lv_tov (y := .ref (u 20)) rfl ?_
      refine lv_astore (lv' := [(6, .ref (u 20)), (0, .ref h0), (1, .int 2), (2, .int a2), (3, .int 0), (4, .int a4), (5, .int a5)]) hx hb dX7_paste_23 hl (by decide) rfl (fun ls hl => ?_)
      refine lv_aload_n hx hb dX7_paste_25 rfl (lv_at hl 1 rfl) ?_
      refine va_get (ci := 7) (v := .ref (u 15)) (C := RX7) (T := TX7) (N := 14) hx hb hts in_r_X_paste_X7 hown hK hP 0 rfl rfl 13 (by decide) (hts (.fieldLink RX7 50 "UnseenClock" "rows" "[LUnseenClock$Row;") (List.mem_of_getElem? (i := 5) rfl)) (fun _ h9 => h9) rfl dX7_paste_26 ?_
      refine lv_iload_n hx hb dX7_paste_29 rfl (lv_at hl 4 rfl) ?_
      refine va_aldq hx hb hK hP 16 7 rfl rfl (by unfold vp_in; decide) dX7_paste_30 ?_
      refine lv_tov (y := .ref (u 16)) rfl ?_
      refine lv_astore (lv' := [(7, .ref (u 16)), (6, .ref (u 20)), (0, .ref h0), (1, .int 2), (2, .int a2), (3, .int 0), (4, .int a4), (5, .int a5)]) hx hb dX7_paste_31 hl (by decide) rfl (fun ls hl => ?_)
      refine lv_aload hx hb dX7_paste_33 (lv_at hl 1 rfl) ?_
      refine va_get (ci := 6) (v := .int (-1)) (C := RX6) (T := TX6) (N := 3) hx hb hts in_r_X_paste_X6 hown hK hP 21 rfl rfl 1 (by decide) (hts (.fieldLink RX7 284 "UnseenClock$Row" "length" "I") (List.mem_of_getElem? (i := 6) rfl)) (fun _ h9 => h9) rfl dX7_paste_35 ?_
      refine lv_iconst (v := (-1)) hx hb dX7_paste_38 (by decide) ?_
      refine lv_icmp_eq (tgt := 51) hx hb dX7_paste_39 (by decide) (fun _ => ?_) (fun h9 => absurd (by decide) h9)
      refine lv_bipush (v := (-6)) hx hb dX7_paste_51 (by decide) ?_
      exact e_s (v := (-6)) hx hb hr rfl (by decide) hlocks dX7_paste_53
    · refine lv_iload_n hx hb dX7_paste_0 rfl (lv_at hl 1 rfl) ?_
      refine vp_callSi (W.runS (As := [.int 2]) (rest := []) ⟨hx, hb, hml, hown, hts⟩ (r_X_noSlot l D E s.heap.size h0 u 2) (va_cwS 1 hts g_r_X_paste_r_X_noSlot rfl rfl rfl (by decide +kernel) ⟨Nat.le_of_ble_eq_true rfl, Nat.le_of_ble_eq_true rfl⟩) ⟨pre_blind, pre_at hP hK hD hN⟩ rfl rfl hl.1 rfl (lv_room (Nat.le_of_ble_eq_true rfl)) dX7_paste_1 ⟨Nat.le_of_ble_eq_true rfl, Nat.le_of_ble_eq_true rfl⟩) (fun r_64 er_64 => ?_)
      subst er_64
      refine lv_toc (y := 0) (by decide) ?_
      refine lv_if_ne (tgt := 14) hx hb dX7_paste_4 (by decide) (fun h9 => absurd (by decide) h9) (fun _ => ?_)
      refine lv_iload_n hx hb dX7_paste_7 rfl (lv_at hl 3 rfl) ?_
      refine vp_callSi (W.runS (As := [.int 1]) (rest := []) ⟨hx, hb, hml, hown, hts⟩ (r_X_noSlot l D E s.heap.size h0 u 1) (va_cwS 1 hts g_r_X_paste_r_X_noSlot rfl rfl rfl (by decide +kernel) ⟨Nat.le_of_ble_eq_true rfl, Nat.le_of_ble_eq_true rfl⟩) ⟨pre_blind, pre_at hP hK hD hN⟩ rfl rfl hl.1 rfl (lv_room (Nat.le_of_ble_eq_true rfl)) dX7_paste_8 ⟨Nat.le_of_ble_eq_true rfl, Nat.le_of_ble_eq_true rfl⟩) (fun r_66 er_66 => ?_)
      subst er_66
      refine lv_toc (y := 0) (by decide) ?_
      refine lv_if_eq (tgt := 17) hx hb dX7_paste_11 (by decide) (fun _ => ?_) (fun h9 => absurd (by decide) h9)
      refine lv_aload_n hx hb dX7_paste_17 rfl (lv_at hl 0 rfl) ?_
      refine va_get (ci := 7) (v := .ref (u 15)) (C := RX7) (T := TX7) (N := 14) hx hb hts in_r_X_paste_X7 hown hK hP 0 rfl rfl 13 (by decide) (hts (.fieldLink RX7 50 "UnseenClock" "rows" "[LUnseenClock$Row;") (List.mem_of_getElem? (i := 5) rfl)) (fun _ h9 => h9) rfl dX7_paste_18 ?_
      refine lv_iload_n hx hb dX7_paste_21 rfl (lv_at hl 1 rfl) ?_
      refine va_aldq hx hb hK hP 16 7 rfl rfl (by unfold vp_in; decide) dX7_paste_22 ?_
      refine lv_tov (y := .ref (u 20)) rfl ?_
      refine lv_astore (lv' := [(6, .ref (u 20)), (0, .ref h0), (1, .int 2), (2, .int a2), (3, .int 1), (4, .int a4), (5, .int a5)]) hx hb dX7_paste_23 hl (by decide) rfl (fun ls hl => ?_)
      refine lv_aload_n hx hb dX7_paste_25 rfl (lv_at hl 1 rfl) ?_
      refine va_get (ci := 7) (v := .ref (u 15)) (C := RX7) (T := TX7) (N := 14) hx hb hts in_r_X_paste_X7 hown hK hP 0 rfl rfl 13 (by decide) (hts (.fieldLink RX7 50 "UnseenClock" "rows" "[LUnseenClock$Row;") (List.mem_of_getElem? (i := 5) rfl)) (fun _ h9 => h9) rfl dX7_paste_26 ?_
      refine lv_iload_n hx hb dX7_paste_29 rfl (lv_at hl 4 rfl) ?_
      refine va_aldq hx hb hK hP 16 7 rfl rfl (by unfold vp_in; decide) dX7_paste_30 ?_
      refine lv_tov (y := .ref (u 18)) rfl ?_
      refine lv_astore (lv' := [(7, .ref (u 18)), (6, .ref (u 20)), (0, .ref h0), (1, .int 2), (2, .int a2), (3, .int 1), (4, .int a4), (5, .int a5)]) hx hb dX7_paste_31 hl (by decide) rfl (fun ls hl => ?_)
      refine lv_aload hx hb dX7_paste_33 (lv_at hl 1 rfl) ?_
      refine va_get (ci := 6) (v := .int (-1)) (C := RX6) (T := TX6) (N := 3) hx hb hts in_r_X_paste_X6 hown hK hP 21 rfl rfl 1 (by decide) (hts (.fieldLink RX7 284 "UnseenClock$Row" "length" "I") (List.mem_of_getElem? (i := 6) rfl)) (fun _ h9 => h9) rfl dX7_paste_35 ?_
      refine lv_iconst (v := (-1)) hx hb dX7_paste_38 (by decide) ?_
      refine lv_icmp_eq (tgt := 51) hx hb dX7_paste_39 (by decide) (fun _ => ?_) (fun h9 => absurd (by decide) h9)
      refine lv_bipush (v := (-6)) hx hb dX7_paste_51 (by decide) ?_
      exact e_s (v := (-6)) hx hb hr rfl (by decide) hlocks dX7_paste_53
    · refine lv_iload_n hx hb dX7_paste_0 rfl (lv_at hl 1 rfl) ?_
      refine vp_callSi (W.runS (As := [.int 2]) (rest := []) ⟨hx, hb, hml, hown, hts⟩ (r_X_noSlot l D E s.heap.size h0 u 2) (va_cwS 1 hts g_r_X_paste_r_X_noSlot rfl rfl rfl (by decide +kernel) ⟨Nat.le_of_ble_eq_true rfl, Nat.le_of_ble_eq_true rfl⟩) ⟨pre_blind, pre_at hP hK hD hN⟩ rfl rfl hl.1 rfl (lv_room (Nat.le_of_ble_eq_true rfl)) dX7_paste_1 ⟨Nat.le_of_ble_eq_true rfl, Nat.le_of_ble_eq_true rfl⟩) (fun r_69 er_69 => ?_)
      subst er_69
      refine lv_toc (y := 0) (by decide) ?_
      refine lv_if_ne (tgt := 14) hx hb dX7_paste_4 (by decide) (fun h9 => absurd (by decide) h9) (fun _ => ?_)
      refine lv_iload_n hx hb dX7_paste_7 rfl (lv_at hl 3 rfl) ?_
      refine vp_callSi (W.runS (As := [.int 2]) (rest := []) ⟨hx, hb, hml, hown, hts⟩ (r_X_noSlot l D E s.heap.size h0 u 2) (va_cwS 1 hts g_r_X_paste_r_X_noSlot rfl rfl rfl (by decide +kernel) ⟨Nat.le_of_ble_eq_true rfl, Nat.le_of_ble_eq_true rfl⟩) ⟨pre_blind, pre_at hP hK hD hN⟩ rfl rfl hl.1 rfl (lv_room (Nat.le_of_ble_eq_true rfl)) dX7_paste_8 ⟨Nat.le_of_ble_eq_true rfl, Nat.le_of_ble_eq_true rfl⟩) (fun r_71 er_71 => ?_)
      subst er_71
      refine lv_toc (y := 0) (by decide) ?_
      refine lv_if_eq (tgt := 17) hx hb dX7_paste_11 (by decide) (fun _ => ?_) (fun h9 => absurd (by decide) h9)
      refine lv_aload_n hx hb dX7_paste_17 rfl (lv_at hl 0 rfl) ?_
      refine va_get (ci := 7) (v := .ref (u 15)) (C := RX7) (T := TX7) (N := 14) hx hb hts in_r_X_paste_X7 hown hK hP 0 rfl rfl 13 (by decide) (hts (.fieldLink RX7 50 "UnseenClock" "rows" "[LUnseenClock$Row;") (List.mem_of_getElem? (i := 5) rfl)) (fun _ h9 => h9) rfl dX7_paste_18 ?_
      refine lv_iload_n hx hb dX7_paste_21 rfl (lv_at hl 1 rfl) ?_
      refine va_aldq hx hb hK hP 16 7 rfl rfl (by unfold vp_in; decide) dX7_paste_22 ?_
      refine lv_tov (y := .ref (u 20)) rfl ?_
      refine lv_astore (lv' := [(6, .ref (u 20)), (0, .ref h0), (1, .int 2), (2, .int a2), (3, .int 2), (4, .int a4), (5, .int a5)]) hx hb dX7_paste_23 hl (by decide) rfl (fun ls hl => ?_)
      refine lv_aload_n hx hb dX7_paste_25 rfl (lv_at hl 1 rfl) ?_
      refine va_get (ci := 7) (v := .ref (u 15)) (C := RX7) (T := TX7) (N := 14) hx hb hts in_r_X_paste_X7 hown hK hP 0 rfl rfl 13 (by decide) (hts (.fieldLink RX7 50 "UnseenClock" "rows" "[LUnseenClock$Row;") (List.mem_of_getElem? (i := 5) rfl)) (fun _ h9 => h9) rfl dX7_paste_26 ?_
      refine lv_iload_n hx hb dX7_paste_29 rfl (lv_at hl 4 rfl) ?_
      refine va_aldq hx hb hK hP 16 7 rfl rfl (by unfold vp_in; decide) dX7_paste_30 ?_
      refine lv_tov (y := .ref (u 20)) rfl ?_
      refine lv_astore (lv' := [(7, .ref (u 20)), (6, .ref (u 20)), (0, .ref h0), (1, .int 2), (2, .int a2), (3, .int 2), (4, .int a4), (5, .int a5)]) hx hb dX7_paste_31 hl (by decide) rfl (fun ls hl => ?_)
      refine lv_aload hx hb dX7_paste_33 (lv_at hl 1 rfl) ?_
      refine va_get (ci := 6) (v := .int (-1)) (C := RX6) (T := TX6) (N := 3) hx hb hts in_r_X_paste_X6 hown hK hP 21 rfl rfl 1 (by decide) (hts (.fieldLink RX7 284 "UnseenClock$Row" "length" "I") (List.mem_of_getElem? (i := 6) rfl)) (fun _ h9 => h9) rfl dX7_paste_35 ?_
      refine lv_iconst (v := (-1)) hx hb dX7_paste_38 (by decide) ?_
      refine lv_icmp_eq (tgt := 51) hx hb dX7_paste_39 (by decide) (fun _ => ?_) (fun h9 => absurd (by decide) h9)
      refine lv_bipush (v := (-6)) hx hb dX7_paste_51 (by decide) ?_
      exact e_s (v := (-6)) hx hb hr rfl (by decide) hlocks dX7_paste_53
    · refine lv_iload_n hx hb dX7_paste_0 rfl (lv_at hl 1 rfl) ?_
      refine vp_callSi (W.runS (As := [.int 2]) (rest := []) ⟨hx, hb, hml, hown, hts⟩ (r_X_noSlot l D E s.heap.size h0 u 2) (va_cwS 1 hts g_r_X_paste_r_X_noSlot rfl rfl rfl (by decide +kernel) ⟨Nat.le_of_ble_eq_true rfl, Nat.le_of_ble_eq_true rfl⟩) ⟨pre_blind, pre_at hP hK hD hN⟩ rfl rfl hl.1 rfl (lv_room (Nat.le_of_ble_eq_true rfl)) dX7_paste_1 ⟨Nat.le_of_ble_eq_true rfl, Nat.le_of_ble_eq_true rfl⟩) (fun r_74 er_74 => ?_)
      subst er_74
      refine lv_toc (y := 0) (by decide) ?_
      refine lv_if_ne (tgt := 14) hx hb dX7_paste_4 (by decide) (fun h9 => absurd (by decide) h9) (fun _ => ?_)
      refine lv_iload_n hx hb dX7_paste_7 rfl (lv_at hl 3 rfl) ?_
      refine vp_callSi (W.runS (As := [.int 3]) (rest := []) ⟨hx, hb, hml, hown, hts⟩ (r_X_noSlot l D E s.heap.size h0 u 3) (va_cwS 1 hts g_r_X_paste_r_X_noSlot rfl rfl rfl (by decide +kernel) ⟨Nat.le_of_ble_eq_true rfl, Nat.le_of_ble_eq_true rfl⟩) ⟨pre_blind, pre_at hP hK hD hN⟩ rfl rfl hl.1 rfl (lv_room (Nat.le_of_ble_eq_true rfl)) dX7_paste_8 ⟨Nat.le_of_ble_eq_true rfl, Nat.le_of_ble_eq_true rfl⟩) (fun r_76 er_76 => ?_)
      subst er_76
      refine lv_toc (y := 0) (by decide) ?_
      refine lv_if_eq (tgt := 17) hx hb dX7_paste_11 (by decide) (fun _ => ?_) (fun h9 => absurd (by decide) h9)
      refine lv_aload_n hx hb dX7_paste_17 rfl (lv_at hl 0 rfl) ?_
      refine va_get (ci := 7) (v := .ref (u 15)) (C := RX7) (T := TX7) (N := 14) hx hb hts in_r_X_paste_X7 hown hK hP 0 rfl rfl 13 (by decide) (hts (.fieldLink RX7 50 "UnseenClock" "rows" "[LUnseenClock$Row;") (List.mem_of_getElem? (i := 5) rfl)) (fun _ h9 => h9) rfl dX7_paste_18 ?_
      refine lv_iload_n hx hb dX7_paste_21 rfl (lv_at hl 1 rfl) ?_
      refine va_aldq hx hb hK hP 16 7 rfl rfl (by unfold vp_in; decide) dX7_paste_22 ?_
      refine lv_tov (y := .ref (u 20)) rfl ?_
      refine lv_astore (lv' := [(6, .ref (u 20)), (0, .ref h0), (1, .int 2), (2, .int a2), (3, .int 3), (4, .int a4), (5, .int a5)]) hx hb dX7_paste_23 hl (by decide) rfl (fun ls hl => ?_)
      refine lv_aload_n hx hb dX7_paste_25 rfl (lv_at hl 1 rfl) ?_
      refine va_get (ci := 7) (v := .ref (u 15)) (C := RX7) (T := TX7) (N := 14) hx hb hts in_r_X_paste_X7 hown hK hP 0 rfl rfl 13 (by decide) (hts (.fieldLink RX7 50 "UnseenClock" "rows" "[LUnseenClock$Row;") (List.mem_of_getElem? (i := 5) rfl)) (fun _ h9 => h9) rfl dX7_paste_26 ?_
      refine lv_iload_n hx hb dX7_paste_29 rfl (lv_at hl 4 rfl) ?_
      refine va_aldq hx hb hK hP 16 7 rfl rfl (by unfold vp_in; decide) dX7_paste_30 ?_
      refine lv_tov (y := .ref (u 22)) rfl ?_
      refine lv_astore (lv' := [(7, .ref (u 22)), (6, .ref (u 20)), (0, .ref h0), (1, .int 2), (2, .int a2), (3, .int 3), (4, .int a4), (5, .int a5)]) hx hb dX7_paste_31 hl (by decide) rfl (fun ls hl => ?_)
      refine lv_aload hx hb dX7_paste_33 (lv_at hl 1 rfl) ?_
      refine va_get (ci := 6) (v := .int (-1)) (C := RX6) (T := TX6) (N := 3) hx hb hts in_r_X_paste_X6 hown hK hP 21 rfl rfl 1 (by decide) (hts (.fieldLink RX7 284 "UnseenClock$Row" "length" "I") (List.mem_of_getElem? (i := 6) rfl)) (fun _ h9 => h9) rfl dX7_paste_35 ?_
      refine lv_iconst (v := (-1)) hx hb dX7_paste_38 (by decide) ?_
      refine lv_icmp_eq (tgt := 51) hx hb dX7_paste_39 (by decide) (fun _ => ?_) (fun h9 => absurd (by decide) h9)
      refine lv_bipush (v := (-6)) hx hb dX7_paste_51 (by decide) ?_
      exact e_s (v := (-6)) hx hb hr rfl (by decide) hlocks dX7_paste_53
  · rcases cs4 a3 with h_79 | rfl | rfl | rfl | rfl
    · refine lv_iload_n hx hb dX7_paste_0 rfl (lv_at hl 1 rfl) ?_
      refine vp_callSi (W.runS (As := [.int 3]) (rest := []) ⟨hx, hb, hml, hown, hts⟩ (r_X_noSlot l D E s.heap.size h0 u 3) (va_cwS 1 hts g_r_X_paste_r_X_noSlot rfl rfl rfl (by decide +kernel) ⟨Nat.le_of_ble_eq_true rfl, Nat.le_of_ble_eq_true rfl⟩) ⟨pre_blind, pre_at hP hK hD hN⟩ rfl rfl hl.1 rfl (lv_room (Nat.le_of_ble_eq_true rfl)) dX7_paste_1 ⟨Nat.le_of_ble_eq_true rfl, Nat.le_of_ble_eq_true rfl⟩) (fun r_80 er_80 => ?_)
      subst er_80
      refine lv_toc (y := 0) (by decide) ?_
      refine lv_if_ne (tgt := 14) hx hb dX7_paste_4 (by decide) (fun h9 => absurd (by decide) h9) (fun _ => ?_)
      refine lv_iload_n hx hb dX7_paste_7 rfl (lv_at hl 3 rfl) ?_
      refine vp_callSi (W.runS (As := [.int a3]) (rest := []) ⟨hx, hb, hml, hown, hts⟩ (r_X_noSlot l D E s.heap.size h0 u a3) (va_cwS 1 hts g_r_X_paste_r_X_noSlot rfl rfl rfl (by decide +kernel) ⟨Nat.le_of_ble_eq_true rfl, Nat.le_of_ble_eq_true rfl⟩) ⟨pre_blind, pre_at hP hK hD hN⟩ rfl rfl hl.1 rfl (lv_room (Nat.le_of_ble_eq_true rfl)) dX7_paste_8 ⟨Nat.le_of_ble_eq_true rfl, Nat.le_of_ble_eq_true rfl⟩) (fun r_82 er_82 => ?_)
      subst er_82
      refine lv_toc (y := 1) (if_neg h_79) ?_
      refine lv_if_eq (tgt := 17) hx hb dX7_paste_11 (by decide) (fun h9 => absurd h9 (by decide)) (fun _ => ?_)
      refine lv_bipush (v := (-2)) hx hb dX7_paste_14 (by decide) ?_
      exact e_s (v := (-2)) hx hb hr rfl (if_neg (fun q => h_79 q.2)).symm hlocks dX7_paste_16
    · refine lv_iload_n hx hb dX7_paste_0 rfl (lv_at hl 1 rfl) ?_
      refine vp_callSi (W.runS (As := [.int 3]) (rest := []) ⟨hx, hb, hml, hown, hts⟩ (r_X_noSlot l D E s.heap.size h0 u 3) (va_cwS 1 hts g_r_X_paste_r_X_noSlot rfl rfl rfl (by decide +kernel) ⟨Nat.le_of_ble_eq_true rfl, Nat.le_of_ble_eq_true rfl⟩) ⟨pre_blind, pre_at hP hK hD hN⟩ rfl rfl hl.1 rfl (lv_room (Nat.le_of_ble_eq_true rfl)) dX7_paste_1 ⟨Nat.le_of_ble_eq_true rfl, Nat.le_of_ble_eq_true rfl⟩) (fun r_84 er_84 => ?_)
      subst er_84
      refine lv_toc (y := 0) (by decide) ?_
      refine lv_if_ne (tgt := 14) hx hb dX7_paste_4 (by decide) (fun h9 => absurd (by decide) h9) (fun _ => ?_)
      refine lv_iload_n hx hb dX7_paste_7 rfl (lv_at hl 3 rfl) ?_
      refine vp_callSi (W.runS (As := [.int 0]) (rest := []) ⟨hx, hb, hml, hown, hts⟩ (r_X_noSlot l D E s.heap.size h0 u 0) (va_cwS 1 hts g_r_X_paste_r_X_noSlot rfl rfl rfl (by decide +kernel) ⟨Nat.le_of_ble_eq_true rfl, Nat.le_of_ble_eq_true rfl⟩) ⟨pre_blind, pre_at hP hK hD hN⟩ rfl rfl hl.1 rfl (lv_room (Nat.le_of_ble_eq_true rfl)) dX7_paste_8 ⟨Nat.le_of_ble_eq_true rfl, Nat.le_of_ble_eq_true rfl⟩) (fun r_86 er_86 => ?_)
      subst er_86
      refine lv_toc (y := 0) (by decide) ?_
      refine lv_if_eq (tgt := 17) hx hb dX7_paste_11 (by decide) (fun _ => ?_) (fun h9 => absurd (by decide) h9)
      refine lv_aload_n hx hb dX7_paste_17 rfl (lv_at hl 0 rfl) ?_
      refine va_get (ci := 7) (v := .ref (u 15)) (C := RX7) (T := TX7) (N := 14) hx hb hts in_r_X_paste_X7 hown hK hP 0 rfl rfl 13 (by decide) (hts (.fieldLink RX7 50 "UnseenClock" "rows" "[LUnseenClock$Row;") (List.mem_of_getElem? (i := 5) rfl)) (fun _ h9 => h9) rfl dX7_paste_18 ?_
      refine lv_iload_n hx hb dX7_paste_21 rfl (lv_at hl 1 rfl) ?_
      refine va_aldq hx hb hK hP 16 7 rfl rfl (by unfold vp_in; decide) dX7_paste_22 ?_
      refine lv_tov (y := .ref (u 22)) rfl ?_
      refine lv_astore (lv' := [(6, .ref (u 22)), (0, .ref h0), (1, .int 3), (2, .int a2), (3, .int 0), (4, .int a4), (5, .int a5)]) hx hb dX7_paste_23 hl (by decide) rfl (fun ls hl => ?_)
      refine lv_aload_n hx hb dX7_paste_25 rfl (lv_at hl 1 rfl) ?_
      refine va_get (ci := 7) (v := .ref (u 15)) (C := RX7) (T := TX7) (N := 14) hx hb hts in_r_X_paste_X7 hown hK hP 0 rfl rfl 13 (by decide) (hts (.fieldLink RX7 50 "UnseenClock" "rows" "[LUnseenClock$Row;") (List.mem_of_getElem? (i := 5) rfl)) (fun _ h9 => h9) rfl dX7_paste_26 ?_
      refine lv_iload_n hx hb dX7_paste_29 rfl (lv_at hl 4 rfl) ?_
      refine va_aldq hx hb hK hP 16 7 rfl rfl (by unfold vp_in; decide) dX7_paste_30 ?_
      refine lv_tov (y := .ref (u 16)) rfl ?_
      refine lv_astore (lv' := [(7, .ref (u 16)), (6, .ref (u 22)), (0, .ref h0), (1, .int 3), (2, .int a2), (3, .int 0), (4, .int a4), (5, .int a5)]) hx hb dX7_paste_31 hl (by decide) rfl (fun ls hl => ?_)
      refine lv_aload hx hb dX7_paste_33 (lv_at hl 1 rfl) ?_
      refine va_get (ci := 6) (v := .int (-1)) (C := RX6) (T := TX6) (N := 3) hx hb hts in_r_X_paste_X6 hown hK hP 23 rfl rfl 1 (by decide) (hts (.fieldLink RX7 284 "UnseenClock$Row" "length" "I") (List.mem_of_getElem? (i := 6) rfl)) (fun _ h9 => h9) rfl dX7_paste_35 ?_
      refine lv_iconst (v := (-1)) hx hb dX7_paste_38 (by decide) ?_
      refine lv_icmp_eq (tgt := 51) hx hb dX7_paste_39 (by decide) (fun _ => ?_) (fun h9 => absurd (by decide) h9)
      refine lv_bipush (v := (-6)) hx hb dX7_paste_51 (by decide) ?_
      exact e_s (v := (-6)) hx hb hr rfl (by decide) hlocks dX7_paste_53
    · refine lv_iload_n hx hb dX7_paste_0 rfl (lv_at hl 1 rfl) ?_
      refine vp_callSi (W.runS (As := [.int 3]) (rest := []) ⟨hx, hb, hml, hown, hts⟩ (r_X_noSlot l D E s.heap.size h0 u 3) (va_cwS 1 hts g_r_X_paste_r_X_noSlot rfl rfl rfl (by decide +kernel) ⟨Nat.le_of_ble_eq_true rfl, Nat.le_of_ble_eq_true rfl⟩) ⟨pre_blind, pre_at hP hK hD hN⟩ rfl rfl hl.1 rfl (lv_room (Nat.le_of_ble_eq_true rfl)) dX7_paste_1 ⟨Nat.le_of_ble_eq_true rfl, Nat.le_of_ble_eq_true rfl⟩) (fun r_89 er_89 => ?_)
      subst er_89
      refine lv_toc (y := 0) (by decide) ?_
      refine lv_if_ne (tgt := 14) hx hb dX7_paste_4 (by decide) (fun h9 => absurd (by decide) h9) (fun _ => ?_)
      refine lv_iload_n hx hb dX7_paste_7 rfl (lv_at hl 3 rfl) ?_
      refine vp_callSi (W.runS (As := [.int 1]) (rest := []) ⟨hx, hb, hml, hown, hts⟩ (r_X_noSlot l D E s.heap.size h0 u 1) (va_cwS 1 hts g_r_X_paste_r_X_noSlot rfl rfl rfl (by decide +kernel) ⟨Nat.le_of_ble_eq_true rfl, Nat.le_of_ble_eq_true rfl⟩) ⟨pre_blind, pre_at hP hK hD hN⟩ rfl rfl hl.1 rfl (lv_room (Nat.le_of_ble_eq_true rfl)) dX7_paste_8 ⟨Nat.le_of_ble_eq_true rfl, Nat.le_of_ble_eq_true rfl⟩) (fun r_91 er_91 => ?_)
      subst er_91
      refine lv_toc (y := 0) (by decide) ?_
      refine lv_if_eq (tgt := 17) hx hb dX7_paste_11 (by decide) (fun _ => ?_) (fun h9 => absurd (by decide) h9)
      refine lv_aload_n hx hb dX7_paste_17 rfl (lv_at hl 0 rfl) ?_
      refine va_get (ci := 7) (v := .ref (u 15)) (C := RX7) (T := TX7) (N := 14) hx hb hts in_r_X_paste_X7 hown hK hP 0 rfl rfl 13 (by decide) (hts (.fieldLink RX7 50 "UnseenClock" "rows" "[LUnseenClock$Row;") (List.mem_of_getElem? (i := 5) rfl)) (fun _ h9 => h9) rfl dX7_paste_18 ?_
      refine lv_iload_n hx hb dX7_paste_21 rfl (lv_at hl 1 rfl) ?_
      refine va_aldq hx hb hK hP 16 7 rfl rfl (by unfold vp_in; decide) dX7_paste_22 ?_
      refine lv_tov (y := .ref (u 22)) rfl ?_
      refine lv_astore (lv' := [(6, .ref (u 22)), (0, .ref h0), (1, .int 3), (2, .int a2), (3, .int 1), (4, .int a4), (5, .int a5)]) hx hb dX7_paste_23 hl (by decide) rfl (fun ls hl => ?_)
      refine lv_aload_n hx hb dX7_paste_25 rfl (lv_at hl 1 rfl) ?_
      refine va_get (ci := 7) (v := .ref (u 15)) (C := RX7) (T := TX7) (N := 14) hx hb hts in_r_X_paste_X7 hown hK hP 0 rfl rfl 13 (by decide) (hts (.fieldLink RX7 50 "UnseenClock" "rows" "[LUnseenClock$Row;") (List.mem_of_getElem? (i := 5) rfl)) (fun _ h9 => h9) rfl dX7_paste_26 ?_
      refine lv_iload_n hx hb dX7_paste_29 rfl (lv_at hl 4 rfl) ?_
      refine va_aldq hx hb hK hP 16 7 rfl rfl (by unfold vp_in; decide) dX7_paste_30 ?_
      refine lv_tov (y := .ref (u 18)) rfl ?_
      refine lv_astore (lv' := [(7, .ref (u 18)), (6, .ref (u 22)), (0, .ref h0), (1, .int 3), (2, .int a2), (3, .int 1), (4, .int a4), (5, .int a5)]) hx hb dX7_paste_31 hl (by decide) rfl (fun ls hl => ?_)
      refine lv_aload hx hb dX7_paste_33 (lv_at hl 1 rfl) ?_
      refine va_get (ci := 6) (v := .int (-1)) (C := RX6) (T := TX6) (N := 3) hx hb hts in_r_X_paste_X6 hown hK hP 23 rfl rfl 1 (by decide) (hts (.fieldLink RX7 284 "UnseenClock$Row" "length" "I") (List.mem_of_getElem? (i := 6) rfl)) (fun _ h9 => h9) rfl dX7_paste_35 ?_
      refine lv_iconst (v := (-1)) hx hb dX7_paste_38 (by decide) ?_
      refine lv_icmp_eq (tgt := 51) hx hb dX7_paste_39 (by decide) (fun _ => ?_) (fun h9 => absurd (by decide) h9)
      refine lv_bipush (v := (-6)) hx hb dX7_paste_51 (by decide) ?_
      exact e_s (v := (-6)) hx hb hr rfl (by decide) hlocks dX7_paste_53
    · refine lv_iload_n hx hb dX7_paste_0 rfl (lv_at hl 1 rfl) ?_
      refine vp_callSi (W.runS (As := [.int 3]) (rest := []) ⟨hx, hb, hml, hown, hts⟩ (r_X_noSlot l D E s.heap.size h0 u 3) (va_cwS 1 hts g_r_X_paste_r_X_noSlot rfl rfl rfl (by decide +kernel) ⟨Nat.le_of_ble_eq_true rfl, Nat.le_of_ble_eq_true rfl⟩) ⟨pre_blind, pre_at hP hK hD hN⟩ rfl rfl hl.1 rfl (lv_room (Nat.le_of_ble_eq_true rfl)) dX7_paste_1 ⟨Nat.le_of_ble_eq_true rfl, Nat.le_of_ble_eq_true rfl⟩) (fun r_94 er_94 => ?_)
      subst er_94
      refine lv_toc (y := 0) (by decide) ?_
      refine lv_if_ne (tgt := 14) hx hb dX7_paste_4 (by decide) (fun h9 => absurd (by decide) h9) (fun _ => ?_)
      refine lv_iload_n hx hb dX7_paste_7 rfl (lv_at hl 3 rfl) ?_
      refine vp_callSi (W.runS (As := [.int 2]) (rest := []) ⟨hx, hb, hml, hown, hts⟩ (r_X_noSlot l D E s.heap.size h0 u 2) (va_cwS 1 hts g_r_X_paste_r_X_noSlot rfl rfl rfl (by decide +kernel) ⟨Nat.le_of_ble_eq_true rfl, Nat.le_of_ble_eq_true rfl⟩) ⟨pre_blind, pre_at hP hK hD hN⟩ rfl rfl hl.1 rfl (lv_room (Nat.le_of_ble_eq_true rfl)) dX7_paste_8 ⟨Nat.le_of_ble_eq_true rfl, Nat.le_of_ble_eq_true rfl⟩) (fun r_96 er_96 => ?_)
      subst er_96
      refine lv_toc (y := 0) (by decide) ?_
      refine lv_if_eq (tgt := 17) hx hb dX7_paste_11 (by decide) (fun _ => ?_) (fun h9 => absurd (by decide) h9)
      refine lv_aload_n hx hb dX7_paste_17 rfl (lv_at hl 0 rfl) ?_
      refine va_get (ci := 7) (v := .ref (u 15)) (C := RX7) (T := TX7) (N := 14) hx hb hts in_r_X_paste_X7 hown hK hP 0 rfl rfl 13 (by decide) (hts (.fieldLink RX7 50 "UnseenClock" "rows" "[LUnseenClock$Row;") (List.mem_of_getElem? (i := 5) rfl)) (fun _ h9 => h9) rfl dX7_paste_18 ?_
      refine lv_iload_n hx hb dX7_paste_21 rfl (lv_at hl 1 rfl) ?_
      refine va_aldq hx hb hK hP 16 7 rfl rfl (by unfold vp_in; decide) dX7_paste_22 ?_
      refine lv_tov (y := .ref (u 22)) rfl ?_
      refine lv_astore (lv' := [(6, .ref (u 22)), (0, .ref h0), (1, .int 3), (2, .int a2), (3, .int 2), (4, .int a4), (5, .int a5)]) hx hb dX7_paste_23 hl (by decide) rfl (fun ls hl => ?_)
      refine lv_aload_n hx hb dX7_paste_25 rfl (lv_at hl 1 rfl) ?_
      refine va_get (ci := 7) (v := .ref (u 15)) (C := RX7) (T := TX7) (N := 14) hx hb hts in_r_X_paste_X7 hown hK hP 0 rfl rfl 13 (by decide) (hts (.fieldLink RX7 50 "UnseenClock" "rows" "[LUnseenClock$Row;") (List.mem_of_getElem? (i := 5) rfl)) (fun _ h9 => h9) rfl dX7_paste_26 ?_
      refine lv_iload_n hx hb dX7_paste_29 rfl (lv_at hl 4 rfl) ?_
      refine va_aldq hx hb hK hP 16 7 rfl rfl (by unfold vp_in; decide) dX7_paste_30 ?_
      refine lv_tov (y := .ref (u 20)) rfl ?_
      refine lv_astore (lv' := [(7, .ref (u 20)), (6, .ref (u 22)), (0, .ref h0), (1, .int 3), (2, .int a2), (3, .int 2), (4, .int a4), (5, .int a5)]) hx hb dX7_paste_31 hl (by decide) rfl (fun ls hl => ?_)
      refine lv_aload hx hb dX7_paste_33 (lv_at hl 1 rfl) ?_
      refine va_get (ci := 6) (v := .int (-1)) (C := RX6) (T := TX6) (N := 3) hx hb hts in_r_X_paste_X6 hown hK hP 23 rfl rfl 1 (by decide) (hts (.fieldLink RX7 284 "UnseenClock$Row" "length" "I") (List.mem_of_getElem? (i := 6) rfl)) (fun _ h9 => h9) rfl dX7_paste_35 ?_
      refine lv_iconst (v := (-1)) hx hb dX7_paste_38 (by decide) ?_
      refine lv_icmp_eq (tgt := 51) hx hb dX7_paste_39 (by decide) (fun _ => ?_) (fun h9 => absurd (by decide) h9)
      refine lv_bipush (v := (-6)) hx hb dX7_paste_51 (by decide) ?_
      exact e_s (v := (-6)) hx hb hr rfl (by decide) hlocks dX7_paste_53
    · refine lv_iload_n hx hb dX7_paste_0 rfl (lv_at hl 1 rfl) ?_
      refine vp_callSi (W.runS (As := [.int 3]) (rest := []) ⟨hx, hb, hml, hown, hts⟩ (r_X_noSlot l D E s.heap.size h0 u 3) (va_cwS 1 hts g_r_X_paste_r_X_noSlot rfl rfl rfl (by decide +kernel) ⟨Nat.le_of_ble_eq_true rfl, Nat.le_of_ble_eq_true rfl⟩) ⟨pre_blind, pre_at hP hK hD hN⟩ rfl rfl hl.1 rfl (lv_room (Nat.le_of_ble_eq_true rfl)) dX7_paste_1 ⟨Nat.le_of_ble_eq_true rfl, Nat.le_of_ble_eq_true rfl⟩) (fun r_99 er_99 => ?_)
      subst er_99
      refine lv_toc (y := 0) (by decide) ?_
      refine lv_if_ne (tgt := 14) hx hb dX7_paste_4 (by decide) (fun h9 => absurd (by decide) h9) (fun _ => ?_)
      refine lv_iload_n hx hb dX7_paste_7 rfl (lv_at hl 3 rfl) ?_
      refine vp_callSi (W.runS (As := [.int 3]) (rest := []) ⟨hx, hb, hml, hown, hts⟩ (r_X_noSlot l D E s.heap.size h0 u 3) (va_cwS 1 hts g_r_X_paste_r_X_noSlot rfl rfl rfl (by decide +kernel) ⟨Nat.le_of_ble_eq_true rfl, Nat.le_of_ble_eq_true rfl⟩) ⟨pre_blind, pre_at hP hK hD hN⟩ rfl rfl hl.1 rfl (lv_room (Nat.le_of_ble_eq_true rfl)) dX7_paste_8 ⟨Nat.le_of_ble_eq_true rfl, Nat.le_of_ble_eq_true rfl⟩) (fun r_101 er_101 => ?_)
      subst er_101
      refine lv_toc (y := 0) (by decide) ?_
      refine lv_if_eq (tgt := 17) hx hb dX7_paste_11 (by decide) (fun _ => ?_) (fun h9 => absurd (by decide) h9)
      refine lv_aload_n hx hb dX7_paste_17 rfl (lv_at hl 0 rfl) ?_
      refine va_get (ci := 7) (v := .ref (u 15)) (C := RX7) (T := TX7) (N := 14) hx hb hts in_r_X_paste_X7 hown hK hP 0 rfl rfl 13 (by decide) (hts (.fieldLink RX7 50 "UnseenClock" "rows" "[LUnseenClock$Row;") (List.mem_of_getElem? (i := 5) rfl)) (fun _ h9 => h9) rfl dX7_paste_18 ?_
      refine lv_iload_n hx hb dX7_paste_21 rfl (lv_at hl 1 rfl) ?_
      refine va_aldq hx hb hK hP 16 7 rfl rfl (by unfold vp_in; decide) dX7_paste_22 ?_
      refine lv_tov (y := .ref (u 22)) rfl ?_
      refine lv_astore (lv' := [(6, .ref (u 22)), (0, .ref h0), (1, .int 3), (2, .int a2), (3, .int 3), (4, .int a4), (5, .int a5)]) hx hb dX7_paste_23 hl (by decide) rfl (fun ls hl => ?_)
      refine lv_aload_n hx hb dX7_paste_25 rfl (lv_at hl 1 rfl) ?_
      refine va_get (ci := 7) (v := .ref (u 15)) (C := RX7) (T := TX7) (N := 14) hx hb hts in_r_X_paste_X7 hown hK hP 0 rfl rfl 13 (by decide) (hts (.fieldLink RX7 50 "UnseenClock" "rows" "[LUnseenClock$Row;") (List.mem_of_getElem? (i := 5) rfl)) (fun _ h9 => h9) rfl dX7_paste_26 ?_
      refine lv_iload_n hx hb dX7_paste_29 rfl (lv_at hl 4 rfl) ?_
      refine va_aldq hx hb hK hP 16 7 rfl rfl (by unfold vp_in; decide) dX7_paste_30 ?_
      refine lv_tov (y := .ref (u 22)) rfl ?_
      refine lv_astore (lv' := [(7, .ref (u 22)), (6, .ref (u 22)), (0, .ref h0), (1, .int 3), (2, .int a2), (3, .int 3), (4, .int a4), (5, .int a5)]) hx hb dX7_paste_31 hl (by decide) rfl (fun ls hl => ?_)
      refine lv_aload hx hb dX7_paste_33 (lv_at hl 1 rfl) ?_
      refine va_get (ci := 6) (v := .int (-1)) (C := RX6) (T := TX6) (N := 3) hx hb hts in_r_X_paste_X6 hown hK hP 23 rfl rfl 1 (by decide) (hts (.fieldLink RX7 284 "UnseenClock$Row" "length" "I") (List.mem_of_getElem? (i := 6) rfl)) (fun _ h9 => h9) rfl dX7_paste_35 ?_
      refine lv_iconst (v := (-1)) hx hb dX7_paste_38 (by decide) ?_
      refine lv_icmp_eq (tgt := 51) hx hb dX7_paste_39 (by decide) (fun _ => ?_) (fun h9 => absurd (by decide) h9)
      refine lv_bipush (v := (-6)) hx hb dX7_paste_51 (by decide) ?_
      exact e_s (v := (-6)) hx hb hr rfl (by decide) hlocks dX7_paste_53

def v_r_X_filledSlots : List Cond := .code yX7_filledSlots cX7_filledSlots 3 (some .int) :: ([.fieldLink RX7 50 "UnseenClock" "rows" "[LUnseenClock$Row;", .fieldLink RX7 284 "UnseenClock$Row" "length" "I"] ++ (wsX70 ++ (wsX60)))
theorem in_r_X_filledSlots_X7 : ∀ w ∈ u_ws RX7 TX7 14, w ∈ v_r_X_filledSlots := fun w h => List.mem_cons_of_mem _ (List.mem_append_right _ (List.mem_append_left _ h))
theorem in_r_X_filledSlots_X6 : ∀ w ∈ u_ws RX6 TX6 3, w ∈ v_r_X_filledSlots := fun w h => List.mem_cons_of_mem _ (List.mem_append_right _ (List.mem_append_right _ (h)))
set_option maxHeartbeats 2000000 in
set_option maxRecDepth 100000 in
theorem r_X_filledSlots (l : Launch) (D : va_G) (E : Nat → ClassId) (sz : Nat) (h0 : Nat) (u : Nat → Nat)  : Met l yX7_filledSlots v_r_X_filledSlots ({ frames := 0, cells := 0, slots := 0, locals := 0 }) (va_Pc [.ref h0] (pre D E (wX E h0 u) sz)) (vp_Si (fun r => r = 0)) 0 0 (fun _ => False) := by
  refine c_read (cc := cX7_filledSlots) (maxL := 3) (ret := (some .int)) (by decide) rfl (Nat.le_of_ble_eq_true rfl) ?_
  intro p e s m below meth c ls ⟨hx, hb, hr, hts, hown, hlocks, hin, hml⟩ hP hK hD hN hl
  have hown : s.vm.findClass RX7 = some m.cls := hown
  have hl : lv_has ls 3 [(0, .ref h0)] := hl
  refine lv_iconst (v := 0) hx hb dX7_filledSlots_0 (by decide) ?_
  refine lv_istore_n (lv' := [(1, .int 0), (0, .ref h0)]) hx hb dX7_filledSlots_1 rfl hl (by decide) rfl (fun ls hl => ?_)
  refine lv_iconst (v := 0) hx hb dX7_filledSlots_2 (by decide) ?_
  refine lv_istore_n (lv' := [(2, .int 0), (1, .int 0), (0, .ref h0)]) hx hb dX7_filledSlots_3 rfl hl (by decide) rfl (fun ls hl => ?_)
  refine lv_iload_n hx hb dX7_filledSlots_4 rfl (lv_at hl 0 rfl) ?_
  refine lv_iconst (v := 4) hx hb dX7_filledSlots_5 (by decide) ?_
  refine lv_icmp_ge (tgt := 31) hx hb dX7_filledSlots_6 (by decide) (fun h9 => absurd h9 (by decide)) (fun _ => ?_)
  refine lv_aload_n hx hb dX7_filledSlots_9 rfl (lv_at hl 2 rfl) ?_
  refine va_get (ci := 7) (v := .ref (u 15)) (C := RX7) (T := TX7) (N := 14) hx hb hts in_r_X_filledSlots_X7 hown hK hP 0 rfl rfl 13 (by decide) (hts (.fieldLink RX7 50 "UnseenClock" "rows" "[LUnseenClock$Row;") (List.mem_of_getElem? (i := 1) rfl)) (fun _ h9 => h9) rfl dX7_filledSlots_10 ?_
  refine lv_iload_n hx hb dX7_filledSlots_13 rfl (lv_at hl 0 rfl) ?_
  refine va_aldq hx hb hK hP 16 7 rfl rfl (by unfold vp_in; decide) dX7_filledSlots_14 ?_
  refine lv_tov (y := .ref (u 16)) rfl ?_
  refine va_get (ci := 6) (v := .int (-1)) (C := RX6) (T := TX6) (N := 3) hx hb hts in_r_X_filledSlots_X6 hown hK hP 17 rfl rfl 1 (by decide) (hts (.fieldLink RX7 284 "UnseenClock$Row" "length" "I") (List.mem_of_getElem? (i := 2) rfl)) (fun _ h9 => h9) rfl dX7_filledSlots_15 ?_
  refine lv_iconst (v := (-1)) hx hb dX7_filledSlots_18 (by decide) ?_
  refine lv_icmp_eq (tgt := 25) hx hb dX7_filledSlots_19 (by decide) (fun _ => ?_) (fun h9 => absurd (by decide) h9)
  refine lv_iinc (v := 1) (lv' := [(2, .int 1), (1, .int 0), (0, .ref h0)]) hx hb dX7_filledSlots_25 hl (k := 0) rfl (by decide) (by decide) rfl (fun ls hl => ?_)
  refine lv_goto (tgt := 4) hx hb dX7_filledSlots_28 (by decide) ?_
  refine lv_iload_n hx hb dX7_filledSlots_4 rfl (lv_at hl 0 rfl) ?_
  refine lv_iconst (v := 4) hx hb dX7_filledSlots_5 (by decide) ?_
  refine lv_icmp_ge (tgt := 31) hx hb dX7_filledSlots_6 (by decide) (fun h9 => absurd h9 (by decide)) (fun _ => ?_)
  refine lv_aload_n hx hb dX7_filledSlots_9 rfl (lv_at hl 2 rfl) ?_
  refine va_get (ci := 7) (v := .ref (u 15)) (C := RX7) (T := TX7) (N := 14) hx hb hts in_r_X_filledSlots_X7 hown hK hP 0 rfl rfl 13 (by decide) (hts (.fieldLink RX7 50 "UnseenClock" "rows" "[LUnseenClock$Row;") (List.mem_of_getElem? (i := 1) rfl)) (fun _ h9 => h9) rfl dX7_filledSlots_10 ?_
  refine lv_iload_n hx hb dX7_filledSlots_13 rfl (lv_at hl 0 rfl) ?_
  refine va_aldq hx hb hK hP 16 7 rfl rfl (by unfold vp_in; decide) dX7_filledSlots_14 ?_
  refine lv_tov (y := .ref (u 18)) rfl ?_
  refine va_get (ci := 6) (v := .int (-1)) (C := RX6) (T := TX6) (N := 3) hx hb hts in_r_X_filledSlots_X6 hown hK hP 19 rfl rfl 1 (by decide) (hts (.fieldLink RX7 284 "UnseenClock$Row" "length" "I") (List.mem_of_getElem? (i := 2) rfl)) (fun _ h9 => h9) rfl dX7_filledSlots_15 ?_
  refine lv_iconst (v := (-1)) hx hb dX7_filledSlots_18 (by decide) ?_
  refine lv_icmp_eq (tgt := 25) hx hb dX7_filledSlots_19 (by decide) (fun _ => ?_) (fun h9 => absurd (by decide) h9)
  refine lv_iinc (v := 2) (lv' := [(2, .int 2), (1, .int 0), (0, .ref h0)]) hx hb dX7_filledSlots_25 hl (k := 0) rfl (by decide) (by decide) rfl (fun ls hl => ?_)
  refine lv_goto (tgt := 4) hx hb dX7_filledSlots_28 (by decide) ?_
  refine lv_iload_n hx hb dX7_filledSlots_4 rfl (lv_at hl 0 rfl) ?_
  refine lv_iconst (v := 4) hx hb dX7_filledSlots_5 (by decide) ?_
  refine lv_icmp_ge (tgt := 31) hx hb dX7_filledSlots_6 (by decide) (fun h9 => absurd h9 (by decide)) (fun _ => ?_)
  refine lv_aload_n hx hb dX7_filledSlots_9 rfl (lv_at hl 2 rfl) ?_
  refine va_get (ci := 7) (v := .ref (u 15)) (C := RX7) (T := TX7) (N := 14) hx hb hts in_r_X_filledSlots_X7 hown hK hP 0 rfl rfl 13 (by decide) (hts (.fieldLink RX7 50 "UnseenClock" "rows" "[LUnseenClock$Row;") (List.mem_of_getElem? (i := 1) rfl)) (fun _ h9 => h9) rfl dX7_filledSlots_10 ?_
  refine lv_iload_n hx hb dX7_filledSlots_13 rfl (lv_at hl 0 rfl) ?_
  refine va_aldq hx hb hK hP 16 7 rfl rfl (by unfold vp_in; decide) dX7_filledSlots_14 ?_
  refine lv_tov (y := .ref (u 20)) rfl ?_
  refine va_get (ci := 6) (v := .int (-1)) (C := RX6) (T := TX6) (N := 3) hx hb hts in_r_X_filledSlots_X6 hown hK hP 21 rfl rfl 1 (by decide) (hts (.fieldLink RX7 284 "UnseenClock$Row" "length" "I") (List.mem_of_getElem? (i := 2) rfl)) (fun _ h9 => h9) rfl dX7_filledSlots_15 ?_
  refine lv_iconst (v := (-1)) hx hb dX7_filledSlots_18 (by decide) ?_
  refine lv_icmp_eq (tgt := 25) hx hb dX7_filledSlots_19 (by decide) (fun _ => ?_) (fun h9 => absurd (by decide) h9)
  refine lv_iinc (v := 3) (lv' := [(2, .int 3), (1, .int 0), (0, .ref h0)]) hx hb dX7_filledSlots_25 hl (k := 0) rfl (by decide) (by decide) rfl (fun ls hl => ?_)
  refine lv_goto (tgt := 4) hx hb dX7_filledSlots_28 (by decide) ?_
  refine lv_iload_n hx hb dX7_filledSlots_4 rfl (lv_at hl 0 rfl) ?_
  refine lv_iconst (v := 4) hx hb dX7_filledSlots_5 (by decide) ?_
  refine lv_icmp_ge (tgt := 31) hx hb dX7_filledSlots_6 (by decide) (fun h9 => absurd h9 (by decide)) (fun _ => ?_)
  refine lv_aload_n hx hb dX7_filledSlots_9 rfl (lv_at hl 2 rfl) ?_
  refine va_get (ci := 7) (v := .ref (u 15)) (C := RX7) (T := TX7) (N := 14) hx hb hts in_r_X_filledSlots_X7 hown hK hP 0 rfl rfl 13 (by decide) (hts (.fieldLink RX7 50 "UnseenClock" "rows" "[LUnseenClock$Row;") (List.mem_of_getElem? (i := 1) rfl)) (fun _ h9 => h9) rfl dX7_filledSlots_10 ?_
  refine lv_iload_n hx hb dX7_filledSlots_13 rfl (lv_at hl 0 rfl) ?_
  refine va_aldq hx hb hK hP 16 7 rfl rfl (by unfold vp_in; decide) dX7_filledSlots_14 ?_
  refine lv_tov (y := .ref (u 22)) rfl ?_
  refine va_get (ci := 6) (v := .int (-1)) (C := RX6) (T := TX6) (N := 3) hx hb hts in_r_X_filledSlots_X6 hown hK hP 23 rfl rfl 1 (by decide) (hts (.fieldLink RX7 284 "UnseenClock$Row" "length" "I") (List.mem_of_getElem? (i := 2) rfl)) (fun _ h9 => h9) rfl dX7_filledSlots_15 ?_
  refine lv_iconst (v := (-1)) hx hb dX7_filledSlots_18 (by decide) ?_
  refine lv_icmp_eq (tgt := 25) hx hb dX7_filledSlots_19 (by decide) (fun _ => ?_) (fun h9 => absurd (by decide) h9)
  refine lv_iinc (v := 4) (lv' := [(2, .int 4), (1, .int 0), (0, .ref h0)]) hx hb dX7_filledSlots_25 hl (k := 0) rfl (by decide) (by decide) rfl (fun ls hl => ?_)
  refine lv_goto (tgt := 4) hx hb dX7_filledSlots_28 (by decide) ?_
  refine lv_iload_n hx hb dX7_filledSlots_4 rfl (lv_at hl 0 rfl) ?_
  refine lv_iconst (v := 4) hx hb dX7_filledSlots_5 (by decide) ?_
  refine lv_icmp_ge (tgt := 31) hx hb dX7_filledSlots_6 (by decide) (fun _ => ?_) (fun h9 => absurd (by decide) h9)
  refine lv_iload_n hx hb dX7_filledSlots_31 rfl (lv_at hl 1 rfl) ?_
  exact e_s (v := 0) hx hb hr rfl rfl hlocks dX7_filledSlots_32

def v_r_X_count : List Cond := .code yX7_count cX7_count 2 (some .int) :: ([.fieldLink RX7 27 "UnseenClock" "plan" "LUnseenClock$Plan;", .fieldLink RX7 239 "UnseenClock$Plan" "wide" "I", .fieldLink RX7 236 "UnseenClock$Plan" "tall" "I", .fieldLink RX7 98 "UnseenClock$Plan" "minutes" "I", .fieldLink RX7 118 "UnseenClock$Plan" "clocks" "I", .fieldLink RX7 115 "UnseenClock$Plan" "people" "I", .fieldLink RX7 348 "UnseenClock$Plan" "walls" "I", .fieldLink RX7 81 "UnseenClock$Plan" "lines" "I", .fieldLink RX7 55 "UnseenClock" "tapeLength" "I", .fieldLink RX7 91 "UnseenClock$Plan" "away" "I", .fieldLink RX7 50 "UnseenClock" "rows" "[LUnseenClock$Row;", .fieldLink RX7 284 "UnseenClock$Row" "length" "I", .code yX7_filledSlots cX7_filledSlots 3 (some .int), .methodLink RX7 351 yX7_filledSlots, .instanceMethod yX7_filledSlots, .selects RX7 yX7_filledSlots yX7_filledSlots, .initialized RX7] ++ (wsX70 ++ (wsX30 ++ (wsX60))))
theorem in_r_X_count_X7 : ∀ w ∈ u_ws RX7 TX7 14, w ∈ v_r_X_count := fun w h => List.mem_cons_of_mem _ (List.mem_append_right _ (List.mem_append_left _ h))
theorem in_r_X_count_X3 : ∀ w ∈ u_ws RX3 TX3 12, w ∈ v_r_X_count := fun w h => List.mem_cons_of_mem _ (List.mem_append_right _ (List.mem_append_right _ (List.mem_append_left _ h)))
theorem in_r_X_count_X6 : ∀ w ∈ u_ws RX6 TX6 3, w ∈ v_r_X_count := fun w h => List.mem_cons_of_mem _ (List.mem_append_right _ (List.mem_append_right _ (List.mem_append_right _ (h))))
set_option maxRecDepth 20000 in
theorem g_r_X_count_r_X_filledSlots : GoodIn v_r_X_count (wsV RX7 351 RX7 yX7_filledSlots v_r_X_filledSlots) := g_rows _ [14, 15, 16, 17, 13, 11, 12, 18, 19, 20, 21, 22, 23, 24, 25, 26, 27, 28, 29, 30, 31, 44, 45, 46] rfl (by decide +kernel)
set_option maxHeartbeats 2000000 in
set_option maxRecDepth 100000 in
theorem r_X_count (l : Launch) (D : va_G) (E : Nat → ClassId) (sz : Nat) (h0 : Nat) (u : Nat → Nat) (a1 : Int32) : Met l yX7_count v_r_X_count ({ frames := 1, cells := 0, slots := 0, locals := 22 }) (va_Pc [.ref h0, .int a1] (pre D E (wX E h0 u) sz)) (vp_Si (fun r => r = if 0 ≤ a1.toInt ∧ a1.toInt ≤ 9 then 0 else -1)) 0 0 (fun _ => False) := by
  refine c_read (cc := cX7_count) (maxL := 2) (ret := (some .int)) (by decide) rfl (Nat.le_of_ble_eq_true rfl) ?_
  intro p e s m below meth c ls ⟨hx, hb, hr, hts, hown, hlocks, hin, hml⟩ hP hK hD hN hl
  have hown : s.vm.findClass RX7 = some m.cls := hown
  have hl : lv_has ls 2 [(0, .ref h0), (1, .int a1)] := hl
  rcases cs10 a1 with h_1 | rfl | rfl | rfl | rfl | rfl | rfl | rfl | rfl | rfl | rfl
  · refine lv_iload_n hx hb dX7_count_0 rfl (lv_at hl 1 rfl) ?_
    refine lv_tableOut (tgt := 130) hx hb dX7_count_1 (out_tb h_1) (by decide) ?_
    refine lv_iconst (v := (-1)) hx hb dX7_count_130 (by decide) ?_
    exact e_s (v := (-1)) hx hb hr rfl (if_neg h_1).symm hlocks dX7_count_131
  · refine lv_iload_n hx hb dX7_count_0 rfl (lv_at hl 1 rfl) ?_
    refine lv_tableIn (off := 55) (tgt := 56) hx hb dX7_count_1 (by decide) (by decide) (by decide) (by decide) ?_
    refine lv_aload_n hx hb dX7_count_56 rfl (lv_at hl 0 rfl) ?_
    refine va_get (ci := 7) (v := .ref (u 0)) (C := RX7) (T := TX7) (N := 14) hx hb hts in_r_X_count_X7 hown hK hP 0 rfl rfl 5 (by decide) (hts (.fieldLink RX7 27 "UnseenClock" "plan" "LUnseenClock$Plan;") (List.mem_of_getElem? (i := 1) rfl)) (fun _ h9 => h9) rfl dX7_count_57 ?_
    refine va_get (ci := 3) (v := .int 0) (C := RX3) (T := TX3) (N := 12) hx hb hts in_r_X_count_X3 hown hK hP 1 rfl rfl 0 (by decide) (hts (.fieldLink RX7 239 "UnseenClock$Plan" "wide" "I") (List.mem_of_getElem? (i := 2) rfl)) (fun _ h9 => h9) rfl dX7_count_60 ?_
    exact e_s (v := 0) hx hb hr rfl (by decide) hlocks dX7_count_63
  · refine lv_iload_n hx hb dX7_count_0 rfl (lv_at hl 1 rfl) ?_
    refine lv_tableIn (off := 63) (tgt := 64) hx hb dX7_count_1 (by decide) (by decide) (by decide) (by decide) ?_
    refine lv_aload_n hx hb dX7_count_64 rfl (lv_at hl 0 rfl) ?_
    refine va_get (ci := 7) (v := .ref (u 0)) (C := RX7) (T := TX7) (N := 14) hx hb hts in_r_X_count_X7 hown hK hP 0 rfl rfl 5 (by decide) (hts (.fieldLink RX7 27 "UnseenClock" "plan" "LUnseenClock$Plan;") (List.mem_of_getElem? (i := 1) rfl)) (fun _ h9 => h9) rfl dX7_count_65 ?_
    refine va_get (ci := 3) (v := .int 0) (C := RX3) (T := TX3) (N := 12) hx hb hts in_r_X_count_X3 hown hK hP 1 rfl rfl 1 (by decide) (hts (.fieldLink RX7 236 "UnseenClock$Plan" "tall" "I") (List.mem_of_getElem? (i := 3) rfl)) (fun _ h9 => h9) rfl dX7_count_68 ?_
    exact e_s (v := 0) hx hb hr rfl (by decide) hlocks dX7_count_71
  · refine lv_iload_n hx hb dX7_count_0 rfl (lv_at hl 1 rfl) ?_
    refine lv_tableIn (off := 71) (tgt := 72) hx hb dX7_count_1 (by decide) (by decide) (by decide) (by decide) ?_
    refine lv_aload_n hx hb dX7_count_72 rfl (lv_at hl 0 rfl) ?_
    refine va_get (ci := 7) (v := .ref (u 0)) (C := RX7) (T := TX7) (N := 14) hx hb hts in_r_X_count_X7 hown hK hP 0 rfl rfl 5 (by decide) (hts (.fieldLink RX7 27 "UnseenClock" "plan" "LUnseenClock$Plan;") (List.mem_of_getElem? (i := 1) rfl)) (fun _ h9 => h9) rfl dX7_count_73 ?_
    refine va_get (ci := 3) (v := .int 0) (C := RX3) (T := TX3) (N := 12) hx hb hts in_r_X_count_X3 hown hK hP 1 rfl rfl 2 (by decide) (hts (.fieldLink RX7 98 "UnseenClock$Plan" "minutes" "I") (List.mem_of_getElem? (i := 4) rfl)) (fun _ h9 => h9) rfl dX7_count_76 ?_
    exact e_s (v := 0) hx hb hr rfl (by decide) hlocks dX7_count_79
  · refine lv_iload_n hx hb dX7_count_0 rfl (lv_at hl 1 rfl) ?_
    refine lv_tableIn (off := 79) (tgt := 80) hx hb dX7_count_1 (by decide) (by decide) (by decide) (by decide) ?_
    refine lv_aload_n hx hb dX7_count_80 rfl (lv_at hl 0 rfl) ?_
    refine va_get (ci := 7) (v := .ref (u 0)) (C := RX7) (T := TX7) (N := 14) hx hb hts in_r_X_count_X7 hown hK hP 0 rfl rfl 5 (by decide) (hts (.fieldLink RX7 27 "UnseenClock" "plan" "LUnseenClock$Plan;") (List.mem_of_getElem? (i := 1) rfl)) (fun _ h9 => h9) rfl dX7_count_81 ?_
    refine va_get (ci := 3) (v := .int 0) (C := RX3) (T := TX3) (N := 12) hx hb hts in_r_X_count_X3 hown hK hP 1 rfl rfl 5 (by decide) (hts (.fieldLink RX7 118 "UnseenClock$Plan" "clocks" "I") (List.mem_of_getElem? (i := 5) rfl)) (fun _ h9 => h9) rfl dX7_count_84 ?_
    exact e_s (v := 0) hx hb hr rfl (by decide) hlocks dX7_count_87
  · refine lv_iload_n hx hb dX7_count_0 rfl (lv_at hl 1 rfl) ?_
    refine lv_tableIn (off := 87) (tgt := 88) hx hb dX7_count_1 (by decide) (by decide) (by decide) (by decide) ?_
    refine lv_aload_n hx hb dX7_count_88 rfl (lv_at hl 0 rfl) ?_
    refine va_get (ci := 7) (v := .ref (u 0)) (C := RX7) (T := TX7) (N := 14) hx hb hts in_r_X_count_X7 hown hK hP 0 rfl rfl 5 (by decide) (hts (.fieldLink RX7 27 "UnseenClock" "plan" "LUnseenClock$Plan;") (List.mem_of_getElem? (i := 1) rfl)) (fun _ h9 => h9) rfl dX7_count_89 ?_
    refine va_get (ci := 3) (v := .int 0) (C := RX3) (T := TX3) (N := 12) hx hb hts in_r_X_count_X3 hown hK hP 1 rfl rfl 6 (by decide) (hts (.fieldLink RX7 115 "UnseenClock$Plan" "people" "I") (List.mem_of_getElem? (i := 6) rfl)) (fun _ h9 => h9) rfl dX7_count_92 ?_
    exact e_s (v := 0) hx hb hr rfl (by decide) hlocks dX7_count_95
  · refine lv_iload_n hx hb dX7_count_0 rfl (lv_at hl 1 rfl) ?_
    refine lv_tableIn (off := 95) (tgt := 96) hx hb dX7_count_1 (by decide) (by decide) (by decide) (by decide) ?_
    refine lv_aload_n hx hb dX7_count_96 rfl (lv_at hl 0 rfl) ?_
    refine va_get (ci := 7) (v := .ref (u 0)) (C := RX7) (T := TX7) (N := 14) hx hb hts in_r_X_count_X7 hown hK hP 0 rfl rfl 5 (by decide) (hts (.fieldLink RX7 27 "UnseenClock" "plan" "LUnseenClock$Plan;") (List.mem_of_getElem? (i := 1) rfl)) (fun _ h9 => h9) rfl dX7_count_97 ?_
    refine va_get (ci := 3) (v := .int 0) (C := RX3) (T := TX3) (N := 12) hx hb hts in_r_X_count_X3 hown hK hP 1 rfl rfl 4 (by decide) (hts (.fieldLink RX7 348 "UnseenClock$Plan" "walls" "I") (List.mem_of_getElem? (i := 7) rfl)) (fun _ h9 => h9) rfl dX7_count_100 ?_
    exact e_s (v := 0) hx hb hr rfl (by decide) hlocks dX7_count_103
  · refine lv_iload_n hx hb dX7_count_0 rfl (lv_at hl 1 rfl) ?_
    refine lv_tableIn (off := 103) (tgt := 104) hx hb dX7_count_1 (by decide) (by decide) (by decide) (by decide) ?_
    refine lv_aload_n hx hb dX7_count_104 rfl (lv_at hl 0 rfl) ?_
    refine va_get (ci := 7) (v := .ref (u 0)) (C := RX7) (T := TX7) (N := 14) hx hb hts in_r_X_count_X7 hown hK hP 0 rfl rfl 5 (by decide) (hts (.fieldLink RX7 27 "UnseenClock" "plan" "LUnseenClock$Plan;") (List.mem_of_getElem? (i := 1) rfl)) (fun _ h9 => h9) rfl dX7_count_105 ?_
    refine va_get (ci := 3) (v := .int 0) (C := RX3) (T := TX3) (N := 12) hx hb hts in_r_X_count_X3 hown hK hP 1 rfl rfl 3 (by decide) (hts (.fieldLink RX7 81 "UnseenClock$Plan" "lines" "I") (List.mem_of_getElem? (i := 8) rfl)) (fun _ h9 => h9) rfl dX7_count_108 ?_
    exact e_s (v := 0) hx hb hr rfl (by decide) hlocks dX7_count_111
  · refine lv_iload_n hx hb dX7_count_0 rfl (lv_at hl 1 rfl) ?_
    refine lv_tableIn (off := 111) (tgt := 112) hx hb dX7_count_1 (by decide) (by decide) (by decide) (by decide) ?_
    refine lv_aload_n hx hb dX7_count_112 rfl (lv_at hl 0 rfl) ?_
    refine va_get (ci := 7) (v := .int 0) (C := RX7) (T := TX7) (N := 14) hx hb hts in_r_X_count_X7 hown hK hP 0 rfl rfl 1 (by decide) (hts (.fieldLink RX7 55 "UnseenClock" "tapeLength" "I") (List.mem_of_getElem? (i := 9) rfl)) (fun _ h9 => h9) rfl dX7_count_113 ?_
    exact e_s (v := 0) hx hb hr rfl (by decide) hlocks dX7_count_116
  · refine lv_iload_n hx hb dX7_count_0 rfl (lv_at hl 1 rfl) ?_
    refine lv_tableIn (off := 116) (tgt := 117) hx hb dX7_count_1 (by decide) (by decide) (by decide) (by decide) ?_
    refine lv_aload_n hx hb dX7_count_117 rfl (lv_at hl 0 rfl) ?_
    refine va_get (ci := 7) (v := .ref (u 0)) (C := RX7) (T := TX7) (N := 14) hx hb hts in_r_X_count_X7 hown hK hP 0 rfl rfl 5 (by decide) (hts (.fieldLink RX7 27 "UnseenClock" "plan" "LUnseenClock$Plan;") (List.mem_of_getElem? (i := 1) rfl)) (fun _ h9 => h9) rfl dX7_count_118 ?_
    refine va_get (ci := 3) (v := .int 0) (C := RX3) (T := TX3) (N := 12) hx hb hts in_r_X_count_X3 hown hK hP 1 rfl rfl 7 (by decide) (hts (.fieldLink RX7 91 "UnseenClock$Plan" "away" "I") (List.mem_of_getElem? (i := 10) rfl)) (fun _ h9 => h9) rfl dX7_count_121 ?_
    exact e_s (v := 0) hx hb hr rfl (by decide) hlocks dX7_count_124
  · refine lv_iload_n hx hb dX7_count_0 rfl (lv_at hl 1 rfl) ?_
    refine lv_tableIn (off := 124) (tgt := 125) hx hb dX7_count_1 (by decide) (by decide) (by decide) (by decide) ?_
    refine lv_aload_n hx hb dX7_count_125 rfl (lv_at hl 0 rfl) ?_
    refine vp_callSi (W.runV (As := []) (rest := []) ⟨hx, hb, hml, hown, hts⟩ (r_X_filledSlots l D E s.heap.size h0 u ) (cwV 0 hts g_r_X_count_r_X_filledSlots rfl rfl rfl (by decide +kernel) ⟨Nat.le_of_ble_eq_true rfl, Nat.le_of_ble_eq_true rfl⟩) ⟨pre_blind, va_recv hK hP (ci := 7) (q0 := 0) rfl rfl, pre_at hP hK hD hN⟩ rfl rfl hl.1 rfl (lv_room (Nat.le_of_ble_eq_true rfl)) dX7_count_126 ⟨Nat.le_of_ble_eq_true rfl, Nat.le_of_ble_eq_true rfl⟩) (fun r_2 er_2 => ?_)
    subst er_2
    exact e_s (v := 0) hx hb hr rfl (by decide) hlocks dX7_count_129

def v_r_M_fault : List Cond := .code yX8_fault cX8_fault 2 (some .int) :: ([.fieldLink RX8 27 "UnseenClockModel" "faultPlace" "I", .fieldLink RX8 151 "UnseenClockModel" "faultKind" "I"] ++ (wsX80))
theorem in_r_M_fault_X8 : ∀ w ∈ u_ws RX8 TX8 41, w ∈ v_r_M_fault := fun w h => List.mem_cons_of_mem _ (List.mem_append_right _ (h))
set_option maxHeartbeats 2000000 in
set_option maxRecDepth 100000 in
theorem r_M_fault (l : Launch) (D : va_G) (E : Nat → ClassId) (sz : Nat) (h0 : Nat) (u : Nat → Nat) (a1 : Int32) : Met l yX8_fault v_r_M_fault ({ frames := 0, cells := 0, slots := 0, locals := 0 }) (va_Pc [.ref h0, .int a1] (pre D E (wM E h0 u) sz)) (vp_Si (fun r => r = if a1 = 0 then 0 else -1)) 0 0 (fun _ => False) := by
  refine c_read (cc := cX8_fault) (maxL := 2) (ret := (some .int)) (by decide) rfl (Nat.le_of_ble_eq_true rfl) ?_
  intro p e s m below meth c ls ⟨hx, hb, hr, hts, hown, hlocks, hin, hml⟩ hP hK hD hN hl
  have hown : s.vm.findClass RX8 = some m.cls := hown
  have hl : lv_has ls 2 [(0, .ref h0), (1, .int a1)] := hl
  refine lv_iload_n hx hb dX8_fault_0 rfl (lv_at hl 1 rfl) ?_
  refine lv_if_ne (tgt := 11) hx hb dX8_fault_1 (by decide) (fun h_1 => ?_) (fun h_1 => ?_)
  · refine lv_iload_n hx hb dX8_fault_11 rfl (lv_at hl 1 rfl) ?_
    refine lv_iconst (v := 1) hx hb dX8_fault_12 (by decide) ?_
    refine lv_icmp_ne (tgt := 23) hx hb dX8_fault_13 (by decide) (fun h_2 => ?_) (fun h_2 => ?_)
    · refine lv_iconst (v := (-1)) hx hb dX8_fault_23 (by decide) ?_
      exact e_s (v := (-1)) hx hb hr rfl (if_neg h_1).symm hlocks dX8_fault_24
    · refine lv_aload_n hx hb dX8_fault_16 rfl (lv_at hl 0 rfl) ?_
      refine va_get (ci := 8) (v := .int (-1)) (C := RX8) (T := TX8) (N := 41) hx hb hts in_r_M_fault_X8 hown hK hP 0 rfl rfl 13 (by decide) (hts (.fieldLink RX8 27 "UnseenClockModel" "faultPlace" "I") (List.mem_of_getElem? (i := 1) rfl)) (fun _ h9 => h9) rfl dX8_fault_17 ?_
      refine lv_goto (tgt := 24) hx hb dX8_fault_20 (by decide) ?_
      exact e_s (v := (-1)) hx hb hr rfl (if_neg h_1).symm hlocks dX8_fault_24
  · refine lv_aload_n hx hb dX8_fault_4 rfl (lv_at hl 0 rfl) ?_
    refine va_get (ci := 8) (v := .int 0) (C := RX8) (T := TX8) (N := 41) hx hb hts in_r_M_fault_X8 hown hK hP 0 rfl rfl 12 (by decide) (hts (.fieldLink RX8 151 "UnseenClockModel" "faultKind" "I") (List.mem_of_getElem? (i := 2) rfl)) (fun _ h9 => h9) rfl dX8_fault_5 ?_
    refine lv_goto (tgt := 24) hx hb dX8_fault_8 (by decide) ?_
    exact e_s (v := 0) hx hb hr rfl (if_pos h_1).symm hlocks dX8_fault_24

def v_r_M_back : List Cond := .code yX8_back cX8_back 3 (some .int) :: ([.constantLong RX8 102 (2), .code yX8_in cX8_in 6 (some .boolean), .methodLink RX8 104 yX8_in, .static yX8_in, .initialized RX8, .fieldLink RX8 16 "UnseenClockModel" "hasImage" "[Z"] ++ (wsX80))
theorem in_r_M_back_X8 : ∀ w ∈ u_ws RX8 TX8 41, w ∈ v_r_M_back := fun w h => List.mem_cons_of_mem _ (List.mem_append_right _ (h))
set_option maxRecDepth 20000 in
theorem g_r_M_back_r_M_in : GoodIn v_r_M_back (va_wsS RX8 104 yX8_in v_r_M_in) := g_rows _ [3, 4, 5, 2] rfl (by decide +kernel)
set_option maxHeartbeats 2000000 in
set_option maxRecDepth 100000 in
theorem r_M_back (l : Launch) (D : va_G) (E : Nat → ClassId) (sz : Nat) (h0 : Nat) (u : Nat → Nat) (a1 : Int32) : Met l yX8_back v_r_M_back ({ frames := 1, cells := 0, slots := 0, locals := 25 }) (va_Pc [.ref h0, .int a1] (pre D E (wM E h0 u) sz)) (vp_Si (fun r => r = if 0 ≤ a1.toInt ∧ a1.toInt ≤ 2 then -6 else -2)) 0 0 (fun _ => False) := by
  refine c_read (cc := cX8_back) (maxL := 3) (ret := (some .int)) (by decide) rfl (Nat.le_of_ble_eq_true rfl) ?_
  intro p e s m below meth c ls ⟨hx, hb, hr, hts, hown, hlocks, hin, hml⟩ hP hK hD hN hl
  have hown : s.vm.findClass RX8 = some m.cls := hown
  have hl : lv_has ls 3 [(0, .ref h0), (1, .int a1)] := hl
  rcases cs3 a1 with h_1 | rfl | rfl | rfl
  · refine lv_iload_n hx hb dX8_back_0 rfl (lv_at hl 1 rfl) ?_
    refine lv_i2l (v := Int32.toInt64 a1) hx hb dX8_back_1 rfl ?_
    refine lv_lconst (v := 0) hx hb dX8_back_2 (by decide) ?_
    refine lv_ldc2 (v := 2) hx hb hown (hts (.constantLong RX8 102 (2)) (List.mem_of_getElem? (i := 1) rfl)) dX8_back_3 ?_
    refine vp_callSi (W.runS (As := [.long (Int32.toInt64 a1), .long 0, .long 2]) (rest := []) ⟨hx, hb, hml, hown, hts⟩ (r_M_in l D E s.heap.size h0 u (Int32.toInt64 a1) 0 2) (va_cwS 3 hts g_r_M_back_r_M_in rfl rfl rfl (by decide +kernel) ⟨Nat.le_of_ble_eq_true rfl, Nat.le_of_ble_eq_true rfl⟩) ⟨pre_blind, pre_at hP hK hD hN⟩ rfl rfl hl.1 rfl (lv_room (Nat.le_of_ble_eq_true rfl)) dX8_back_6 ⟨Nat.le_of_ble_eq_true rfl, Nat.le_of_ble_eq_true rfl⟩) (fun r_2 er_2 => ?_)
    subst er_2
    refine lv_toc (y := 0) (in_out (n := 2) (by decide) h_1) ?_
    refine lv_if_ne (tgt := 15) hx hb dX8_back_9 (by decide) (fun h9 => absurd (by decide) h9) (fun _ => ?_)
    refine lv_bipush (v := (-2)) hx hb dX8_back_12 (by decide) ?_
    exact e_s (v := (-2)) hx hb hr rfl (if_neg h_1).symm hlocks dX8_back_14
  · refine lv_iload_n hx hb dX8_back_0 rfl (lv_at hl 1 rfl) ?_
    refine lv_i2l (v := 0) hx hb dX8_back_1 (by decide) ?_
    refine lv_lconst (v := 0) hx hb dX8_back_2 (by decide) ?_
    refine lv_ldc2 (v := 2) hx hb hown (hts (.constantLong RX8 102 (2)) (List.mem_of_getElem? (i := 1) rfl)) dX8_back_3 ?_
    refine vp_callSi (W.runS (As := [.long 0, .long 0, .long 2]) (rest := []) ⟨hx, hb, hml, hown, hts⟩ (r_M_in l D E s.heap.size h0 u 0 0 2) (va_cwS 3 hts g_r_M_back_r_M_in rfl rfl rfl (by decide +kernel) ⟨Nat.le_of_ble_eq_true rfl, Nat.le_of_ble_eq_true rfl⟩) ⟨pre_blind, pre_at hP hK hD hN⟩ rfl rfl hl.1 rfl (lv_room (Nat.le_of_ble_eq_true rfl)) dX8_back_6 ⟨Nat.le_of_ble_eq_true rfl, Nat.le_of_ble_eq_true rfl⟩) (fun r_4 er_4 => ?_)
    subst er_4
    refine lv_toc (y := 1) (by decide) ?_
    refine lv_if_ne (tgt := 15) hx hb dX8_back_9 (by decide) (fun _ => ?_) (fun h9 => absurd h9 (by decide))
    refine lv_aload_n hx hb dX8_back_15 rfl (lv_at hl 0 rfl) ?_
    refine va_get (ci := 8) (v := .ref (u 2)) (C := RX8) (T := TX8) (N := 41) hx hb hts in_r_M_back_X8 hown hK hP 0 rfl rfl 3 (by decide) (hts (.fieldLink RX8 16 "UnseenClockModel" "hasImage" "[Z") (List.mem_of_getElem? (i := 6) rfl)) (fun _ h9 => h9) rfl dX8_back_16 ?_
    refine lv_iload_n hx hb dX8_back_19 rfl (lv_at hl 1 rfl) ?_
    refine va_zald hx hb hK hP 3 3 rfl rfl (by unfold vp_in; decide) dX8_back_20 ?_
    refine lv_toc (y := 0) rfl ?_
    refine lv_if_ne (tgt := 27) hx hb dX8_back_21 (by decide) (fun h9 => absurd (by decide) h9) (fun _ => ?_)
    refine lv_bipush (v := (-6)) hx hb dX8_back_24 (by decide) ?_
    exact e_s (v := (-6)) hx hb hr rfl (by decide) hlocks dX8_back_26
  · refine lv_iload_n hx hb dX8_back_0 rfl (lv_at hl 1 rfl) ?_
    refine lv_i2l (v := 1) hx hb dX8_back_1 (by decide) ?_
    refine lv_lconst (v := 0) hx hb dX8_back_2 (by decide) ?_
    refine lv_ldc2 (v := 2) hx hb hown (hts (.constantLong RX8 102 (2)) (List.mem_of_getElem? (i := 1) rfl)) dX8_back_3 ?_
    refine vp_callSi (W.runS (As := [.long 1, .long 0, .long 2]) (rest := []) ⟨hx, hb, hml, hown, hts⟩ (r_M_in l D E s.heap.size h0 u 1 0 2) (va_cwS 3 hts g_r_M_back_r_M_in rfl rfl rfl (by decide +kernel) ⟨Nat.le_of_ble_eq_true rfl, Nat.le_of_ble_eq_true rfl⟩) ⟨pre_blind, pre_at hP hK hD hN⟩ rfl rfl hl.1 rfl (lv_room (Nat.le_of_ble_eq_true rfl)) dX8_back_6 ⟨Nat.le_of_ble_eq_true rfl, Nat.le_of_ble_eq_true rfl⟩) (fun r_7 er_7 => ?_)
    subst er_7
    refine lv_toc (y := 1) (by decide) ?_
    refine lv_if_ne (tgt := 15) hx hb dX8_back_9 (by decide) (fun _ => ?_) (fun h9 => absurd h9 (by decide))
    refine lv_aload_n hx hb dX8_back_15 rfl (lv_at hl 0 rfl) ?_
    refine va_get (ci := 8) (v := .ref (u 2)) (C := RX8) (T := TX8) (N := 41) hx hb hts in_r_M_back_X8 hown hK hP 0 rfl rfl 3 (by decide) (hts (.fieldLink RX8 16 "UnseenClockModel" "hasImage" "[Z") (List.mem_of_getElem? (i := 6) rfl)) (fun _ h9 => h9) rfl dX8_back_16 ?_
    refine lv_iload_n hx hb dX8_back_19 rfl (lv_at hl 1 rfl) ?_
    refine va_zald hx hb hK hP 3 3 rfl rfl (by unfold vp_in; decide) dX8_back_20 ?_
    refine lv_toc (y := 0) rfl ?_
    refine lv_if_ne (tgt := 27) hx hb dX8_back_21 (by decide) (fun h9 => absurd (by decide) h9) (fun _ => ?_)
    refine lv_bipush (v := (-6)) hx hb dX8_back_24 (by decide) ?_
    exact e_s (v := (-6)) hx hb hr rfl (by decide) hlocks dX8_back_26
  · refine lv_iload_n hx hb dX8_back_0 rfl (lv_at hl 1 rfl) ?_
    refine lv_i2l (v := 2) hx hb dX8_back_1 (by decide) ?_
    refine lv_lconst (v := 0) hx hb dX8_back_2 (by decide) ?_
    refine lv_ldc2 (v := 2) hx hb hown (hts (.constantLong RX8 102 (2)) (List.mem_of_getElem? (i := 1) rfl)) dX8_back_3 ?_
    refine vp_callSi (W.runS (As := [.long 2, .long 0, .long 2]) (rest := []) ⟨hx, hb, hml, hown, hts⟩ (r_M_in l D E s.heap.size h0 u 2 0 2) (va_cwS 3 hts g_r_M_back_r_M_in rfl rfl rfl (by decide +kernel) ⟨Nat.le_of_ble_eq_true rfl, Nat.le_of_ble_eq_true rfl⟩) ⟨pre_blind, pre_at hP hK hD hN⟩ rfl rfl hl.1 rfl (lv_room (Nat.le_of_ble_eq_true rfl)) dX8_back_6 ⟨Nat.le_of_ble_eq_true rfl, Nat.le_of_ble_eq_true rfl⟩) (fun r_10 er_10 => ?_)
    subst er_10
    refine lv_toc (y := 1) (by decide) ?_
    refine lv_if_ne (tgt := 15) hx hb dX8_back_9 (by decide) (fun _ => ?_) (fun h9 => absurd h9 (by decide))
    refine lv_aload_n hx hb dX8_back_15 rfl (lv_at hl 0 rfl) ?_
    refine va_get (ci := 8) (v := .ref (u 2)) (C := RX8) (T := TX8) (N := 41) hx hb hts in_r_M_back_X8 hown hK hP 0 rfl rfl 3 (by decide) (hts (.fieldLink RX8 16 "UnseenClockModel" "hasImage" "[Z") (List.mem_of_getElem? (i := 6) rfl)) (fun _ h9 => h9) rfl dX8_back_16 ?_
    refine lv_iload_n hx hb dX8_back_19 rfl (lv_at hl 1 rfl) ?_
    refine va_zald hx hb hK hP 3 3 rfl rfl (by unfold vp_in; decide) dX8_back_20 ?_
    refine lv_toc (y := 0) rfl ?_
    refine lv_if_ne (tgt := 27) hx hb dX8_back_21 (by decide) (fun h9 => absurd (by decide) h9) (fun _ => ?_)
    refine lv_bipush (v := (-6)) hx hb dX8_back_24 (by decide) ?_
    exact e_s (v := (-6)) hx hb hr rfl (by decide) hlocks dX8_back_26

def v_r_M_write : List Cond := .code yX8_write cX8_write 5 (some .int) :: ([.constantLong RX8 482 (3), .code yX8_in cX8_in 6 (some .boolean), .methodLink RX8 104 yX8_in, .static yX8_in, .initialized RX8, .code yX8_isSlot cX8_isSlot 1 (some .boolean), .methodLink RX8 416 yX8_isSlot, .static yX8_isSlot, .fieldLink RX8 86 "UnseenClockModel" "many" "[I"] ++ (wsX80))
theorem in_r_M_write_X8 : ∀ w ∈ u_ws RX8 TX8 41, w ∈ v_r_M_write := fun w h => List.mem_cons_of_mem _ (List.mem_append_right _ (h))
set_option maxRecDepth 20000 in
theorem g_r_M_write_r_M_isSlot : GoodIn v_r_M_write (va_wsS RX8 416 yX8_isSlot v_r_M_isSlot) := g_rows _ [7, 8, 5, 6, 1, 2, 3, 4, 5] rfl (by decide +kernel)
set_option maxHeartbeats 2000000 in
set_option maxRecDepth 100000 in
theorem r_M_write (l : Launch) (D : va_G) (E : Nat → ClassId) (sz : Nat) (h0 : Nat) (u : Nat → Nat) (a1 : Int32) (a2 : Int32) (a3 : Int64) : Met l yX8_write v_r_M_write ({ frames := 2, cells := 0, slots := 0, locals := 45 }) (va_Pc [.ref h0, .int a1, .int a2, .long a3] (pre D E (wM E h0 u) sz)) (vp_Si (fun r => r = if 0 ≤ a1.toInt ∧ a1.toInt ≤ 3 then -6 else -2)) 0 0 (fun _ => False) := by
  refine c_read (cc := cX8_write) (maxL := 5) (ret := (some .int)) (by decide) rfl (Nat.le_of_ble_eq_true rfl) ?_
  intro p e s m below meth c ls ⟨hx, hb, hr, hts, hown, hlocks, hin, hml⟩ hP hK hD hN hl
  have hown : s.vm.findClass RX8 = some m.cls := hown
  have hl : lv_has ls 5 [(0, .ref h0), (1, .int a1), (2, .int a2), (3, .long a3)] := hl
  rcases cs4 a1 with h_1 | rfl | rfl | rfl | rfl
  · refine lv_iload_n hx hb dX8_write_0 rfl (lv_at hl 1 rfl) ?_
    refine vp_callSi (W.runS (As := [.int a1]) (rest := []) ⟨hx, hb, hml, hown, hts⟩ (r_M_isSlot l D E s.heap.size h0 u a1) (va_cwS 1 hts g_r_M_write_r_M_isSlot rfl rfl rfl (by decide +kernel) ⟨Nat.le_of_ble_eq_true rfl, Nat.le_of_ble_eq_true rfl⟩) ⟨pre_blind, pre_at hP hK hD hN⟩ rfl rfl hl.1 rfl (lv_room (Nat.le_of_ble_eq_true rfl)) dX8_write_1 ⟨Nat.le_of_ble_eq_true rfl, Nat.le_of_ble_eq_true rfl⟩) (fun r_2 er_2 => ?_)
    subst er_2
    refine lv_toc (y := 0) (if_neg h_1) ?_
    refine lv_if_ne (tgt := 10) hx hb dX8_write_4 (by decide) (fun h9 => absurd (by decide) h9) (fun _ => ?_)
    refine lv_bipush (v := (-2)) hx hb dX8_write_7 (by decide) ?_
    exact e_s (v := (-2)) hx hb hr rfl (if_neg h_1).symm hlocks dX8_write_9
  · refine lv_iload_n hx hb dX8_write_0 rfl (lv_at hl 1 rfl) ?_
    refine vp_callSi (W.runS (As := [.int 0]) (rest := []) ⟨hx, hb, hml, hown, hts⟩ (r_M_isSlot l D E s.heap.size h0 u 0) (va_cwS 1 hts g_r_M_write_r_M_isSlot rfl rfl rfl (by decide +kernel) ⟨Nat.le_of_ble_eq_true rfl, Nat.le_of_ble_eq_true rfl⟩) ⟨pre_blind, pre_at hP hK hD hN⟩ rfl rfl hl.1 rfl (lv_room (Nat.le_of_ble_eq_true rfl)) dX8_write_1 ⟨Nat.le_of_ble_eq_true rfl, Nat.le_of_ble_eq_true rfl⟩) (fun r_4 er_4 => ?_)
    subst er_4
    refine lv_toc (y := 1) (by decide) ?_
    refine lv_if_ne (tgt := 10) hx hb dX8_write_4 (by decide) (fun _ => ?_) (fun h9 => absurd h9 (by decide))
    refine lv_aload_n hx hb dX8_write_10 rfl (lv_at hl 0 rfl) ?_
    refine va_get (ci := 8) (v := .ref (u 6)) (C := RX8) (T := TX8) (N := 41) hx hb hts in_r_M_write_X8 hown hK hP 0 rfl rfl 37 (by decide) (hts (.fieldLink RX8 86 "UnseenClockModel" "many" "[I") (List.mem_of_getElem? (i := 9) rfl)) (fun _ h9 => h9) rfl dX8_write_11 ?_
    refine lv_iload_n hx hb dX8_write_14 rfl (lv_at hl 1 rfl) ?_
    refine va_iald hx hb hK hP 7 0 rfl rfl (by unfold vp_in; decide) dX8_write_15 ?_
    refine lv_toc (y := (-1)) (by decide) ?_
    refine lv_iconst (v := (-1)) hx hb dX8_write_16 (by decide) ?_
    refine lv_icmp_ne (tgt := 23) hx hb dX8_write_17 (by decide) (fun h9 => absurd (by decide) h9) (fun _ => ?_)
    refine lv_bipush (v := (-6)) hx hb dX8_write_20 (by decide) ?_
    exact e_s (v := (-6)) hx hb hr rfl (by decide) hlocks dX8_write_22
  · refine lv_iload_n hx hb dX8_write_0 rfl (lv_at hl 1 rfl) ?_
    refine vp_callSi (W.runS (As := [.int 1]) (rest := []) ⟨hx, hb, hml, hown, hts⟩ (r_M_isSlot l D E s.heap.size h0 u 1) (va_cwS 1 hts g_r_M_write_r_M_isSlot rfl rfl rfl (by decide +kernel) ⟨Nat.le_of_ble_eq_true rfl, Nat.le_of_ble_eq_true rfl⟩) ⟨pre_blind, pre_at hP hK hD hN⟩ rfl rfl hl.1 rfl (lv_room (Nat.le_of_ble_eq_true rfl)) dX8_write_1 ⟨Nat.le_of_ble_eq_true rfl, Nat.le_of_ble_eq_true rfl⟩) (fun r_7 er_7 => ?_)
    subst er_7
    refine lv_toc (y := 1) (by decide) ?_
    refine lv_if_ne (tgt := 10) hx hb dX8_write_4 (by decide) (fun _ => ?_) (fun h9 => absurd h9 (by decide))
    refine lv_aload_n hx hb dX8_write_10 rfl (lv_at hl 0 rfl) ?_
    refine va_get (ci := 8) (v := .ref (u 6)) (C := RX8) (T := TX8) (N := 41) hx hb hts in_r_M_write_X8 hown hK hP 0 rfl rfl 37 (by decide) (hts (.fieldLink RX8 86 "UnseenClockModel" "many" "[I") (List.mem_of_getElem? (i := 9) rfl)) (fun _ h9 => h9) rfl dX8_write_11 ?_
    refine lv_iload_n hx hb dX8_write_14 rfl (lv_at hl 1 rfl) ?_
    refine va_iald hx hb hK hP 7 0 rfl rfl (by unfold vp_in; decide) dX8_write_15 ?_
    refine lv_toc (y := (-1)) (by decide) ?_
    refine lv_iconst (v := (-1)) hx hb dX8_write_16 (by decide) ?_
    refine lv_icmp_ne (tgt := 23) hx hb dX8_write_17 (by decide) (fun h9 => absurd (by decide) h9) (fun _ => ?_)
    refine lv_bipush (v := (-6)) hx hb dX8_write_20 (by decide) ?_
    exact e_s (v := (-6)) hx hb hr rfl (by decide) hlocks dX8_write_22
  · refine lv_iload_n hx hb dX8_write_0 rfl (lv_at hl 1 rfl) ?_
    refine vp_callSi (W.runS (As := [.int 2]) (rest := []) ⟨hx, hb, hml, hown, hts⟩ (r_M_isSlot l D E s.heap.size h0 u 2) (va_cwS 1 hts g_r_M_write_r_M_isSlot rfl rfl rfl (by decide +kernel) ⟨Nat.le_of_ble_eq_true rfl, Nat.le_of_ble_eq_true rfl⟩) ⟨pre_blind, pre_at hP hK hD hN⟩ rfl rfl hl.1 rfl (lv_room (Nat.le_of_ble_eq_true rfl)) dX8_write_1 ⟨Nat.le_of_ble_eq_true rfl, Nat.le_of_ble_eq_true rfl⟩) (fun r_10 er_10 => ?_)
    subst er_10
    refine lv_toc (y := 1) (by decide) ?_
    refine lv_if_ne (tgt := 10) hx hb dX8_write_4 (by decide) (fun _ => ?_) (fun h9 => absurd h9 (by decide))
    refine lv_aload_n hx hb dX8_write_10 rfl (lv_at hl 0 rfl) ?_
    refine va_get (ci := 8) (v := .ref (u 6)) (C := RX8) (T := TX8) (N := 41) hx hb hts in_r_M_write_X8 hown hK hP 0 rfl rfl 37 (by decide) (hts (.fieldLink RX8 86 "UnseenClockModel" "many" "[I") (List.mem_of_getElem? (i := 9) rfl)) (fun _ h9 => h9) rfl dX8_write_11 ?_
    refine lv_iload_n hx hb dX8_write_14 rfl (lv_at hl 1 rfl) ?_
    refine va_iald hx hb hK hP 7 0 rfl rfl (by unfold vp_in; decide) dX8_write_15 ?_
    refine lv_toc (y := (-1)) (by decide) ?_
    refine lv_iconst (v := (-1)) hx hb dX8_write_16 (by decide) ?_
    refine lv_icmp_ne (tgt := 23) hx hb dX8_write_17 (by decide) (fun h9 => absurd (by decide) h9) (fun _ => ?_)
    refine lv_bipush (v := (-6)) hx hb dX8_write_20 (by decide) ?_
    exact e_s (v := (-6)) hx hb hr rfl (by decide) hlocks dX8_write_22
  · refine lv_iload_n hx hb dX8_write_0 rfl (lv_at hl 1 rfl) ?_
    refine vp_callSi (W.runS (As := [.int 3]) (rest := []) ⟨hx, hb, hml, hown, hts⟩ (r_M_isSlot l D E s.heap.size h0 u 3) (va_cwS 1 hts g_r_M_write_r_M_isSlot rfl rfl rfl (by decide +kernel) ⟨Nat.le_of_ble_eq_true rfl, Nat.le_of_ble_eq_true rfl⟩) ⟨pre_blind, pre_at hP hK hD hN⟩ rfl rfl hl.1 rfl (lv_room (Nat.le_of_ble_eq_true rfl)) dX8_write_1 ⟨Nat.le_of_ble_eq_true rfl, Nat.le_of_ble_eq_true rfl⟩) (fun r_13 er_13 => ?_)
    subst er_13
    refine lv_toc (y := 1) (by decide) ?_
    refine lv_if_ne (tgt := 10) hx hb dX8_write_4 (by decide) (fun _ => ?_) (fun h9 => absurd h9 (by decide))
    refine lv_aload_n hx hb dX8_write_10 rfl (lv_at hl 0 rfl) ?_
    refine va_get (ci := 8) (v := .ref (u 6)) (C := RX8) (T := TX8) (N := 41) hx hb hts in_r_M_write_X8 hown hK hP 0 rfl rfl 37 (by decide) (hts (.fieldLink RX8 86 "UnseenClockModel" "many" "[I") (List.mem_of_getElem? (i := 9) rfl)) (fun _ h9 => h9) rfl dX8_write_11 ?_
    refine lv_iload_n hx hb dX8_write_14 rfl (lv_at hl 1 rfl) ?_
    refine va_iald hx hb hK hP 7 0 rfl rfl (by unfold vp_in; decide) dX8_write_15 ?_
    refine lv_toc (y := (-1)) (by decide) ?_
    refine lv_iconst (v := (-1)) hx hb dX8_write_16 (by decide) ?_
    refine lv_icmp_ne (tgt := 23) hx hb dX8_write_17 (by decide) (fun h9 => absurd (by decide) h9) (fun _ => ?_)
    refine lv_bipush (v := (-6)) hx hb dX8_write_20 (by decide) ?_
    exact e_s (v := (-6)) hx hb hr rfl (by decide) hlocks dX8_write_22

def v_r_M_paste : List Cond := .code yX8_paste cX8_paste 7 (some .int) :: ([.constantLong RX8 482 (3), .code yX8_in cX8_in 6 (some .boolean), .methodLink RX8 104 yX8_in, .static yX8_in, .initialized RX8, .code yX8_isSlot cX8_isSlot 1 (some .boolean), .methodLink RX8 416 yX8_isSlot, .static yX8_isSlot, .fieldLink RX8 86 "UnseenClockModel" "many" "[I"] ++ (wsX80))
theorem in_r_M_paste_X8 : ∀ w ∈ u_ws RX8 TX8 41, w ∈ v_r_M_paste := fun w h => List.mem_cons_of_mem _ (List.mem_append_right _ (h))
set_option maxRecDepth 20000 in
theorem g_r_M_paste_r_M_isSlot : GoodIn v_r_M_paste (va_wsS RX8 416 yX8_isSlot v_r_M_isSlot) := g_rows _ [7, 8, 5, 6, 1, 2, 3, 4, 5] rfl (by decide +kernel)
set_option maxHeartbeats 2000000 in
set_option maxRecDepth 100000 in
theorem r_M_paste (l : Launch) (D : va_G) (E : Nat → ClassId) (sz : Nat) (h0 : Nat) (u : Nat → Nat) (a1 : Int32) (a2 : Int32) (a3 : Int32) (a4 : Int32) (a5 : Int32) : Met l yX8_paste v_r_M_paste ({ frames := 2, cells := 0, slots := 0, locals := 45 }) (va_Pc [.ref h0, .int a1, .int a2, .int a3, .int a4, .int a5] (pre D E (wM E h0 u) sz)) (vp_Si (fun r => r = if (0 ≤ a1.toInt ∧ a1.toInt ≤ 3) ∧ (0 ≤ a3.toInt ∧ a3.toInt ≤ 3) then -6 else -2)) 0 0 (fun _ => False) := by
  refine c_read (cc := cX8_paste) (maxL := 7) (ret := (some .int)) (by decide) rfl (Nat.le_of_ble_eq_true rfl) ?_
  intro p e s m below meth c ls ⟨hx, hb, hr, hts, hown, hlocks, hin, hml⟩ hP hK hD hN hl
  have hown : s.vm.findClass RX8 = some m.cls := hown
  have hl : lv_has ls 7 [(0, .ref h0), (1, .int a1), (2, .int a2), (3, .int a3), (4, .int a4), (5, .int a5)] := hl
  rcases cs4 a1 with h_1 | rfl | rfl | rfl | rfl
  · refine lv_iload_n hx hb dX8_paste_0 rfl (lv_at hl 1 rfl) ?_
    refine vp_callSi (W.runS (As := [.int a1]) (rest := []) ⟨hx, hb, hml, hown, hts⟩ (r_M_isSlot l D E s.heap.size h0 u a1) (va_cwS 1 hts g_r_M_paste_r_M_isSlot rfl rfl rfl (by decide +kernel) ⟨Nat.le_of_ble_eq_true rfl, Nat.le_of_ble_eq_true rfl⟩) ⟨pre_blind, pre_at hP hK hD hN⟩ rfl rfl hl.1 rfl (lv_room (Nat.le_of_ble_eq_true rfl)) dX8_paste_1 ⟨Nat.le_of_ble_eq_true rfl, Nat.le_of_ble_eq_true rfl⟩) (fun r_2 er_2 => ?_)
    subst er_2
    refine lv_toc (y := 0) (if_neg h_1) ?_
    refine lv_if_eq (tgt := 14) hx hb dX8_paste_4 (by decide) (fun _ => ?_) (fun h9 => absurd (by decide) h9)
    refine lv_bipush (v := (-2)) hx hb dX8_paste_14 (by decide) ?_
    exact e_s (v := (-2)) hx hb hr rfl (if_neg (fun q => h_1 q.1)).symm hlocks dX8_paste_16
  · rcases cs4 a3 with h_4 | rfl | rfl | rfl | rfl
    · refine lv_iload_n hx hb dX8_paste_0 rfl (lv_at hl 1 rfl) ?_
      refine vp_callSi (W.runS (As := [.int 0]) (rest := []) ⟨hx, hb, hml, hown, hts⟩ (r_M_isSlot l D E s.heap.size h0 u 0) (va_cwS 1 hts g_r_M_paste_r_M_isSlot rfl rfl rfl (by decide +kernel) ⟨Nat.le_of_ble_eq_true rfl, Nat.le_of_ble_eq_true rfl⟩) ⟨pre_blind, pre_at hP hK hD hN⟩ rfl rfl hl.1 rfl (lv_room (Nat.le_of_ble_eq_true rfl)) dX8_paste_1 ⟨Nat.le_of_ble_eq_true rfl, Nat.le_of_ble_eq_true rfl⟩) (fun r_5 er_5 => ?_)
      subst er_5
      refine lv_toc (y := 1) (by decide) ?_
      refine lv_if_eq (tgt := 14) hx hb dX8_paste_4 (by decide) (fun h9 => absurd h9 (by decide)) (fun _ => ?_)
      refine lv_iload_n hx hb dX8_paste_7 rfl (lv_at hl 3 rfl) ?_
      refine vp_callSi (W.runS (As := [.int a3]) (rest := []) ⟨hx, hb, hml, hown, hts⟩ (r_M_isSlot l D E s.heap.size h0 u a3) (va_cwS 1 hts g_r_M_paste_r_M_isSlot rfl rfl rfl (by decide +kernel) ⟨Nat.le_of_ble_eq_true rfl, Nat.le_of_ble_eq_true rfl⟩) ⟨pre_blind, pre_at hP hK hD hN⟩ rfl rfl hl.1 rfl (lv_room (Nat.le_of_ble_eq_true rfl)) dX8_paste_8 ⟨Nat.le_of_ble_eq_true rfl, Nat.le_of_ble_eq_true rfl⟩) (fun r_7 er_7 => ?_)
      subst er_7
      refine lv_toc (y := 0) (if_neg h_4) ?_
      refine lv_if_ne (tgt := 17) hx hb dX8_paste_11 (by decide) (fun h9 => absurd (by decide) h9) (fun _ => ?_)
      refine lv_bipush (v := (-2)) hx hb dX8_paste_14 (by decide) ?_
      exact e_s (v := (-2)) hx hb hr rfl (if_neg (fun q => h_4 q.2)).symm hlocks dX8_paste_16
    · refine lv_iload_n hx hb dX8_paste_0 rfl (lv_at hl 1 rfl) ?_
      refine vp_callSi (W.runS (As := [.int 0]) (rest := []) ⟨hx, hb, hml, hown, hts⟩ (r_M_isSlot l D E s.heap.size h0 u 0) (va_cwS 1 hts g_r_M_paste_r_M_isSlot rfl rfl rfl (by decide +kernel) ⟨Nat.le_of_ble_eq_true rfl, Nat.le_of_ble_eq_true rfl⟩) ⟨pre_blind, pre_at hP hK hD hN⟩ rfl rfl hl.1 rfl (lv_room (Nat.le_of_ble_eq_true rfl)) dX8_paste_1 ⟨Nat.le_of_ble_eq_true rfl, Nat.le_of_ble_eq_true rfl⟩) (fun r_9 er_9 => ?_)
      subst er_9
      refine lv_toc (y := 1) (by decide) ?_
      refine lv_if_eq (tgt := 14) hx hb dX8_paste_4 (by decide) (fun h9 => absurd h9 (by decide)) (fun _ => ?_)
      refine lv_iload_n hx hb dX8_paste_7 rfl (lv_at hl 3 rfl) ?_
      refine vp_callSi (W.runS (As := [.int 0]) (rest := []) ⟨hx, hb, hml, hown, hts⟩ (r_M_isSlot l D E s.heap.size h0 u 0) (va_cwS 1 hts g_r_M_paste_r_M_isSlot rfl rfl rfl (by decide +kernel) ⟨Nat.le_of_ble_eq_true rfl, Nat.le_of_ble_eq_true rfl⟩) ⟨pre_blind, pre_at hP hK hD hN⟩ rfl rfl hl.1 rfl (lv_room (Nat.le_of_ble_eq_true rfl)) dX8_paste_8 ⟨Nat.le_of_ble_eq_true rfl, Nat.le_of_ble_eq_true rfl⟩) (fun r_11 er_11 => ?_)
      subst er_11
      refine lv_toc (y := 1) (by decide) ?_
      refine lv_if_ne (tgt := 17) hx hb dX8_paste_11 (by decide) (fun _ => ?_) (fun h9 => absurd h9 (by decide))
      refine lv_aload_n hx hb dX8_paste_17 rfl (lv_at hl 0 rfl) ?_
      refine va_get (ci := 8) (v := .ref (u 6)) (C := RX8) (T := TX8) (N := 41) hx hb hts in_r_M_paste_X8 hown hK hP 0 rfl rfl 37 (by decide) (hts (.fieldLink RX8 86 "UnseenClockModel" "many" "[I") (List.mem_of_getElem? (i := 9) rfl)) (fun _ h9 => h9) rfl dX8_paste_18 ?_
      refine lv_iload_n hx hb dX8_paste_21 rfl (lv_at hl 1 rfl) ?_
      refine va_iald hx hb hK hP 7 0 rfl rfl (by unfold vp_in; decide) dX8_paste_22 ?_
      refine lv_toc (y := (-1)) (by decide) ?_
      refine lv_iconst (v := (-1)) hx hb dX8_paste_23 (by decide) ?_
      refine lv_icmp_eq (tgt := 37) hx hb dX8_paste_24 (by decide) (fun _ => ?_) (fun h9 => absurd (by decide) h9)
      refine lv_bipush (v := (-6)) hx hb dX8_paste_37 (by decide) ?_
      exact e_s (v := (-6)) hx hb hr rfl (by decide) hlocks dX8_paste_39
    · refine lv_iload_n hx hb dX8_paste_0 rfl (lv_at hl 1 rfl) ?_
      refine vp_callSi (W.runS (As := [.int 0]) (rest := []) ⟨hx, hb, hml, hown, hts⟩ (r_M_isSlot l D E s.heap.size h0 u 0) (va_cwS 1 hts g_r_M_paste_r_M_isSlot rfl rfl rfl (by decide +kernel) ⟨Nat.le_of_ble_eq_true rfl, Nat.le_of_ble_eq_true rfl⟩) ⟨pre_blind, pre_at hP hK hD hN⟩ rfl rfl hl.1 rfl (lv_room (Nat.le_of_ble_eq_true rfl)) dX8_paste_1 ⟨Nat.le_of_ble_eq_true rfl, Nat.le_of_ble_eq_true rfl⟩) (fun r_14 er_14 => ?_)
      subst er_14
      refine lv_toc (y := 1) (by decide) ?_
      refine lv_if_eq (tgt := 14) hx hb dX8_paste_4 (by decide) (fun h9 => absurd h9 (by decide)) (fun _ => ?_)
      refine lv_iload_n hx hb dX8_paste_7 rfl (lv_at hl 3 rfl) ?_
      refine vp_callSi (W.runS (As := [.int 1]) (rest := []) ⟨hx, hb, hml, hown, hts⟩ (r_M_isSlot l D E s.heap.size h0 u 1) (va_cwS 1 hts g_r_M_paste_r_M_isSlot rfl rfl rfl (by decide +kernel) ⟨Nat.le_of_ble_eq_true rfl, Nat.le_of_ble_eq_true rfl⟩) ⟨pre_blind, pre_at hP hK hD hN⟩ rfl rfl hl.1 rfl (lv_room (Nat.le_of_ble_eq_true rfl)) dX8_paste_8 ⟨Nat.le_of_ble_eq_true rfl, Nat.le_of_ble_eq_true rfl⟩) (fun r_16 er_16 => ?_)
      subst er_16
      refine lv_toc (y := 1) (by decide) ?_
      refine lv_if_ne (tgt := 17) hx hb dX8_paste_11 (by decide) (fun _ => ?_) (fun h9 => absurd h9 (by decide))
      refine lv_aload_n hx hb dX8_paste_17 rfl (lv_at hl 0 rfl) ?_
      refine va_get (ci := 8) (v := .ref (u 6)) (C := RX8) (T := TX8) (N := 41) hx hb hts in_r_M_paste_X8 hown hK hP 0 rfl rfl 37 (by decide) (hts (.fieldLink RX8 86 "UnseenClockModel" "many" "[I") (List.mem_of_getElem? (i := 9) rfl)) (fun _ h9 => h9) rfl dX8_paste_18 ?_
      refine lv_iload_n hx hb dX8_paste_21 rfl (lv_at hl 1 rfl) ?_
      refine va_iald hx hb hK hP 7 0 rfl rfl (by unfold vp_in; decide) dX8_paste_22 ?_
      refine lv_toc (y := (-1)) (by decide) ?_
      refine lv_iconst (v := (-1)) hx hb dX8_paste_23 (by decide) ?_
      refine lv_icmp_eq (tgt := 37) hx hb dX8_paste_24 (by decide) (fun _ => ?_) (fun h9 => absurd (by decide) h9)
      refine lv_bipush (v := (-6)) hx hb dX8_paste_37 (by decide) ?_
      exact e_s (v := (-6)) hx hb hr rfl (by decide) hlocks dX8_paste_39
    · refine lv_iload_n hx hb dX8_paste_0 rfl (lv_at hl 1 rfl) ?_
      refine vp_callSi (W.runS (As := [.int 0]) (rest := []) ⟨hx, hb, hml, hown, hts⟩ (r_M_isSlot l D E s.heap.size h0 u 0) (va_cwS 1 hts g_r_M_paste_r_M_isSlot rfl rfl rfl (by decide +kernel) ⟨Nat.le_of_ble_eq_true rfl, Nat.le_of_ble_eq_true rfl⟩) ⟨pre_blind, pre_at hP hK hD hN⟩ rfl rfl hl.1 rfl (lv_room (Nat.le_of_ble_eq_true rfl)) dX8_paste_1 ⟨Nat.le_of_ble_eq_true rfl, Nat.le_of_ble_eq_true rfl⟩) (fun r_19 er_19 => ?_)
      subst er_19
      refine lv_toc (y := 1) (by decide) ?_
      refine lv_if_eq (tgt := 14) hx hb dX8_paste_4 (by decide) (fun h9 => absurd h9 (by decide)) (fun _ => ?_)
      refine lv_iload_n hx hb dX8_paste_7 rfl (lv_at hl 3 rfl) ?_
      refine vp_callSi (W.runS (As := [.int 2]) (rest := []) ⟨hx, hb, hml, hown, hts⟩ (r_M_isSlot l D E s.heap.size h0 u 2) (va_cwS 1 hts g_r_M_paste_r_M_isSlot rfl rfl rfl (by decide +kernel) ⟨Nat.le_of_ble_eq_true rfl, Nat.le_of_ble_eq_true rfl⟩) ⟨pre_blind, pre_at hP hK hD hN⟩ rfl rfl hl.1 rfl (lv_room (Nat.le_of_ble_eq_true rfl)) dX8_paste_8 ⟨Nat.le_of_ble_eq_true rfl, Nat.le_of_ble_eq_true rfl⟩) (fun r_21 er_21 => ?_)
      subst er_21
      refine lv_toc (y := 1) (by decide) ?_
      refine lv_if_ne (tgt := 17) hx hb dX8_paste_11 (by decide) (fun _ => ?_) (fun h9 => absurd h9 (by decide))
      refine lv_aload_n hx hb dX8_paste_17 rfl (lv_at hl 0 rfl) ?_
      refine va_get (ci := 8) (v := .ref (u 6)) (C := RX8) (T := TX8) (N := 41) hx hb hts in_r_M_paste_X8 hown hK hP 0 rfl rfl 37 (by decide) (hts (.fieldLink RX8 86 "UnseenClockModel" "many" "[I") (List.mem_of_getElem? (i := 9) rfl)) (fun _ h9 => h9) rfl dX8_paste_18 ?_
      refine lv_iload_n hx hb dX8_paste_21 rfl (lv_at hl 1 rfl) ?_
      refine va_iald hx hb hK hP 7 0 rfl rfl (by unfold vp_in; decide) dX8_paste_22 ?_
      refine lv_toc (y := (-1)) (by decide) ?_
      refine lv_iconst (v := (-1)) hx hb dX8_paste_23 (by decide) ?_
      refine lv_icmp_eq (tgt := 37) hx hb dX8_paste_24 (by decide) (fun _ => ?_) (fun h9 => absurd (by decide) h9)
      refine lv_bipush (v := (-6)) hx hb dX8_paste_37 (by decide) ?_
      exact e_s (v := (-6)) hx hb hr rfl (by decide) hlocks dX8_paste_39
    · refine lv_iload_n hx hb dX8_paste_0 rfl (lv_at hl 1 rfl) ?_
      refine vp_callSi (W.runS (As := [.int 0]) (rest := []) ⟨hx, hb, hml, hown, hts⟩ (r_M_isSlot l D E s.heap.size h0 u 0) (va_cwS 1 hts g_r_M_paste_r_M_isSlot rfl rfl rfl (by decide +kernel) ⟨Nat.le_of_ble_eq_true rfl, Nat.le_of_ble_eq_true rfl⟩) ⟨pre_blind, pre_at hP hK hD hN⟩ rfl rfl hl.1 rfl (lv_room (Nat.le_of_ble_eq_true rfl)) dX8_paste_1 ⟨Nat.le_of_ble_eq_true rfl, Nat.le_of_ble_eq_true rfl⟩) (fun r_24 er_24 => ?_)
      subst er_24
      refine lv_toc (y := 1) (by decide) ?_
      refine lv_if_eq (tgt := 14) hx hb dX8_paste_4 (by decide) (fun h9 => absurd h9 (by decide)) (fun _ => ?_)
      refine lv_iload_n hx hb dX8_paste_7 rfl (lv_at hl 3 rfl) ?_
      refine vp_callSi (W.runS (As := [.int 3]) (rest := []) ⟨hx, hb, hml, hown, hts⟩ (r_M_isSlot l D E s.heap.size h0 u 3) (va_cwS 1 hts g_r_M_paste_r_M_isSlot rfl rfl rfl (by decide +kernel) ⟨Nat.le_of_ble_eq_true rfl, Nat.le_of_ble_eq_true rfl⟩) ⟨pre_blind, pre_at hP hK hD hN⟩ rfl rfl hl.1 rfl (lv_room (Nat.le_of_ble_eq_true rfl)) dX8_paste_8 ⟨Nat.le_of_ble_eq_true rfl, Nat.le_of_ble_eq_true rfl⟩) (fun r_26 er_26 => ?_)
      subst er_26
      refine lv_toc (y := 1) (by decide) ?_
      refine lv_if_ne (tgt := 17) hx hb dX8_paste_11 (by decide) (fun _ => ?_) (fun h9 => absurd h9 (by decide))
      refine lv_aload_n hx hb dX8_paste_17 rfl (lv_at hl 0 rfl) ?_
      refine va_get (ci := 8) (v := .ref (u 6)) (C := RX8) (T := TX8) (N := 41) hx hb hts in_r_M_paste_X8 hown hK hP 0 rfl rfl 37 (by decide) (hts (.fieldLink RX8 86 "UnseenClockModel" "many" "[I") (List.mem_of_getElem? (i := 9) rfl)) (fun _ h9 => h9) rfl dX8_paste_18 ?_
      refine lv_iload_n hx hb dX8_paste_21 rfl (lv_at hl 1 rfl) ?_
      refine va_iald hx hb hK hP 7 0 rfl rfl (by unfold vp_in; decide) dX8_paste_22 ?_
      refine lv_toc (y := (-1)) (by decide) ?_
      refine lv_iconst (v := (-1)) hx hb dX8_paste_23 (by decide) ?_
      refine lv_icmp_eq (tgt := 37) hx hb dX8_paste_24 (by decide) (fun _ => ?_) (fun h9 => absurd (by decide) h9)
      refine lv_bipush (v := (-6)) hx hb dX8_paste_37 (by decide) ?_
      exact e_s (v := (-6)) hx hb hr rfl (by decide) hlocks dX8_paste_39
  · rcases cs4 a3 with h_29 | rfl | rfl | rfl | rfl
    · refine lv_iload_n hx hb dX8_paste_0 rfl (lv_at hl 1 rfl) ?_
      refine vp_callSi (W.runS (As := [.int 1]) (rest := []) ⟨hx, hb, hml, hown, hts⟩ (r_M_isSlot l D E s.heap.size h0 u 1) (va_cwS 1 hts g_r_M_paste_r_M_isSlot rfl rfl rfl (by decide +kernel) ⟨Nat.le_of_ble_eq_true rfl, Nat.le_of_ble_eq_true rfl⟩) ⟨pre_blind, pre_at hP hK hD hN⟩ rfl rfl hl.1 rfl (lv_room (Nat.le_of_ble_eq_true rfl)) dX8_paste_1 ⟨Nat.le_of_ble_eq_true rfl, Nat.le_of_ble_eq_true rfl⟩) (fun r_30 er_30 => ?_)
      subst er_30
      refine lv_toc (y := 1) (by decide) ?_
      refine lv_if_eq (tgt := 14) hx hb dX8_paste_4 (by decide) (fun h9 => absurd h9 (by decide)) (fun _ => ?_)
      refine lv_iload_n hx hb dX8_paste_7 rfl (lv_at hl 3 rfl) ?_
      refine vp_callSi (W.runS (As := [.int a3]) (rest := []) ⟨hx, hb, hml, hown, hts⟩ (r_M_isSlot l D E s.heap.size h0 u a3) (va_cwS 1 hts g_r_M_paste_r_M_isSlot rfl rfl rfl (by decide +kernel) ⟨Nat.le_of_ble_eq_true rfl, Nat.le_of_ble_eq_true rfl⟩) ⟨pre_blind, pre_at hP hK hD hN⟩ rfl rfl hl.1 rfl (lv_room (Nat.le_of_ble_eq_true rfl)) dX8_paste_8 ⟨Nat.le_of_ble_eq_true rfl, Nat.le_of_ble_eq_true rfl⟩) (fun r_32 er_32 => ?_)
      subst er_32
      refine lv_toc (y := 0) (if_neg h_29) ?_
      refine lv_if_ne (tgt := 17) hx hb dX8_paste_11 (by decide) (fun h9 => absurd (by decide) h9) (fun _ => ?_)
      refine lv_bipush (v := (-2)) hx hb dX8_paste_14 (by decide) ?_
      exact e_s (v := (-2)) hx hb hr rfl (if_neg (fun q => h_29 q.2)).symm hlocks dX8_paste_16
    · refine lv_iload_n hx hb dX8_paste_0 rfl (lv_at hl 1 rfl) ?_
      refine vp_callSi (W.runS (As := [.int 1]) (rest := []) ⟨hx, hb, hml, hown, hts⟩ (r_M_isSlot l D E s.heap.size h0 u 1) (va_cwS 1 hts g_r_M_paste_r_M_isSlot rfl rfl rfl (by decide +kernel) ⟨Nat.le_of_ble_eq_true rfl, Nat.le_of_ble_eq_true rfl⟩) ⟨pre_blind, pre_at hP hK hD hN⟩ rfl rfl hl.1 rfl (lv_room (Nat.le_of_ble_eq_true rfl)) dX8_paste_1 ⟨Nat.le_of_ble_eq_true rfl, Nat.le_of_ble_eq_true rfl⟩) (fun r_34 er_34 => ?_)
      subst er_34
      refine lv_toc (y := 1) (by decide) ?_
      refine lv_if_eq (tgt := 14) hx hb dX8_paste_4 (by decide) (fun h9 => absurd h9 (by decide)) (fun _ => ?_)
      refine lv_iload_n hx hb dX8_paste_7 rfl (lv_at hl 3 rfl) ?_
      refine vp_callSi (W.runS (As := [.int 0]) (rest := []) ⟨hx, hb, hml, hown, hts⟩ (r_M_isSlot l D E s.heap.size h0 u 0) (va_cwS 1 hts g_r_M_paste_r_M_isSlot rfl rfl rfl (by decide +kernel) ⟨Nat.le_of_ble_eq_true rfl, Nat.le_of_ble_eq_true rfl⟩) ⟨pre_blind, pre_at hP hK hD hN⟩ rfl rfl hl.1 rfl (lv_room (Nat.le_of_ble_eq_true rfl)) dX8_paste_8 ⟨Nat.le_of_ble_eq_true rfl, Nat.le_of_ble_eq_true rfl⟩) (fun r_36 er_36 => ?_)
      subst er_36
      refine lv_toc (y := 1) (by decide) ?_
      refine lv_if_ne (tgt := 17) hx hb dX8_paste_11 (by decide) (fun _ => ?_) (fun h9 => absurd h9 (by decide))
      refine lv_aload_n hx hb dX8_paste_17 rfl (lv_at hl 0 rfl) ?_
      refine va_get (ci := 8) (v := .ref (u 6)) (C := RX8) (T := TX8) (N := 41) hx hb hts in_r_M_paste_X8 hown hK hP 0 rfl rfl 37 (by decide) (hts (.fieldLink RX8 86 "UnseenClockModel" "many" "[I") (List.mem_of_getElem? (i := 9) rfl)) (fun _ h9 => h9) rfl dX8_paste_18 ?_
      refine lv_iload_n hx hb dX8_paste_21 rfl (lv_at hl 1 rfl) ?_
      refine va_iald hx hb hK hP 7 0 rfl rfl (by unfold vp_in; decide) dX8_paste_22 ?_
      refine lv_toc (y := (-1)) (by decide) ?_
      refine lv_iconst (v := (-1)) hx hb dX8_paste_23 (by decide) ?_
      refine lv_icmp_eq (tgt := 37) hx hb dX8_paste_24 (by decide) (fun _ => ?_) (fun h9 => absurd (by decide) h9)
      refine lv_bipush (v := (-6)) hx hb dX8_paste_37 (by decide) ?_
      exact e_s (v := (-6)) hx hb hr rfl (by decide) hlocks dX8_paste_39
    · refine lv_iload_n hx hb dX8_paste_0 rfl (lv_at hl 1 rfl) ?_
      refine vp_callSi (W.runS (As := [.int 1]) (rest := []) ⟨hx, hb, hml, hown, hts⟩ (r_M_isSlot l D E s.heap.size h0 u 1) (va_cwS 1 hts g_r_M_paste_r_M_isSlot rfl rfl rfl (by decide +kernel) ⟨Nat.le_of_ble_eq_true rfl, Nat.le_of_ble_eq_true rfl⟩) ⟨pre_blind, pre_at hP hK hD hN⟩ rfl rfl hl.1 rfl (lv_room (Nat.le_of_ble_eq_true rfl)) dX8_paste_1 ⟨Nat.le_of_ble_eq_true rfl, Nat.le_of_ble_eq_true rfl⟩) (fun r_39 er_39 => ?_)
      subst er_39
      refine lv_toc (y := 1) (by decide) ?_
      refine lv_if_eq (tgt := 14) hx hb dX8_paste_4 (by decide) (fun h9 => absurd h9 (by decide)) (fun _ => ?_)
      refine lv_iload_n hx hb dX8_paste_7 rfl (lv_at hl 3 rfl) ?_
      refine vp_callSi (W.runS (As := [.int 1]) (rest := []) ⟨hx, hb, hml, hown, hts⟩ (r_M_isSlot l D E s.heap.size h0 u 1) (va_cwS 1 hts g_r_M_paste_r_M_isSlot rfl rfl rfl (by decide +kernel) ⟨Nat.le_of_ble_eq_true rfl, Nat.le_of_ble_eq_true rfl⟩) ⟨pre_blind, pre_at hP hK hD hN⟩ rfl rfl hl.1 rfl (lv_room (Nat.le_of_ble_eq_true rfl)) dX8_paste_8 ⟨Nat.le_of_ble_eq_true rfl, Nat.le_of_ble_eq_true rfl⟩) (fun r_41 er_41 => ?_)
      subst er_41
      refine lv_toc (y := 1) (by decide) ?_
      refine lv_if_ne (tgt := 17) hx hb dX8_paste_11 (by decide) (fun _ => ?_) (fun h9 => absurd h9 (by decide))
      refine lv_aload_n hx hb dX8_paste_17 rfl (lv_at hl 0 rfl) ?_
      refine va_get (ci := 8) (v := .ref (u 6)) (C := RX8) (T := TX8) (N := 41) hx hb hts in_r_M_paste_X8 hown hK hP 0 rfl rfl 37 (by decide) (hts (.fieldLink RX8 86 "UnseenClockModel" "many" "[I") (List.mem_of_getElem? (i := 9) rfl)) (fun _ h9 => h9) rfl dX8_paste_18 ?_
      refine lv_iload_n hx hb dX8_paste_21 rfl (lv_at hl 1 rfl) ?_
      refine va_iald hx hb hK hP 7 0 rfl rfl (by unfold vp_in; decide) dX8_paste_22 ?_
      refine lv_toc (y := (-1)) (by decide) ?_
      refine lv_iconst (v := (-1)) hx hb dX8_paste_23 (by decide) ?_
      refine lv_icmp_eq (tgt := 37) hx hb dX8_paste_24 (by decide) (fun _ => ?_) (fun h9 => absurd (by decide) h9)
      refine lv_bipush (v := (-6)) hx hb dX8_paste_37 (by decide) ?_
      exact e_s (v := (-6)) hx hb hr rfl (by decide) hlocks dX8_paste_39
    · refine lv_iload_n hx hb dX8_paste_0 rfl (lv_at hl 1 rfl) ?_
      refine vp_callSi (W.runS (As := [.int 1]) (rest := []) ⟨hx, hb, hml, hown, hts⟩ (r_M_isSlot l D E s.heap.size h0 u 1) (va_cwS 1 hts g_r_M_paste_r_M_isSlot rfl rfl rfl (by decide +kernel) ⟨Nat.le_of_ble_eq_true rfl, Nat.le_of_ble_eq_true rfl⟩) ⟨pre_blind, pre_at hP hK hD hN⟩ rfl rfl hl.1 rfl (lv_room (Nat.le_of_ble_eq_true rfl)) dX8_paste_1 ⟨Nat.le_of_ble_eq_true rfl, Nat.le_of_ble_eq_true rfl⟩) (fun r_44 er_44 => ?_)
      subst er_44
      refine lv_toc (y := 1) (by decide) ?_
      refine lv_if_eq (tgt := 14) hx hb dX8_paste_4 (by decide) (fun h9 => absurd h9 (by decide)) (fun _ => ?_)
      refine lv_iload_n hx hb dX8_paste_7 rfl (lv_at hl 3 rfl) ?_
      refine vp_callSi (W.runS (As := [.int 2]) (rest := []) ⟨hx, hb, hml, hown, hts⟩ (r_M_isSlot l D E s.heap.size h0 u 2) (va_cwS 1 hts g_r_M_paste_r_M_isSlot rfl rfl rfl (by decide +kernel) ⟨Nat.le_of_ble_eq_true rfl, Nat.le_of_ble_eq_true rfl⟩) ⟨pre_blind, pre_at hP hK hD hN⟩ rfl rfl hl.1 rfl (lv_room (Nat.le_of_ble_eq_true rfl)) dX8_paste_8 ⟨Nat.le_of_ble_eq_true rfl, Nat.le_of_ble_eq_true rfl⟩) (fun r_46 er_46 => ?_)
      subst er_46
      refine lv_toc (y := 1) (by decide) ?_
      refine lv_if_ne (tgt := 17) hx hb dX8_paste_11 (by decide) (fun _ => ?_) (fun h9 => absurd h9 (by decide))
      refine lv_aload_n hx hb dX8_paste_17 rfl (lv_at hl 0 rfl) ?_
      refine va_get (ci := 8) (v := .ref (u 6)) (C := RX8) (T := TX8) (N := 41) hx hb hts in_r_M_paste_X8 hown hK hP 0 rfl rfl 37 (by decide) (hts (.fieldLink RX8 86 "UnseenClockModel" "many" "[I") (List.mem_of_getElem? (i := 9) rfl)) (fun _ h9 => h9) rfl dX8_paste_18 ?_
      refine lv_iload_n hx hb dX8_paste_21 rfl (lv_at hl 1 rfl) ?_
      refine va_iald hx hb hK hP 7 0 rfl rfl (by unfold vp_in; decide) dX8_paste_22 ?_
      refine lv_toc (y := (-1)) (by decide) ?_
      refine lv_iconst (v := (-1)) hx hb dX8_paste_23 (by decide) ?_
      refine lv_icmp_eq (tgt := 37) hx hb dX8_paste_24 (by decide) (fun _ => ?_) (fun h9 => absurd (by decide) h9)
      refine lv_bipush (v := (-6)) hx hb dX8_paste_37 (by decide) ?_
      exact e_s (v := (-6)) hx hb hr rfl (by decide) hlocks dX8_paste_39
    · refine lv_iload_n hx hb dX8_paste_0 rfl (lv_at hl 1 rfl) ?_
      refine vp_callSi (W.runS (As := [.int 1]) (rest := []) ⟨hx, hb, hml, hown, hts⟩ (r_M_isSlot l D E s.heap.size h0 u 1) (va_cwS 1 hts g_r_M_paste_r_M_isSlot rfl rfl rfl (by decide +kernel) ⟨Nat.le_of_ble_eq_true rfl, Nat.le_of_ble_eq_true rfl⟩) ⟨pre_blind, pre_at hP hK hD hN⟩ rfl rfl hl.1 rfl (lv_room (Nat.le_of_ble_eq_true rfl)) dX8_paste_1 ⟨Nat.le_of_ble_eq_true rfl, Nat.le_of_ble_eq_true rfl⟩) (fun r_49 er_49 => ?_)
      subst er_49
      refine lv_toc (y := 1) (by decide) ?_
      refine lv_if_eq (tgt := 14) hx hb dX8_paste_4 (by decide) (fun h9 => absurd h9 (by decide)) (fun _ => ?_)
      refine lv_iload_n hx hb dX8_paste_7 rfl (lv_at hl 3 rfl) ?_
      refine vp_callSi (W.runS (As := [.int 3]) (rest := []) ⟨hx, hb, hml, hown, hts⟩ (r_M_isSlot l D E s.heap.size h0 u 3) (va_cwS 1 hts g_r_M_paste_r_M_isSlot rfl rfl rfl (by decide +kernel) ⟨Nat.le_of_ble_eq_true rfl, Nat.le_of_ble_eq_true rfl⟩) ⟨pre_blind, pre_at hP hK hD hN⟩ rfl rfl hl.1 rfl (lv_room (Nat.le_of_ble_eq_true rfl)) dX8_paste_8 ⟨Nat.le_of_ble_eq_true rfl, Nat.le_of_ble_eq_true rfl⟩) (fun r_51 er_51 => ?_)
      subst er_51
      refine lv_toc (y := 1) (by decide) ?_
      refine lv_if_ne (tgt := 17) hx hb dX8_paste_11 (by decide) (fun _ => ?_) (fun h9 => absurd h9 (by decide))
      refine lv_aload_n hx hb dX8_paste_17 rfl (lv_at hl 0 rfl) ?_
      refine va_get (ci := 8) (v := .ref (u 6)) (C := RX8) (T := TX8) (N := 41) hx hb hts in_r_M_paste_X8 hown hK hP 0 rfl rfl 37 (by decide) (hts (.fieldLink RX8 86 "UnseenClockModel" "many" "[I") (List.mem_of_getElem? (i := 9) rfl)) (fun _ h9 => h9) rfl dX8_paste_18 ?_
      refine lv_iload_n hx hb dX8_paste_21 rfl (lv_at hl 1 rfl) ?_
      refine va_iald hx hb hK hP 7 0 rfl rfl (by unfold vp_in; decide) dX8_paste_22 ?_
      refine lv_toc (y := (-1)) (by decide) ?_
      refine lv_iconst (v := (-1)) hx hb dX8_paste_23 (by decide) ?_
      refine lv_icmp_eq (tgt := 37) hx hb dX8_paste_24 (by decide) (fun _ => ?_) (fun h9 => absurd (by decide) h9)
      refine lv_bipush (v := (-6)) hx hb dX8_paste_37 (by decide) ?_
      exact e_s (v := (-6)) hx hb hr rfl (by decide) hlocks dX8_paste_39
  · rcases cs4 a3 with h_54 | rfl | rfl | rfl | rfl
    · refine lv_iload_n hx hb dX8_paste_0 rfl (lv_at hl 1 rfl) ?_
      refine vp_callSi (W.runS (As := [.int 2]) (rest := []) ⟨hx, hb, hml, hown, hts⟩ (r_M_isSlot l D E s.heap.size h0 u 2) (va_cwS 1 hts g_r_M_paste_r_M_isSlot rfl rfl rfl (by decide +kernel) ⟨Nat.le_of_ble_eq_true rfl, Nat.le_of_ble_eq_true rfl⟩) ⟨pre_blind, pre_at hP hK hD hN⟩ rfl rfl hl.1 rfl (lv_room (Nat.le_of_ble_eq_true rfl)) dX8_paste_1 ⟨Nat.le_of_ble_eq_true rfl, Nat.le_of_ble_eq_true rfl⟩) (fun r_55 er_55 => ?_)
      subst er_55
      refine lv_toc (y := 1) (by decide) ?_
      refine lv_if_eq (tgt := 14) hx hb dX8_paste_4 (by decide) (fun h9 => absurd h9 (by decide)) (fun _ => ?_)
      refine lv_iload_n hx hb dX8_paste_7 rfl (lv_at hl 3 rfl) ?_
      refine vp_callSi (W.runS (As := [.int a3]) (rest := []) ⟨hx, hb, hml, hown, hts⟩ (r_M_isSlot l D E s.heap.size h0 u a3) (va_cwS 1 hts g_r_M_paste_r_M_isSlot rfl rfl rfl (by decide +kernel) ⟨Nat.le_of_ble_eq_true rfl, Nat.le_of_ble_eq_true rfl⟩) ⟨pre_blind, pre_at hP hK hD hN⟩ rfl rfl hl.1 rfl (lv_room (Nat.le_of_ble_eq_true rfl)) dX8_paste_8 ⟨Nat.le_of_ble_eq_true rfl, Nat.le_of_ble_eq_true rfl⟩) (fun r_57 er_57 => ?_)
      subst er_57
      refine lv_toc (y := 0) (if_neg h_54) ?_
      refine lv_if_ne (tgt := 17) hx hb dX8_paste_11 (by decide) (fun h9 => absurd (by decide) h9) (fun _ => ?_)
      refine lv_bipush (v := (-2)) hx hb dX8_paste_14 (by decide) ?_
      exact e_s (v := (-2)) hx hb hr rfl (if_neg (fun q => h_54 q.2)).symm hlocks dX8_paste_16
    · refine lv_iload_n hx hb dX8_paste_0 rfl (lv_at hl 1 rfl) ?_
      refine vp_callSi (W.runS (As := [.int 2]) (rest := []) ⟨hx, hb, hml, hown, hts⟩ (r_M_isSlot l D E s.heap.size h0 u 2) (va_cwS 1 hts g_r_M_paste_r_M_isSlot rfl rfl rfl (by decide +kernel) ⟨Nat.le_of_ble_eq_true rfl, Nat.le_of_ble_eq_true rfl⟩) ⟨pre_blind, pre_at hP hK hD hN⟩ rfl rfl hl.1 rfl (lv_room (Nat.le_of_ble_eq_true rfl)) dX8_paste_1 ⟨Nat.le_of_ble_eq_true rfl, Nat.le_of_ble_eq_true rfl⟩) (fun r_59 er_59 => ?_)
      subst er_59
      refine lv_toc (y := 1) (by decide) ?_
      refine lv_if_eq (tgt := 14) hx hb dX8_paste_4 (by decide) (fun h9 => absurd h9 (by decide)) (fun _ => ?_)
      refine lv_iload_n hx hb dX8_paste_7 rfl (lv_at hl 3 rfl) ?_
      refine vp_callSi (W.runS (As := [.int 0]) (rest := []) ⟨hx, hb, hml, hown, hts⟩ (r_M_isSlot l D E s.heap.size h0 u 0) (va_cwS 1 hts g_r_M_paste_r_M_isSlot rfl rfl rfl (by decide +kernel) ⟨Nat.le_of_ble_eq_true rfl, Nat.le_of_ble_eq_true rfl⟩) ⟨pre_blind, pre_at hP hK hD hN⟩ rfl rfl hl.1 rfl (lv_room (Nat.le_of_ble_eq_true rfl)) dX8_paste_8 ⟨Nat.le_of_ble_eq_true rfl, Nat.le_of_ble_eq_true rfl⟩) (fun r_61 er_61 => ?_)
      subst er_61
      refine lv_toc (y := 1) (by decide) ?_
      refine lv_if_ne (tgt := 17) hx hb dX8_paste_11 (by decide) (fun _ => ?_) (fun h9 => absurd h9 (by decide))
      refine lv_aload_n hx hb dX8_paste_17 rfl (lv_at hl 0 rfl) ?_
      refine va_get (ci := 8) (v := .ref (u 6)) (C := RX8) (T := TX8) (N := 41) hx hb hts in_r_M_paste_X8 hown hK hP 0 rfl rfl 37 (by decide) (hts (.fieldLink RX8 86 "UnseenClockModel" "many" "[I") (List.mem_of_getElem? (i := 9) rfl)) (fun _ h9 => h9) rfl dX8_paste_18 ?_
      refine lv_iload_n hx hb dX8_paste_21 rfl (lv_at hl 1 rfl) ?_
      refine va_iald hx hb hK hP 7 0 rfl rfl (by unfold vp_in; decide) dX8_paste_22 ?_
      refine lv_toc (y := (-1)) (by decide) ?_
      refine lv_iconst (v := (-1)) hx hb dX8_paste_23 (by decide) ?_
      refine lv_icmp_eq (tgt := 37) hx hb dX8_paste_24 (by decide) (fun _ => ?_) (fun h9 => absurd (by decide) h9)
      refine lv_bipush (v := (-6)) hx hb dX8_paste_37 (by decide) ?_
      exact e_s (v := (-6)) hx hb hr rfl (by decide) hlocks dX8_paste_39
    · refine lv_iload_n hx hb dX8_paste_0 rfl (lv_at hl 1 rfl) ?_
      refine vp_callSi (W.runS (As := [.int 2]) (rest := []) ⟨hx, hb, hml, hown, hts⟩ (r_M_isSlot l D E s.heap.size h0 u 2) (va_cwS 1 hts g_r_M_paste_r_M_isSlot rfl rfl rfl (by decide +kernel) ⟨Nat.le_of_ble_eq_true rfl, Nat.le_of_ble_eq_true rfl⟩) ⟨pre_blind, pre_at hP hK hD hN⟩ rfl rfl hl.1 rfl (lv_room (Nat.le_of_ble_eq_true rfl)) dX8_paste_1 ⟨Nat.le_of_ble_eq_true rfl, Nat.le_of_ble_eq_true rfl⟩) (fun r_64 er_64 => ?_)
      subst er_64
      refine lv_toc (y := 1) (by decide) ?_
      refine lv_if_eq (tgt := 14) hx hb dX8_paste_4 (by decide) (fun h9 => absurd h9 (by decide)) (fun _ => ?_)
      refine lv_iload_n hx hb dX8_paste_7 rfl (lv_at hl 3 rfl) ?_
      refine vp_callSi (W.runS (As := [.int 1]) (rest := []) ⟨hx, hb, hml, hown, hts⟩ (r_M_isSlot l D E s.heap.size h0 u 1) (va_cwS 1 hts g_r_M_paste_r_M_isSlot rfl rfl rfl (by decide +kernel) ⟨Nat.le_of_ble_eq_true rfl, Nat.le_of_ble_eq_true rfl⟩) ⟨pre_blind, pre_at hP hK hD hN⟩ rfl rfl hl.1 rfl (lv_room (Nat.le_of_ble_eq_true rfl)) dX8_paste_8 ⟨Nat.le_of_ble_eq_true rfl, Nat.le_of_ble_eq_true rfl⟩) (fun r_66 er_66 => ?_)
      subst er_66
      refine lv_toc (y := 1) (by decide) ?_
      refine lv_if_ne (tgt := 17) hx hb dX8_paste_11 (by decide) (fun _ => ?_) (fun h9 => absurd h9 (by decide))
      refine lv_aload_n hx hb dX8_paste_17 rfl (lv_at hl 0 rfl) ?_
      refine va_get (ci := 8) (v := .ref (u 6)) (C := RX8) (T := TX8) (N := 41) hx hb hts in_r_M_paste_X8 hown hK hP 0 rfl rfl 37 (by decide) (hts (.fieldLink RX8 86 "UnseenClockModel" "many" "[I") (List.mem_of_getElem? (i := 9) rfl)) (fun _ h9 => h9) rfl dX8_paste_18 ?_
      refine lv_iload_n hx hb dX8_paste_21 rfl (lv_at hl 1 rfl) ?_
      refine va_iald hx hb hK hP 7 0 rfl rfl (by unfold vp_in; decide) dX8_paste_22 ?_
      refine lv_toc (y := (-1)) (by decide) ?_
      refine lv_iconst (v := (-1)) hx hb dX8_paste_23 (by decide) ?_
      refine lv_icmp_eq (tgt := 37) hx hb dX8_paste_24 (by decide) (fun _ => ?_) (fun h9 => absurd (by decide) h9)
      refine lv_bipush (v := (-6)) hx hb dX8_paste_37 (by decide) ?_
      exact e_s (v := (-6)) hx hb hr rfl (by decide) hlocks dX8_paste_39
    · refine lv_iload_n hx hb dX8_paste_0 rfl (lv_at hl 1 rfl) ?_
      refine vp_callSi (W.runS (As := [.int 2]) (rest := []) ⟨hx, hb, hml, hown, hts⟩ (r_M_isSlot l D E s.heap.size h0 u 2) (va_cwS 1 hts g_r_M_paste_r_M_isSlot rfl rfl rfl (by decide +kernel) ⟨Nat.le_of_ble_eq_true rfl, Nat.le_of_ble_eq_true rfl⟩) ⟨pre_blind, pre_at hP hK hD hN⟩ rfl rfl hl.1 rfl (lv_room (Nat.le_of_ble_eq_true rfl)) dX8_paste_1 ⟨Nat.le_of_ble_eq_true rfl, Nat.le_of_ble_eq_true rfl⟩) (fun r_69 er_69 => ?_)
      subst er_69
      refine lv_toc (y := 1) (by decide) ?_
      refine lv_if_eq (tgt := 14) hx hb dX8_paste_4 (by decide) (fun h9 => absurd h9 (by decide)) (fun _ => ?_)
      refine lv_iload_n hx hb dX8_paste_7 rfl (lv_at hl 3 rfl) ?_
      refine vp_callSi (W.runS (As := [.int 2]) (rest := []) ⟨hx, hb, hml, hown, hts⟩ (r_M_isSlot l D E s.heap.size h0 u 2) (va_cwS 1 hts g_r_M_paste_r_M_isSlot rfl rfl rfl (by decide +kernel) ⟨Nat.le_of_ble_eq_true rfl, Nat.le_of_ble_eq_true rfl⟩) ⟨pre_blind, pre_at hP hK hD hN⟩ rfl rfl hl.1 rfl (lv_room (Nat.le_of_ble_eq_true rfl)) dX8_paste_8 ⟨Nat.le_of_ble_eq_true rfl, Nat.le_of_ble_eq_true rfl⟩) (fun r_71 er_71 => ?_)
      subst er_71
      refine lv_toc (y := 1) (by decide) ?_
      refine lv_if_ne (tgt := 17) hx hb dX8_paste_11 (by decide) (fun _ => ?_) (fun h9 => absurd h9 (by decide))
      refine lv_aload_n hx hb dX8_paste_17 rfl (lv_at hl 0 rfl) ?_
      refine va_get (ci := 8) (v := .ref (u 6)) (C := RX8) (T := TX8) (N := 41) hx hb hts in_r_M_paste_X8 hown hK hP 0 rfl rfl 37 (by decide) (hts (.fieldLink RX8 86 "UnseenClockModel" "many" "[I") (List.mem_of_getElem? (i := 9) rfl)) (fun _ h9 => h9) rfl dX8_paste_18 ?_
      refine lv_iload_n hx hb dX8_paste_21 rfl (lv_at hl 1 rfl) ?_
      refine va_iald hx hb hK hP 7 0 rfl rfl (by unfold vp_in; decide) dX8_paste_22 ?_
      refine lv_toc (y := (-1)) (by decide) ?_
      refine lv_iconst (v := (-1)) hx hb dX8_paste_23 (by decide) ?_
      refine lv_icmp_eq (tgt := 37) hx hb dX8_paste_24 (by decide) (fun _ => ?_) (fun h9 => absurd (by decide) h9)
      refine lv_bipush (v := (-6)) hx hb dX8_paste_37 (by decide) ?_
      exact e_s (v := (-6)) hx hb hr rfl (by decide) hlocks dX8_paste_39
    · refine lv_iload_n hx hb dX8_paste_0 rfl (lv_at hl 1 rfl) ?_
      refine vp_callSi (W.runS (As := [.int 2]) (rest := []) ⟨hx, hb, hml, hown, hts⟩ (r_M_isSlot l D E s.heap.size h0 u 2) (va_cwS 1 hts g_r_M_paste_r_M_isSlot rfl rfl rfl (by decide +kernel) ⟨Nat.le_of_ble_eq_true rfl, Nat.le_of_ble_eq_true rfl⟩) ⟨pre_blind, pre_at hP hK hD hN⟩ rfl rfl hl.1 rfl (lv_room (Nat.le_of_ble_eq_true rfl)) dX8_paste_1 ⟨Nat.le_of_ble_eq_true rfl, Nat.le_of_ble_eq_true rfl⟩) (fun r_74 er_74 => ?_)
      subst er_74
      refine lv_toc (y := 1) (by decide) ?_
      refine lv_if_eq (tgt := 14) hx hb dX8_paste_4 (by decide) (fun h9 => absurd h9 (by decide)) (fun _ => ?_)
      refine lv_iload_n hx hb dX8_paste_7 rfl (lv_at hl 3 rfl) ?_
      refine vp_callSi (W.runS (As := [.int 3]) (rest := []) ⟨hx, hb, hml, hown, hts⟩ (r_M_isSlot l D E s.heap.size h0 u 3) (va_cwS 1 hts g_r_M_paste_r_M_isSlot rfl rfl rfl (by decide +kernel) ⟨Nat.le_of_ble_eq_true rfl, Nat.le_of_ble_eq_true rfl⟩) ⟨pre_blind, pre_at hP hK hD hN⟩ rfl rfl hl.1 rfl (lv_room (Nat.le_of_ble_eq_true rfl)) dX8_paste_8 ⟨Nat.le_of_ble_eq_true rfl, Nat.le_of_ble_eq_true rfl⟩) (fun r_76 er_76 => ?_)
      subst er_76
      refine lv_toc (y := 1) (by decide) ?_
      refine lv_if_ne (tgt := 17) hx hb dX8_paste_11 (by decide) (fun _ => ?_) (fun h9 => absurd h9 (by decide))
      refine lv_aload_n hx hb dX8_paste_17 rfl (lv_at hl 0 rfl) ?_
      refine va_get (ci := 8) (v := .ref (u 6)) (C := RX8) (T := TX8) (N := 41) hx hb hts in_r_M_paste_X8 hown hK hP 0 rfl rfl 37 (by decide) (hts (.fieldLink RX8 86 "UnseenClockModel" "many" "[I") (List.mem_of_getElem? (i := 9) rfl)) (fun _ h9 => h9) rfl dX8_paste_18 ?_
      refine lv_iload_n hx hb dX8_paste_21 rfl (lv_at hl 1 rfl) ?_
      refine va_iald hx hb hK hP 7 0 rfl rfl (by unfold vp_in; decide) dX8_paste_22 ?_
      refine lv_toc (y := (-1)) (by decide) ?_
      refine lv_iconst (v := (-1)) hx hb dX8_paste_23 (by decide) ?_
      refine lv_icmp_eq (tgt := 37) hx hb dX8_paste_24 (by decide) (fun _ => ?_) (fun h9 => absurd (by decide) h9)
      refine lv_bipush (v := (-6)) hx hb dX8_paste_37 (by decide) ?_
      exact e_s (v := (-6)) hx hb hr rfl (by decide) hlocks dX8_paste_39
  · rcases cs4 a3 with h_79 | rfl | rfl | rfl | rfl
    · refine lv_iload_n hx hb dX8_paste_0 rfl (lv_at hl 1 rfl) ?_
      refine vp_callSi (W.runS (As := [.int 3]) (rest := []) ⟨hx, hb, hml, hown, hts⟩ (r_M_isSlot l D E s.heap.size h0 u 3) (va_cwS 1 hts g_r_M_paste_r_M_isSlot rfl rfl rfl (by decide +kernel) ⟨Nat.le_of_ble_eq_true rfl, Nat.le_of_ble_eq_true rfl⟩) ⟨pre_blind, pre_at hP hK hD hN⟩ rfl rfl hl.1 rfl (lv_room (Nat.le_of_ble_eq_true rfl)) dX8_paste_1 ⟨Nat.le_of_ble_eq_true rfl, Nat.le_of_ble_eq_true rfl⟩) (fun r_80 er_80 => ?_)
      subst er_80
      refine lv_toc (y := 1) (by decide) ?_
      refine lv_if_eq (tgt := 14) hx hb dX8_paste_4 (by decide) (fun h9 => absurd h9 (by decide)) (fun _ => ?_)
      refine lv_iload_n hx hb dX8_paste_7 rfl (lv_at hl 3 rfl) ?_
      refine vp_callSi (W.runS (As := [.int a3]) (rest := []) ⟨hx, hb, hml, hown, hts⟩ (r_M_isSlot l D E s.heap.size h0 u a3) (va_cwS 1 hts g_r_M_paste_r_M_isSlot rfl rfl rfl (by decide +kernel) ⟨Nat.le_of_ble_eq_true rfl, Nat.le_of_ble_eq_true rfl⟩) ⟨pre_blind, pre_at hP hK hD hN⟩ rfl rfl hl.1 rfl (lv_room (Nat.le_of_ble_eq_true rfl)) dX8_paste_8 ⟨Nat.le_of_ble_eq_true rfl, Nat.le_of_ble_eq_true rfl⟩) (fun r_82 er_82 => ?_)
      subst er_82
      refine lv_toc (y := 0) (if_neg h_79) ?_
      refine lv_if_ne (tgt := 17) hx hb dX8_paste_11 (by decide) (fun h9 => absurd (by decide) h9) (fun _ => ?_)
      refine lv_bipush (v := (-2)) hx hb dX8_paste_14 (by decide) ?_
      exact e_s (v := (-2)) hx hb hr rfl (if_neg (fun q => h_79 q.2)).symm hlocks dX8_paste_16
    · refine lv_iload_n hx hb dX8_paste_0 rfl (lv_at hl 1 rfl) ?_
      refine vp_callSi (W.runS (As := [.int 3]) (rest := []) ⟨hx, hb, hml, hown, hts⟩ (r_M_isSlot l D E s.heap.size h0 u 3) (va_cwS 1 hts g_r_M_paste_r_M_isSlot rfl rfl rfl (by decide +kernel) ⟨Nat.le_of_ble_eq_true rfl, Nat.le_of_ble_eq_true rfl⟩) ⟨pre_blind, pre_at hP hK hD hN⟩ rfl rfl hl.1 rfl (lv_room (Nat.le_of_ble_eq_true rfl)) dX8_paste_1 ⟨Nat.le_of_ble_eq_true rfl, Nat.le_of_ble_eq_true rfl⟩) (fun r_84 er_84 => ?_)
      subst er_84
      refine lv_toc (y := 1) (by decide) ?_
      refine lv_if_eq (tgt := 14) hx hb dX8_paste_4 (by decide) (fun h9 => absurd h9 (by decide)) (fun _ => ?_)
      refine lv_iload_n hx hb dX8_paste_7 rfl (lv_at hl 3 rfl) ?_
      refine vp_callSi (W.runS (As := [.int 0]) (rest := []) ⟨hx, hb, hml, hown, hts⟩ (r_M_isSlot l D E s.heap.size h0 u 0) (va_cwS 1 hts g_r_M_paste_r_M_isSlot rfl rfl rfl (by decide +kernel) ⟨Nat.le_of_ble_eq_true rfl, Nat.le_of_ble_eq_true rfl⟩) ⟨pre_blind, pre_at hP hK hD hN⟩ rfl rfl hl.1 rfl (lv_room (Nat.le_of_ble_eq_true rfl)) dX8_paste_8 ⟨Nat.le_of_ble_eq_true rfl, Nat.le_of_ble_eq_true rfl⟩) (fun r_86 er_86 => ?_)
      subst er_86
      refine lv_toc (y := 1) (by decide) ?_
      refine lv_if_ne (tgt := 17) hx hb dX8_paste_11 (by decide) (fun _ => ?_) (fun h9 => absurd h9 (by decide))
      refine lv_aload_n hx hb dX8_paste_17 rfl (lv_at hl 0 rfl) ?_
      refine va_get (ci := 8) (v := .ref (u 6)) (C := RX8) (T := TX8) (N := 41) hx hb hts in_r_M_paste_X8 hown hK hP 0 rfl rfl 37 (by decide) (hts (.fieldLink RX8 86 "UnseenClockModel" "many" "[I") (List.mem_of_getElem? (i := 9) rfl)) (fun _ h9 => h9) rfl dX8_paste_18 ?_
      refine lv_iload_n hx hb dX8_paste_21 rfl (lv_at hl 1 rfl) ?_
      refine va_iald hx hb hK hP 7 0 rfl rfl (by unfold vp_in; decide) dX8_paste_22 ?_
      refine lv_toc (y := (-1)) (by decide) ?_
      refine lv_iconst (v := (-1)) hx hb dX8_paste_23 (by decide) ?_
      refine lv_icmp_eq (tgt := 37) hx hb dX8_paste_24 (by decide) (fun _ => ?_) (fun h9 => absurd (by decide) h9)
      refine lv_bipush (v := (-6)) hx hb dX8_paste_37 (by decide) ?_
      exact e_s (v := (-6)) hx hb hr rfl (by decide) hlocks dX8_paste_39
    · refine lv_iload_n hx hb dX8_paste_0 rfl (lv_at hl 1 rfl) ?_
      refine vp_callSi (W.runS (As := [.int 3]) (rest := []) ⟨hx, hb, hml, hown, hts⟩ (r_M_isSlot l D E s.heap.size h0 u 3) (va_cwS 1 hts g_r_M_paste_r_M_isSlot rfl rfl rfl (by decide +kernel) ⟨Nat.le_of_ble_eq_true rfl, Nat.le_of_ble_eq_true rfl⟩) ⟨pre_blind, pre_at hP hK hD hN⟩ rfl rfl hl.1 rfl (lv_room (Nat.le_of_ble_eq_true rfl)) dX8_paste_1 ⟨Nat.le_of_ble_eq_true rfl, Nat.le_of_ble_eq_true rfl⟩) (fun r_89 er_89 => ?_)
      subst er_89
      refine lv_toc (y := 1) (by decide) ?_
      refine lv_if_eq (tgt := 14) hx hb dX8_paste_4 (by decide) (fun h9 => absurd h9 (by decide)) (fun _ => ?_)
      refine lv_iload_n hx hb dX8_paste_7 rfl (lv_at hl 3 rfl) ?_
      refine vp_callSi (W.runS (As := [.int 1]) (rest := []) ⟨hx, hb, hml, hown, hts⟩ (r_M_isSlot l D E s.heap.size h0 u 1) (va_cwS 1 hts g_r_M_paste_r_M_isSlot rfl rfl rfl (by decide +kernel) ⟨Nat.le_of_ble_eq_true rfl, Nat.le_of_ble_eq_true rfl⟩) ⟨pre_blind, pre_at hP hK hD hN⟩ rfl rfl hl.1 rfl (lv_room (Nat.le_of_ble_eq_true rfl)) dX8_paste_8 ⟨Nat.le_of_ble_eq_true rfl, Nat.le_of_ble_eq_true rfl⟩) (fun r_91 er_91 => ?_)
      subst er_91
      refine lv_toc (y := 1) (by decide) ?_
      refine lv_if_ne (tgt := 17) hx hb dX8_paste_11 (by decide) (fun _ => ?_) (fun h9 => absurd h9 (by decide))
      refine lv_aload_n hx hb dX8_paste_17 rfl (lv_at hl 0 rfl) ?_
      refine va_get (ci := 8) (v := .ref (u 6)) (C := RX8) (T := TX8) (N := 41) hx hb hts in_r_M_paste_X8 hown hK hP 0 rfl rfl 37 (by decide) (hts (.fieldLink RX8 86 "UnseenClockModel" "many" "[I") (List.mem_of_getElem? (i := 9) rfl)) (fun _ h9 => h9) rfl dX8_paste_18 ?_
      refine lv_iload_n hx hb dX8_paste_21 rfl (lv_at hl 1 rfl) ?_
      refine va_iald hx hb hK hP 7 0 rfl rfl (by unfold vp_in; decide) dX8_paste_22 ?_
      refine lv_toc (y := (-1)) (by decide) ?_
      refine lv_iconst (v := (-1)) hx hb dX8_paste_23 (by decide) ?_
      refine lv_icmp_eq (tgt := 37) hx hb dX8_paste_24 (by decide) (fun _ => ?_) (fun h9 => absurd (by decide) h9)
      refine lv_bipush (v := (-6)) hx hb dX8_paste_37 (by decide) ?_
      exact e_s (v := (-6)) hx hb hr rfl (by decide) hlocks dX8_paste_39
    · refine lv_iload_n hx hb dX8_paste_0 rfl (lv_at hl 1 rfl) ?_
      refine vp_callSi (W.runS (As := [.int 3]) (rest := []) ⟨hx, hb, hml, hown, hts⟩ (r_M_isSlot l D E s.heap.size h0 u 3) (va_cwS 1 hts g_r_M_paste_r_M_isSlot rfl rfl rfl (by decide +kernel) ⟨Nat.le_of_ble_eq_true rfl, Nat.le_of_ble_eq_true rfl⟩) ⟨pre_blind, pre_at hP hK hD hN⟩ rfl rfl hl.1 rfl (lv_room (Nat.le_of_ble_eq_true rfl)) dX8_paste_1 ⟨Nat.le_of_ble_eq_true rfl, Nat.le_of_ble_eq_true rfl⟩) (fun r_94 er_94 => ?_)
      subst er_94
      refine lv_toc (y := 1) (by decide) ?_
      refine lv_if_eq (tgt := 14) hx hb dX8_paste_4 (by decide) (fun h9 => absurd h9 (by decide)) (fun _ => ?_)
      refine lv_iload_n hx hb dX8_paste_7 rfl (lv_at hl 3 rfl) ?_
      refine vp_callSi (W.runS (As := [.int 2]) (rest := []) ⟨hx, hb, hml, hown, hts⟩ (r_M_isSlot l D E s.heap.size h0 u 2) (va_cwS 1 hts g_r_M_paste_r_M_isSlot rfl rfl rfl (by decide +kernel) ⟨Nat.le_of_ble_eq_true rfl, Nat.le_of_ble_eq_true rfl⟩) ⟨pre_blind, pre_at hP hK hD hN⟩ rfl rfl hl.1 rfl (lv_room (Nat.le_of_ble_eq_true rfl)) dX8_paste_8 ⟨Nat.le_of_ble_eq_true rfl, Nat.le_of_ble_eq_true rfl⟩) (fun r_96 er_96 => ?_)
      subst er_96
      refine lv_toc (y := 1) (by decide) ?_
      refine lv_if_ne (tgt := 17) hx hb dX8_paste_11 (by decide) (fun _ => ?_) (fun h9 => absurd h9 (by decide))
      refine lv_aload_n hx hb dX8_paste_17 rfl (lv_at hl 0 rfl) ?_
      refine va_get (ci := 8) (v := .ref (u 6)) (C := RX8) (T := TX8) (N := 41) hx hb hts in_r_M_paste_X8 hown hK hP 0 rfl rfl 37 (by decide) (hts (.fieldLink RX8 86 "UnseenClockModel" "many" "[I") (List.mem_of_getElem? (i := 9) rfl)) (fun _ h9 => h9) rfl dX8_paste_18 ?_
      refine lv_iload_n hx hb dX8_paste_21 rfl (lv_at hl 1 rfl) ?_
      refine va_iald hx hb hK hP 7 0 rfl rfl (by unfold vp_in; decide) dX8_paste_22 ?_
      refine lv_toc (y := (-1)) (by decide) ?_
      refine lv_iconst (v := (-1)) hx hb dX8_paste_23 (by decide) ?_
      refine lv_icmp_eq (tgt := 37) hx hb dX8_paste_24 (by decide) (fun _ => ?_) (fun h9 => absurd (by decide) h9)
      refine lv_bipush (v := (-6)) hx hb dX8_paste_37 (by decide) ?_
      exact e_s (v := (-6)) hx hb hr rfl (by decide) hlocks dX8_paste_39
    · refine lv_iload_n hx hb dX8_paste_0 rfl (lv_at hl 1 rfl) ?_
      refine vp_callSi (W.runS (As := [.int 3]) (rest := []) ⟨hx, hb, hml, hown, hts⟩ (r_M_isSlot l D E s.heap.size h0 u 3) (va_cwS 1 hts g_r_M_paste_r_M_isSlot rfl rfl rfl (by decide +kernel) ⟨Nat.le_of_ble_eq_true rfl, Nat.le_of_ble_eq_true rfl⟩) ⟨pre_blind, pre_at hP hK hD hN⟩ rfl rfl hl.1 rfl (lv_room (Nat.le_of_ble_eq_true rfl)) dX8_paste_1 ⟨Nat.le_of_ble_eq_true rfl, Nat.le_of_ble_eq_true rfl⟩) (fun r_99 er_99 => ?_)
      subst er_99
      refine lv_toc (y := 1) (by decide) ?_
      refine lv_if_eq (tgt := 14) hx hb dX8_paste_4 (by decide) (fun h9 => absurd h9 (by decide)) (fun _ => ?_)
      refine lv_iload_n hx hb dX8_paste_7 rfl (lv_at hl 3 rfl) ?_
      refine vp_callSi (W.runS (As := [.int 3]) (rest := []) ⟨hx, hb, hml, hown, hts⟩ (r_M_isSlot l D E s.heap.size h0 u 3) (va_cwS 1 hts g_r_M_paste_r_M_isSlot rfl rfl rfl (by decide +kernel) ⟨Nat.le_of_ble_eq_true rfl, Nat.le_of_ble_eq_true rfl⟩) ⟨pre_blind, pre_at hP hK hD hN⟩ rfl rfl hl.1 rfl (lv_room (Nat.le_of_ble_eq_true rfl)) dX8_paste_8 ⟨Nat.le_of_ble_eq_true rfl, Nat.le_of_ble_eq_true rfl⟩) (fun r_101 er_101 => ?_)
      subst er_101
      refine lv_toc (y := 1) (by decide) ?_
      refine lv_if_ne (tgt := 17) hx hb dX8_paste_11 (by decide) (fun _ => ?_) (fun h9 => absurd h9 (by decide))
      refine lv_aload_n hx hb dX8_paste_17 rfl (lv_at hl 0 rfl) ?_
      refine va_get (ci := 8) (v := .ref (u 6)) (C := RX8) (T := TX8) (N := 41) hx hb hts in_r_M_paste_X8 hown hK hP 0 rfl rfl 37 (by decide) (hts (.fieldLink RX8 86 "UnseenClockModel" "many" "[I") (List.mem_of_getElem? (i := 9) rfl)) (fun _ h9 => h9) rfl dX8_paste_18 ?_
      refine lv_iload_n hx hb dX8_paste_21 rfl (lv_at hl 1 rfl) ?_
      refine va_iald hx hb hK hP 7 0 rfl rfl (by unfold vp_in; decide) dX8_paste_22 ?_
      refine lv_toc (y := (-1)) (by decide) ?_
      refine lv_iconst (v := (-1)) hx hb dX8_paste_23 (by decide) ?_
      refine lv_icmp_eq (tgt := 37) hx hb dX8_paste_24 (by decide) (fun _ => ?_) (fun h9 => absurd (by decide) h9)
      refine lv_bipush (v := (-6)) hx hb dX8_paste_37 (by decide) ?_
      exact e_s (v := (-6)) hx hb hr rfl (by decide) hlocks dX8_paste_39

def v_r_M_count : List Cond := .code yX8_count cX8_count 4 (some .int) :: ([.fieldLink RX8 9 "UnseenClockModel" "world" "[I", .fieldLink RX8 114 "UnseenClockModel" "taped" "I", .fieldLink RX8 86 "UnseenClockModel" "many" "[I"] ++ (wsX80))
theorem in_r_M_count_X8 : ∀ w ∈ u_ws RX8 TX8 41, w ∈ v_r_M_count := fun w h => List.mem_cons_of_mem _ (List.mem_append_right _ (h))
set_option maxHeartbeats 2000000 in
set_option maxRecDepth 100000 in
theorem r_M_count (l : Launch) (D : va_G) (E : Nat → ClassId) (sz : Nat) (h0 : Nat) (u : Nat → Nat) (a1 : Int32) : Met l yX8_count v_r_M_count ({ frames := 0, cells := 0, slots := 0, locals := 0 }) (va_Pc [.ref h0, .int a1] (pre D E (wM E h0 u) sz)) (vp_Si (fun r => r = if 0 ≤ a1.toInt ∧ a1.toInt ≤ 9 then 0 else -1)) 0 0 (fun _ => False) := by
  refine c_read (cc := cX8_count) (maxL := 4) (ret := (some .int)) (by decide) rfl (Nat.le_of_ble_eq_true rfl) ?_
  intro p e s m below meth c ls ⟨hx, hb, hr, hts, hown, hlocks, hin, hml⟩ hP hK hD hN hl
  have hown : s.vm.findClass RX8 = some m.cls := hown
  have hl : lv_has ls 4 [(0, .ref h0), (1, .int a1)] := hl
  rcases cs10 a1 with h_1 | rfl | rfl | rfl | rfl | rfl | rfl | rfl | rfl | rfl | rfl
  · refine lv_iconst (v := 0) hx hb dX8_count_0 (by decide) ?_
    refine lv_istore_n (lv' := [(2, .int 0), (0, .ref h0), (1, .int a1)]) hx hb dX8_count_1 rfl hl (by decide) rfl (fun ls hl => ?_)
    refine lv_iload_n hx hb dX8_count_2 rfl (lv_at hl 2 rfl) ?_
    refine lv_tableOut (tgt := 152) hx hb dX8_count_3 (out_tb h_1) (by decide) ?_
    refine lv_iconst (v := (-1)) hx hb dX8_count_152 (by decide) ?_
    exact e_s (v := (-1)) hx hb hr rfl (if_neg h_1).symm hlocks dX8_count_153
  · refine lv_iconst (v := 0) hx hb dX8_count_0 (by decide) ?_
    refine lv_istore_n (lv' := [(2, .int 0), (0, .ref h0), (1, .int 0)]) hx hb dX8_count_1 rfl hl (by decide) rfl (fun ls hl => ?_)
    refine lv_iload_n hx hb dX8_count_2 rfl (lv_at hl 2 rfl) ?_
    refine lv_tableIn (off := 53) (tgt := 56) hx hb dX8_count_3 (by decide) (by decide) (by decide) (by decide) ?_
    refine lv_aload_n hx hb dX8_count_56 rfl (lv_at hl 1 rfl) ?_
    refine va_get (ci := 8) (v := .ref (u 0)) (C := RX8) (T := TX8) (N := 41) hx hb hts in_r_M_count_X8 hown hK hP 0 rfl rfl 1 (by decide) (hts (.fieldLink RX8 9 "UnseenClockModel" "world" "[I") (List.mem_of_getElem? (i := 1) rfl)) (fun _ h9 => h9) rfl dX8_count_57 ?_
    refine lv_iconst (v := 4) hx hb dX8_count_60 (by decide) ?_
    refine va_iald hx hb hK hP 1 0 rfl rfl (by unfold vp_in; decide) dX8_count_61 ?_
    refine lv_toc (y := 0) rfl ?_
    exact e_s (v := 0) hx hb hr rfl (by decide) hlocks dX8_count_62
  · refine lv_iconst (v := 0) hx hb dX8_count_0 (by decide) ?_
    refine lv_istore_n (lv' := [(2, .int 0), (0, .ref h0), (1, .int 1)]) hx hb dX8_count_1 rfl hl (by decide) rfl (fun ls hl => ?_)
    refine lv_iload_n hx hb dX8_count_2 rfl (lv_at hl 2 rfl) ?_
    refine lv_tableIn (off := 60) (tgt := 63) hx hb dX8_count_3 (by decide) (by decide) (by decide) (by decide) ?_
    refine lv_aload_n hx hb dX8_count_63 rfl (lv_at hl 1 rfl) ?_
    refine va_get (ci := 8) (v := .ref (u 0)) (C := RX8) (T := TX8) (N := 41) hx hb hts in_r_M_count_X8 hown hK hP 0 rfl rfl 1 (by decide) (hts (.fieldLink RX8 9 "UnseenClockModel" "world" "[I") (List.mem_of_getElem? (i := 1) rfl)) (fun _ h9 => h9) rfl dX8_count_64 ?_
    refine lv_iconst (v := 5) hx hb dX8_count_67 (by decide) ?_
    refine va_iald hx hb hK hP 1 0 rfl rfl (by unfold vp_in; decide) dX8_count_68 ?_
    refine lv_toc (y := 0) rfl ?_
    exact e_s (v := 0) hx hb hr rfl (by decide) hlocks dX8_count_69
  · refine lv_iconst (v := 0) hx hb dX8_count_0 (by decide) ?_
    refine lv_istore_n (lv' := [(2, .int 0), (0, .ref h0), (1, .int 2)]) hx hb dX8_count_1 rfl hl (by decide) rfl (fun ls hl => ?_)
    refine lv_iload_n hx hb dX8_count_2 rfl (lv_at hl 2 rfl) ?_
    refine lv_tableIn (off := 67) (tgt := 70) hx hb dX8_count_3 (by decide) (by decide) (by decide) (by decide) ?_
    refine lv_aload_n hx hb dX8_count_70 rfl (lv_at hl 1 rfl) ?_
    refine va_get (ci := 8) (v := .ref (u 0)) (C := RX8) (T := TX8) (N := 41) hx hb hts in_r_M_count_X8 hown hK hP 0 rfl rfl 1 (by decide) (hts (.fieldLink RX8 9 "UnseenClockModel" "world" "[I") (List.mem_of_getElem? (i := 1) rfl)) (fun _ h9 => h9) rfl dX8_count_71 ?_
    refine lv_bipush (v := 6) hx hb dX8_count_74 (by decide) ?_
    refine va_iald hx hb hK hP 1 0 rfl rfl (by unfold vp_in; decide) dX8_count_76 ?_
    refine lv_toc (y := 0) rfl ?_
    exact e_s (v := 0) hx hb hr rfl (by decide) hlocks dX8_count_77
  · refine lv_iconst (v := 0) hx hb dX8_count_0 (by decide) ?_
    refine lv_istore_n (lv' := [(2, .int 0), (0, .ref h0), (1, .int 3)]) hx hb dX8_count_1 rfl hl (by decide) rfl (fun ls hl => ?_)
    refine lv_iload_n hx hb dX8_count_2 rfl (lv_at hl 2 rfl) ?_
    refine lv_tableIn (off := 75) (tgt := 78) hx hb dX8_count_3 (by decide) (by decide) (by decide) (by decide) ?_
    refine lv_aload_n hx hb dX8_count_78 rfl (lv_at hl 1 rfl) ?_
    refine va_get (ci := 8) (v := .ref (u 0)) (C := RX8) (T := TX8) (N := 41) hx hb hts in_r_M_count_X8 hown hK hP 0 rfl rfl 1 (by decide) (hts (.fieldLink RX8 9 "UnseenClockModel" "world" "[I") (List.mem_of_getElem? (i := 1) rfl)) (fun _ h9 => h9) rfl dX8_count_79 ?_
    refine lv_iconst (v := 1) hx hb dX8_count_82 (by decide) ?_
    refine va_iald hx hb hK hP 1 0 rfl rfl (by unfold vp_in; decide) dX8_count_83 ?_
    refine lv_toc (y := 0) rfl ?_
    exact e_s (v := 0) hx hb hr rfl (by decide) hlocks dX8_count_84
  · refine lv_iconst (v := 0) hx hb dX8_count_0 (by decide) ?_
    refine lv_istore_n (lv' := [(2, .int 0), (0, .ref h0), (1, .int 4)]) hx hb dX8_count_1 rfl hl (by decide) rfl (fun ls hl => ?_)
    refine lv_iload_n hx hb dX8_count_2 rfl (lv_at hl 2 rfl) ?_
    refine lv_tableIn (off := 82) (tgt := 85) hx hb dX8_count_3 (by decide) (by decide) (by decide) (by decide) ?_
    refine lv_aload_n hx hb dX8_count_85 rfl (lv_at hl 1 rfl) ?_
    refine va_get (ci := 8) (v := .ref (u 0)) (C := RX8) (T := TX8) (N := 41) hx hb hts in_r_M_count_X8 hown hK hP 0 rfl rfl 1 (by decide) (hts (.fieldLink RX8 9 "UnseenClockModel" "world" "[I") (List.mem_of_getElem? (i := 1) rfl)) (fun _ h9 => h9) rfl dX8_count_86 ?_
    refine lv_iconst (v := 2) hx hb dX8_count_89 (by decide) ?_
    refine va_iald hx hb hK hP 1 0 rfl rfl (by unfold vp_in; decide) dX8_count_90 ?_
    refine lv_toc (y := 0) rfl ?_
    exact e_s (v := 0) hx hb hr rfl (by decide) hlocks dX8_count_91
  · refine lv_iconst (v := 0) hx hb dX8_count_0 (by decide) ?_
    refine lv_istore_n (lv' := [(2, .int 0), (0, .ref h0), (1, .int 5)]) hx hb dX8_count_1 rfl hl (by decide) rfl (fun ls hl => ?_)
    refine lv_iload_n hx hb dX8_count_2 rfl (lv_at hl 2 rfl) ?_
    refine lv_tableIn (off := 89) (tgt := 92) hx hb dX8_count_3 (by decide) (by decide) (by decide) (by decide) ?_
    refine lv_aload_n hx hb dX8_count_92 rfl (lv_at hl 1 rfl) ?_
    refine va_get (ci := 8) (v := .ref (u 0)) (C := RX8) (T := TX8) (N := 41) hx hb hts in_r_M_count_X8 hown hK hP 0 rfl rfl 1 (by decide) (hts (.fieldLink RX8 9 "UnseenClockModel" "world" "[I") (List.mem_of_getElem? (i := 1) rfl)) (fun _ h9 => h9) rfl dX8_count_93 ?_
    refine lv_iconst (v := 0) hx hb dX8_count_96 (by decide) ?_
    refine va_iald hx hb hK hP 1 0 rfl rfl (by unfold vp_in; decide) dX8_count_97 ?_
    refine lv_toc (y := 0) rfl ?_
    exact e_s (v := 0) hx hb hr rfl (by decide) hlocks dX8_count_98
  · refine lv_iconst (v := 0) hx hb dX8_count_0 (by decide) ?_
    refine lv_istore_n (lv' := [(2, .int 0), (0, .ref h0), (1, .int 6)]) hx hb dX8_count_1 rfl hl (by decide) rfl (fun ls hl => ?_)
    refine lv_iload_n hx hb dX8_count_2 rfl (lv_at hl 2 rfl) ?_
    refine lv_tableIn (off := 96) (tgt := 99) hx hb dX8_count_3 (by decide) (by decide) (by decide) (by decide) ?_
    refine lv_aload_n hx hb dX8_count_99 rfl (lv_at hl 1 rfl) ?_
    refine va_get (ci := 8) (v := .ref (u 0)) (C := RX8) (T := TX8) (N := 41) hx hb hts in_r_M_count_X8 hown hK hP 0 rfl rfl 1 (by decide) (hts (.fieldLink RX8 9 "UnseenClockModel" "world" "[I") (List.mem_of_getElem? (i := 1) rfl)) (fun _ h9 => h9) rfl dX8_count_100 ?_
    refine lv_iconst (v := 3) hx hb dX8_count_103 (by decide) ?_
    refine va_iald hx hb hK hP 1 0 rfl rfl (by unfold vp_in; decide) dX8_count_104 ?_
    refine lv_toc (y := 0) rfl ?_
    exact e_s (v := 0) hx hb hr rfl (by decide) hlocks dX8_count_105
  · refine lv_iconst (v := 0) hx hb dX8_count_0 (by decide) ?_
    refine lv_istore_n (lv' := [(2, .int 0), (0, .ref h0), (1, .int 7)]) hx hb dX8_count_1 rfl hl (by decide) rfl (fun ls hl => ?_)
    refine lv_iload_n hx hb dX8_count_2 rfl (lv_at hl 2 rfl) ?_
    refine lv_tableIn (off := 103) (tgt := 106) hx hb dX8_count_3 (by decide) (by decide) (by decide) (by decide) ?_
    refine lv_aload_n hx hb dX8_count_106 rfl (lv_at hl 1 rfl) ?_
    refine va_get (ci := 8) (v := .int 0) (C := RX8) (T := TX8) (N := 41) hx hb hts in_r_M_count_X8 hown hK hP 0 rfl rfl 5 (by decide) (hts (.fieldLink RX8 114 "UnseenClockModel" "taped" "I") (List.mem_of_getElem? (i := 2) rfl)) (fun _ h9 => h9) rfl dX8_count_107 ?_
    exact e_s (v := 0) hx hb hr rfl (by decide) hlocks dX8_count_110
  · refine lv_iconst (v := 0) hx hb dX8_count_0 (by decide) ?_
    refine lv_istore_n (lv' := [(2, .int 0), (0, .ref h0), (1, .int 8)]) hx hb dX8_count_1 rfl hl (by decide) rfl (fun ls hl => ?_)
    refine lv_iload_n hx hb dX8_count_2 rfl (lv_at hl 2 rfl) ?_
    refine lv_tableIn (off := 108) (tgt := 111) hx hb dX8_count_3 (by decide) (by decide) (by decide) (by decide) ?_
    refine lv_aload_n hx hb dX8_count_111 rfl (lv_at hl 1 rfl) ?_
    refine va_get (ci := 8) (v := .ref (u 0)) (C := RX8) (T := TX8) (N := 41) hx hb hts in_r_M_count_X8 hown hK hP 0 rfl rfl 1 (by decide) (hts (.fieldLink RX8 9 "UnseenClockModel" "world" "[I") (List.mem_of_getElem? (i := 1) rfl)) (fun _ h9 => h9) rfl dX8_count_112 ?_
    refine lv_bipush (v := 7) hx hb dX8_count_115 (by decide) ?_
    refine va_iald hx hb hK hP 1 0 rfl rfl (by unfold vp_in; decide) dX8_count_117 ?_
    refine lv_toc (y := 0) rfl ?_
    exact e_s (v := 0) hx hb hr rfl (by decide) hlocks dX8_count_118
  · refine lv_iconst (v := 0) hx hb dX8_count_0 (by decide) ?_
    refine lv_istore_n (lv' := [(2, .int 0), (0, .ref h0), (1, .int 9)]) hx hb dX8_count_1 rfl hl (by decide) rfl (fun ls hl => ?_)
    refine lv_iload_n hx hb dX8_count_2 rfl (lv_at hl 2 rfl) ?_
    refine lv_tableIn (off := 116) (tgt := 119) hx hb dX8_count_3 (by decide) (by decide) (by decide) (by decide) ?_
    refine lv_iconst (v := 0) hx hb dX8_count_119 (by decide) ?_
    refine lv_istore_n (lv' := [(3, .int 0), (2, .int 0), (0, .ref h0), (1, .int 9)]) hx hb dX8_count_120 rfl hl (by decide) rfl (fun ls hl => ?_)
    refine lv_iload_n hx hb dX8_count_121 rfl (lv_at hl 0 rfl) ?_
    refine lv_iconst (v := 4) hx hb dX8_count_122 (by decide) ?_
    refine lv_icmp_ge (tgt := 150) hx hb dX8_count_123 (by decide) (fun h9 => absurd h9 (by decide)) (fun _ => ?_)
    refine lv_iload_n hx hb dX8_count_126 rfl (lv_at hl 1 rfl) ?_
    refine lv_aload_n hx hb dX8_count_127 rfl (lv_at hl 2 rfl) ?_
    refine va_get (ci := 8) (v := .ref (u 6)) (C := RX8) (T := TX8) (N := 41) hx hb hts in_r_M_count_X8 hown hK hP 0 rfl rfl 37 (by decide) (hts (.fieldLink RX8 86 "UnseenClockModel" "many" "[I") (List.mem_of_getElem? (i := 3) rfl)) (fun _ h9 => h9) rfl dX8_count_128 ?_
    refine lv_iload_n hx hb dX8_count_131 rfl (lv_at hl 0 rfl) ?_
    refine va_iald hx hb hK hP 7 0 rfl rfl (by unfold vp_in; decide) dX8_count_132 ?_
    refine lv_toc (y := (-1)) (by decide) ?_
    refine lv_iconst (v := (-1)) hx hb dX8_count_133 (by decide) ?_
    refine lv_icmp_ne (tgt := 141) hx hb dX8_count_134 (by decide) (fun h9 => absurd (by decide) h9) (fun _ => ?_)
    refine lv_iconst (v := 0) hx hb dX8_count_137 (by decide) ?_
    refine lv_goto (tgt := 142) hx hb dX8_count_138 (by decide) ?_
    refine lv_iadd hx hb dX8_count_142 ?_
    refine lv_toc (y := 0) (by decide) ?_
    refine lv_istore_n (lv' := [(2, .int 0), (3, .int 0), (0, .ref h0), (1, .int 9)]) hx hb dX8_count_143 rfl hl (by decide) rfl (fun ls hl => ?_)
    refine lv_iinc (v := 1) (lv' := [(3, .int 1), (2, .int 0), (0, .ref h0), (1, .int 9)]) hx hb dX8_count_144 hl (k := 1) rfl (by decide) (by decide) rfl (fun ls hl => ?_)
    refine lv_goto (tgt := 121) hx hb dX8_count_147 (by decide) ?_
    refine lv_iload_n hx hb dX8_count_121 rfl (lv_at hl 0 rfl) ?_
    refine lv_iconst (v := 4) hx hb dX8_count_122 (by decide) ?_
    refine lv_icmp_ge (tgt := 150) hx hb dX8_count_123 (by decide) (fun h9 => absurd h9 (by decide)) (fun _ => ?_)
    refine lv_iload_n hx hb dX8_count_126 rfl (lv_at hl 1 rfl) ?_
    refine lv_aload_n hx hb dX8_count_127 rfl (lv_at hl 2 rfl) ?_
    refine va_get (ci := 8) (v := .ref (u 6)) (C := RX8) (T := TX8) (N := 41) hx hb hts in_r_M_count_X8 hown hK hP 0 rfl rfl 37 (by decide) (hts (.fieldLink RX8 86 "UnseenClockModel" "many" "[I") (List.mem_of_getElem? (i := 3) rfl)) (fun _ h9 => h9) rfl dX8_count_128 ?_
    refine lv_iload_n hx hb dX8_count_131 rfl (lv_at hl 0 rfl) ?_
    refine va_iald hx hb hK hP 7 0 rfl rfl (by unfold vp_in; decide) dX8_count_132 ?_
    refine lv_toc (y := (-1)) (by decide) ?_
    refine lv_iconst (v := (-1)) hx hb dX8_count_133 (by decide) ?_
    refine lv_icmp_ne (tgt := 141) hx hb dX8_count_134 (by decide) (fun h9 => absurd (by decide) h9) (fun _ => ?_)
    refine lv_iconst (v := 0) hx hb dX8_count_137 (by decide) ?_
    refine lv_goto (tgt := 142) hx hb dX8_count_138 (by decide) ?_
    refine lv_iadd hx hb dX8_count_142 ?_
    refine lv_toc (y := 0) (by decide) ?_
    refine lv_istore_n (lv' := [(2, .int 0), (3, .int 1), (0, .ref h0), (1, .int 9)]) hx hb dX8_count_143 rfl hl (by decide) rfl (fun ls hl => ?_)
    refine lv_iinc (v := 2) (lv' := [(3, .int 2), (2, .int 0), (0, .ref h0), (1, .int 9)]) hx hb dX8_count_144 hl (k := 1) rfl (by decide) (by decide) rfl (fun ls hl => ?_)
    refine lv_goto (tgt := 121) hx hb dX8_count_147 (by decide) ?_
    refine lv_iload_n hx hb dX8_count_121 rfl (lv_at hl 0 rfl) ?_
    refine lv_iconst (v := 4) hx hb dX8_count_122 (by decide) ?_
    refine lv_icmp_ge (tgt := 150) hx hb dX8_count_123 (by decide) (fun h9 => absurd h9 (by decide)) (fun _ => ?_)
    refine lv_iload_n hx hb dX8_count_126 rfl (lv_at hl 1 rfl) ?_
    refine lv_aload_n hx hb dX8_count_127 rfl (lv_at hl 2 rfl) ?_
    refine va_get (ci := 8) (v := .ref (u 6)) (C := RX8) (T := TX8) (N := 41) hx hb hts in_r_M_count_X8 hown hK hP 0 rfl rfl 37 (by decide) (hts (.fieldLink RX8 86 "UnseenClockModel" "many" "[I") (List.mem_of_getElem? (i := 3) rfl)) (fun _ h9 => h9) rfl dX8_count_128 ?_
    refine lv_iload_n hx hb dX8_count_131 rfl (lv_at hl 0 rfl) ?_
    refine va_iald hx hb hK hP 7 0 rfl rfl (by unfold vp_in; decide) dX8_count_132 ?_
    refine lv_toc (y := (-1)) (by decide) ?_
    refine lv_iconst (v := (-1)) hx hb dX8_count_133 (by decide) ?_
    refine lv_icmp_ne (tgt := 141) hx hb dX8_count_134 (by decide) (fun h9 => absurd (by decide) h9) (fun _ => ?_)
    refine lv_iconst (v := 0) hx hb dX8_count_137 (by decide) ?_
    refine lv_goto (tgt := 142) hx hb dX8_count_138 (by decide) ?_
    refine lv_iadd hx hb dX8_count_142 ?_
    refine lv_toc (y := 0) (by decide) ?_
    refine lv_istore_n (lv' := [(2, .int 0), (3, .int 2), (0, .ref h0), (1, .int 9)]) hx hb dX8_count_143 rfl hl (by decide) rfl (fun ls hl => ?_)
    refine lv_iinc (v := 3) (lv' := [(3, .int 3), (2, .int 0), (0, .ref h0), (1, .int 9)]) hx hb dX8_count_144 hl (k := 1) rfl (by decide) (by decide) rfl (fun ls hl => ?_)
    refine lv_goto (tgt := 121) hx hb dX8_count_147 (by decide) ?_
    refine lv_iload_n hx hb dX8_count_121 rfl (lv_at hl 0 rfl) ?_
    refine lv_iconst (v := 4) hx hb dX8_count_122 (by decide) ?_
    refine lv_icmp_ge (tgt := 150) hx hb dX8_count_123 (by decide) (fun h9 => absurd h9 (by decide)) (fun _ => ?_)
    refine lv_iload_n hx hb dX8_count_126 rfl (lv_at hl 1 rfl) ?_
    refine lv_aload_n hx hb dX8_count_127 rfl (lv_at hl 2 rfl) ?_
    refine va_get (ci := 8) (v := .ref (u 6)) (C := RX8) (T := TX8) (N := 41) hx hb hts in_r_M_count_X8 hown hK hP 0 rfl rfl 37 (by decide) (hts (.fieldLink RX8 86 "UnseenClockModel" "many" "[I") (List.mem_of_getElem? (i := 3) rfl)) (fun _ h9 => h9) rfl dX8_count_128 ?_
    refine lv_iload_n hx hb dX8_count_131 rfl (lv_at hl 0 rfl) ?_
    refine va_iald hx hb hK hP 7 0 rfl rfl (by unfold vp_in; decide) dX8_count_132 ?_
    refine lv_toc (y := (-1)) (by decide) ?_
    refine lv_iconst (v := (-1)) hx hb dX8_count_133 (by decide) ?_
    refine lv_icmp_ne (tgt := 141) hx hb dX8_count_134 (by decide) (fun h9 => absurd (by decide) h9) (fun _ => ?_)
    refine lv_iconst (v := 0) hx hb dX8_count_137 (by decide) ?_
    refine lv_goto (tgt := 142) hx hb dX8_count_138 (by decide) ?_
    refine lv_iadd hx hb dX8_count_142 ?_
    refine lv_toc (y := 0) (by decide) ?_
    refine lv_istore_n (lv' := [(2, .int 0), (3, .int 3), (0, .ref h0), (1, .int 9)]) hx hb dX8_count_143 rfl hl (by decide) rfl (fun ls hl => ?_)
    refine lv_iinc (v := 4) (lv' := [(3, .int 4), (2, .int 0), (0, .ref h0), (1, .int 9)]) hx hb dX8_count_144 hl (k := 1) rfl (by decide) (by decide) rfl (fun ls hl => ?_)
    refine lv_goto (tgt := 121) hx hb dX8_count_147 (by decide) ?_
    refine lv_iload_n hx hb dX8_count_121 rfl (lv_at hl 0 rfl) ?_
    refine lv_iconst (v := 4) hx hb dX8_count_122 (by decide) ?_
    refine lv_icmp_ge (tgt := 150) hx hb dX8_count_123 (by decide) (fun _ => ?_) (fun h9 => absurd (by decide) h9)
    refine lv_iload_n hx hb dX8_count_150 rfl (lv_at hl 1 rfl) ?_
    exact e_s (v := 0) hx hb hr rfl (by decide) hlocks dX8_count_151

