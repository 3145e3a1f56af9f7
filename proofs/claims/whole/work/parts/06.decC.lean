theorem dX7_init_0 : decode cX7_init 0 = .ok (.aload_n 0, 1) := by decide +kernel
theorem dX7_init_1 : decode cX7_init 1 = .ok (.invokespecial 1, 3) := by decide +kernel
theorem dX7_init_4 : decode cX7_init 4 = .ok (.aload_n 0, 1) := by decide +kernel
theorem dX7_init_5 : decode cX7_init 5 = .ok (.sipush 240, 3) := by decide +kernel
theorem dX7_init_8 : decode cX7_init 8 = .ok (.newarray .int, 2) := by decide +kernel
theorem dX7_init_10 : decode cX7_init 10 = .ok (.putfield 7, 3) := by decide +kernel
theorem dX7_init_13 : decode cX7_init 13 = .ok (.aload_n 0, 1) := by decide +kernel
theorem dX7_init_14 : decode cX7_init 14 = .ok (.iconst (-1), 1) := by decide +kernel
theorem dX7_init_15 : decode cX7_init 15 = .ok (.putfield 13, 3) := by decide +kernel
theorem dX7_init_18 : decode cX7_init 18 = .ok (.aload_n 0, 1) := by decide +kernel
theorem dX7_init_19 : decode cX7_init 19 = .ok (.iconst 3, 1) := by decide +kernel
theorem dX7_init_20 : decode cX7_init 20 = .ok (.newarray .int, 2) := by decide +kernel
theorem dX7_init_22 : decode cX7_init 22 = .ok (.putfield 17, 3) := by decide +kernel
theorem dX7_init_25 : decode cX7_init 25 = .ok (.aload_n 0, 1) := by decide +kernel
theorem dX7_init_26 : decode cX7_init 26 = .ok (.bipush 24, 2) := by decide +kernel
theorem dX7_init_28 : decode cX7_init 28 = .ok (.newarray .int, 2) := by decide +kernel
theorem dX7_init_30 : decode cX7_init 30 = .ok (.putfield 20, 3) := by decide +kernel
theorem dX7_init_33 : decode cX7_init 33 = .ok (.aload_n 0, 1) := by decide +kernel
theorem dX7_init_34 : decode cX7_init 34 = .ok (.iconst 4, 1) := by decide +kernel
theorem dX7_init_35 : decode cX7_init 35 = .ok (.newarray .int, 2) := by decide +kernel
theorem dX7_init_37 : decode cX7_init 37 = .ok (.putfield 23, 3) := by decide +kernel
theorem dX7_init_40 : decode cX7_init 40 = .ok (.aload_n 0, 1) := by decide +kernel
theorem dX7_init_41 : decode cX7_init 41 = .ok (.iconst 3, 1) := by decide +kernel
theorem dX7_init_42 : decode cX7_init 42 = .ok (.newarray .int, 2) := by decide +kernel
theorem dX7_init_44 : decode cX7_init 44 = .ok (.putfield 26, 3) := by decide +kernel
theorem dX7_init_47 : decode cX7_init 47 = .ok (.aload_n 0, 1) := by decide +kernel
theorem dX7_init_48 : decode cX7_init 48 = .ok (.bipush 8, 2) := by decide +kernel
theorem dX7_init_50 : decode cX7_init 50 = .ok (.newarray .int, 2) := by decide +kernel
theorem dX7_init_52 : decode cX7_init 52 = .ok (.putfield 29, 3) := by decide +kernel
theorem dX7_init_55 : decode cX7_init 55 = .ok (.aload_n 0, 1) := by decide +kernel
theorem dX7_init_56 : decode cX7_init 56 = .ok (.iconst 4, 1) := by decide +kernel
theorem dX7_init_57 : decode cX7_init 57 = .ok (.newarray .int, 2) := by decide +kernel
theorem dX7_init_59 : decode cX7_init 59 = .ok (.putfield 32, 3) := by decide +kernel
theorem dX7_init_62 : decode cX7_init 62 = .ok (.aload_n 0, 1) := by decide +kernel
theorem dX7_init_63 : decode cX7_init 63 = .ok (.bipush 27, 2) := by decide +kernel
theorem dX7_init_65 : decode cX7_init 65 = .ok (.newarray .int, 2) := by decide +kernel
theorem dX7_init_67 : decode cX7_init 67 = .ok (.putfield 35, 3) := by decide +kernel
theorem dX7_init_70 : decode cX7_init 70 = .ok (.aload_n 0, 1) := by decide +kernel
theorem dX7_init_71 : decode cX7_init 71 = .ok (.sipush 540, 3) := by decide +kernel
theorem dX7_init_74 : decode cX7_init 74 = .ok (.newarray .int, 2) := by decide +kernel
theorem dX7_init_76 : decode cX7_init 76 = .ok (.putfield 38, 3) := by decide +kernel
theorem dX7_init_79 : decode cX7_init 79 = .ok (.aload_n 0, 1) := by decide +kernel
theorem dX7_init_80 : decode cX7_init 80 = .ok (.bipush 12, 2) := by decide +kernel
theorem dX7_init_82 : decode cX7_init 82 = .ok (.newarray .int, 2) := by decide +kernel
theorem dX7_init_84 : decode cX7_init 84 = .ok (.putfield 41, 3) := by decide +kernel
theorem dX7_init_87 : decode cX7_init 87 = .ok (.aload_n 0, 1) := by decide +kernel
theorem dX7_init_88 : decode cX7_init 88 = .ok (.bipush 30, 2) := by decide +kernel
theorem dX7_init_90 : decode cX7_init 90 = .ok (.newarray .int, 2) := by decide +kernel
theorem dX7_init_92 : decode cX7_init 92 = .ok (.putfield 44, 3) := by decide +kernel
theorem dX7_init_95 : decode cX7_init 95 = .ok (.aload_n 0, 1) := by decide +kernel
theorem dX7_init_96 : decode cX7_init 96 = .ok (.iconst 2, 1) := by decide +kernel
theorem dX7_init_97 : decode cX7_init 97 = .ok (.newarray .boolean, 2) := by decide +kernel
theorem dX7_init_99 : decode cX7_init 99 = .ok (.putfield 47, 3) := by decide +kernel
theorem dX7_init_102 : decode cX7_init 102 = .ok (.aload_n 0, 1) := by decide +kernel
theorem dX7_init_103 : decode cX7_init 103 = .ok (.bipush 54, 2) := by decide +kernel
theorem dX7_init_105 : decode cX7_init 105 = .ok (.newarray .int, 2) := by decide +kernel
theorem dX7_init_107 : decode cX7_init 107 = .ok (.putfield 51, 3) := by decide +kernel
theorem dX7_init_110 : decode cX7_init 110 = .ok (.aload_n 0, 1) := by decide +kernel
theorem dX7_init_111 : decode cX7_init 111 = .ok (.iconst 2, 1) := by decide +kernel
theorem dX7_init_112 : decode cX7_init 112 = .ok (.newarray .long, 2) := by decide +kernel
theorem dX7_init_114 : decode cX7_init 114 = .ok (.putfield 54, 3) := by decide +kernel
theorem dX7_init_117 : decode cX7_init 117 = .ok (.aload_n 0, 1) := by decide +kernel
theorem dX7_init_118 : decode cX7_init 118 = .ok (.getfield 35, 3) := by decide +kernel
theorem dX7_init_121 : decode cX7_init 121 = .ok (.bipush 26, 2) := by decide +kernel
theorem dX7_init_123 : decode cX7_init 123 = .ok (.iconst (-1), 1) := by decide +kernel
theorem dX7_init_124 : decode cX7_init 124 = .ok (.iastore, 1) := by decide +kernel
theorem dX7_init_125 : decode cX7_init 125 = .ok (.return_, 1) := by decide +kernel
theorem dX7_in_0 : decode cX7_in 0 = .ok (.iload_n 0, 1) := by decide +kernel
theorem dX7_in_1 : decode cX7_in 1 = .ok (.iload_n 1, 1) := by decide +kernel
theorem dX7_in_2 : decode cX7_in 2 = .ok (.if_icmp .lt 12, 3) := by decide +kernel
theorem dX7_in_5 : decode cX7_in 5 = .ok (.iload_n 0, 1) := by decide +kernel
theorem dX7_in_6 : decode cX7_in 6 = .ok (.iload_n 2, 1) := by decide +kernel
theorem dX7_in_7 : decode cX7_in 7 = .ok (.if_icmp .gt 7, 3) := by decide +kernel
theorem dX7_in_10 : decode cX7_in 10 = .ok (.iconst 1, 1) := by decide +kernel
theorem dX7_in_11 : decode cX7_in 11 = .ok (.goto 4, 3) := by decide +kernel
theorem dX7_in_14 : decode cX7_in 14 = .ok (.iconst 0, 1) := by decide +kernel
theorem dX7_in_15 : decode cX7_in 15 = .ok (.ireturn, 1) := by decide +kernel
theorem dX7_bits_0 : decode cX7_bits 0 = .ok (.iconst 0, 1) := by decide +kernel
theorem dX7_bits_1 : decode cX7_bits 1 = .ok (.istore_n 1, 1) := by decide +kernel
theorem dX7_bits_2 : decode cX7_bits 2 = .ok (.iload_n 0, 1) := by decide +kernel
theorem dX7_bits_3 : decode cX7_bits 3 = .ok (.istore_n 2, 1) := by decide +kernel
theorem dX7_bits_4 : decode cX7_bits 4 = .ok (.iload_n 2, 1) := by decide +kernel
theorem dX7_bits_5 : decode cX7_bits 5 = .ok (.ifCond .eq 15, 3) := by decide +kernel
theorem dX7_bits_8 : decode cX7_bits 8 = .ok (.iinc 1 1, 3) := by decide +kernel
theorem dX7_bits_11 : decode cX7_bits 11 = .ok (.iload_n 2, 1) := by decide +kernel
theorem dX7_bits_12 : decode cX7_bits 12 = .ok (.iload_n 2, 1) := by decide +kernel
theorem dX7_bits_13 : decode cX7_bits 13 = .ok (.iconst 1, 1) := by decide +kernel
theorem dX7_bits_14 : decode cX7_bits 14 = .ok (.isub, 1) := by decide +kernel
theorem dX7_bits_15 : decode cX7_bits 15 = .ok (.iand, 1) := by decide +kernel
theorem dX7_bits_16 : decode cX7_bits 16 = .ok (.istore_n 2, 1) := by decide +kernel
theorem dX7_bits_17 : decode cX7_bits 17 = .ok (.goto (-13), 3) := by decide +kernel
theorem dX7_bits_20 : decode cX7_bits 20 = .ok (.iload_n 1, 1) := by decide +kernel
theorem dX7_bits_21 : decode cX7_bits 21 = .ok (.ireturn, 1) := by decide +kernel
theorem dX7_feed_0 : decode cX7_feed 0 = .ok (.iload_n 1, 1) := by decide +kernel
theorem dX7_feed_1 : decode cX7_feed 1 = .ok (.iconst 0, 1) := by decide +kernel
theorem dX7_feed_2 : decode cX7_feed 2 = .ok (.sipush 255, 3) := by decide +kernel
theorem dX7_feed_5 : decode cX7_feed 5 = .ok (.invokestatic 58, 3) := by decide +kernel
theorem dX7_feed_8 : decode cX7_feed 8 = .ok (.ifCond .ne 6, 3) := by decide +kernel
theorem dX7_feed_11 : decode cX7_feed 11 = .ok (.ldc 62, 2) := by decide +kernel
theorem dX7_feed_13 : decode cX7_feed 13 = .ok (.ireturn, 1) := by decide +kernel
theorem dX7_feed_14 : decode cX7_feed 14 = .ok (.aload_n 0, 1) := by decide +kernel
theorem dX7_feed_15 : decode cX7_feed 15 = .ok (.getfield 63, 3) := by decide +kernel
theorem dX7_feed_18 : decode cX7_feed 18 = .ok (.sipush 240, 3) := by decide +kernel
theorem dX7_feed_21 : decode cX7_feed 21 = .ok (.if_icmp .ne 6, 3) := by decide +kernel
theorem dX7_feed_24 : decode cX7_feed 24 = .ok (.ldc 66, 2) := by decide +kernel
theorem dX7_feed_26 : decode cX7_feed 26 = .ok (.ireturn, 1) := by decide +kernel
theorem dX7_feed_27 : decode cX7_feed 27 = .ok (.aload_n 0, 1) := by decide +kernel
theorem dX7_feed_28 : decode cX7_feed 28 = .ok (.getfield 7, 3) := by decide +kernel
theorem dX7_feed_31 : decode cX7_feed 31 = .ok (.aload_n 0, 1) := by decide +kernel
theorem dX7_feed_32 : decode cX7_feed 32 = .ok (.getfield 63, 3) := by decide +kernel
theorem dX7_feed_35 : decode cX7_feed 35 = .ok (.iload_n 1, 1) := by decide +kernel
theorem dX7_feed_36 : decode cX7_feed 36 = .ok (.iastore, 1) := by decide +kernel
theorem dX7_feed_37 : decode cX7_feed 37 = .ok (.aload_n 0, 1) := by decide +kernel
theorem dX7_feed_38 : decode cX7_feed 38 = .ok (.dup, 1) := by decide +kernel
theorem dX7_feed_39 : decode cX7_feed 39 = .ok (.getfield 63, 3) := by decide +kernel
theorem dX7_feed_42 : decode cX7_feed 42 = .ok (.iconst 1, 1) := by decide +kernel
theorem dX7_feed_43 : decode cX7_feed 43 = .ok (.iadd, 1) := by decide +kernel
theorem dX7_feed_44 : decode cX7_feed 44 = .ok (.putfield 63, 3) := by decide +kernel
theorem dX7_feed_47 : decode cX7_feed 47 = .ok (.aload_n 0, 1) := by decide +kernel
theorem dX7_feed_48 : decode cX7_feed 48 = .ok (.getfield 63, 3) := by decide +kernel
theorem dX7_feed_51 : decode cX7_feed 51 = .ok (.ireturn, 1) := by decide +kernel
theorem dX7_fault_0 : decode cX7_fault 0 = .ok (.aload_n 0, 1) := by decide +kernel
theorem dX7_fault_1 : decode cX7_fault 1 = .ok (.getfield 13, 3) := by decide +kernel
theorem dX7_fault_4 : decode cX7_fault 4 = .ok (.ireturn, 1) := by decide +kernel
theorem dX7_letterAt_0 : decode cX7_letterAt 0 = .ok (.iload_n 1, 1) := by decide +kernel
theorem dX7_letterAt_1 : decode cX7_letterAt 1 = .ok (.aload_n 0, 1) := by decide +kernel
theorem dX7_letterAt_2 : decode cX7_letterAt 2 = .ok (.getfield 63, 3) := by decide +kernel
theorem dX7_letterAt_5 : decode cX7_letterAt 5 = .ok (.if_icmp .ge 12, 3) := by decide +kernel
theorem dX7_letterAt_8 : decode cX7_letterAt 8 = .ok (.aload_n 0, 1) := by decide +kernel
theorem dX7_letterAt_9 : decode cX7_letterAt 9 = .ok (.getfield 7, 3) := by decide +kernel
theorem dX7_letterAt_12 : decode cX7_letterAt 12 = .ok (.iload_n 1, 1) := by decide +kernel
theorem dX7_letterAt_13 : decode cX7_letterAt 13 = .ok (.iaload, 1) := by decide +kernel
theorem dX7_letterAt_14 : decode cX7_letterAt 14 = .ok (.goto 4, 3) := by decide +kernel
theorem dX7_letterAt_17 : decode cX7_letterAt 17 = .ok (.iconst (-1), 1) := by decide +kernel
theorem dX7_letterAt_18 : decode cX7_letterAt 18 = .ok (.ireturn, 1) := by decide +kernel
theorem dX7_blanks_0 : decode cX7_blanks 0 = .ok (.aload_n 0, 1) := by decide +kernel
theorem dX7_blanks_1 : decode cX7_blanks 1 = .ok (.aload_n 0, 1) := by decide +kernel
theorem dX7_blanks_2 : decode cX7_blanks 2 = .ok (.getfield 67, 3) := by decide +kernel
theorem dX7_blanks_5 : decode cX7_blanks 5 = .ok (.invokevirtual 70, 3) := by decide +kernel
theorem dX7_blanks_8 : decode cX7_blanks 8 = .ok (.bipush 32, 2) := by decide +kernel
theorem dX7_blanks_10 : decode cX7_blanks 10 = .ok (.if_icmp .ne 16, 3) := by decide +kernel
theorem dX7_blanks_13 : decode cX7_blanks 13 = .ok (.aload_n 0, 1) := by decide +kernel
theorem dX7_blanks_14 : decode cX7_blanks 14 = .ok (.dup, 1) := by decide +kernel
theorem dX7_blanks_15 : decode cX7_blanks 15 = .ok (.getfield 67, 3) := by decide +kernel
theorem dX7_blanks_18 : decode cX7_blanks 18 = .ok (.iconst 1, 1) := by decide +kernel
theorem dX7_blanks_19 : decode cX7_blanks 19 = .ok (.iadd, 1) := by decide +kernel
theorem dX7_blanks_20 : decode cX7_blanks 20 = .ok (.putfield 67, 3) := by decide +kernel
theorem dX7_blanks_23 : decode cX7_blanks 23 = .ok (.goto (-23), 3) := by decide +kernel
theorem dX7_blanks_26 : decode cX7_blanks 26 = .ok (.return_, 1) := by decide +kernel
theorem dX7_fails_0 : decode cX7_fails 0 = .ok (.aload_n 0, 1) := by decide +kernel
theorem dX7_fails_1 : decode cX7_fails 1 = .ok (.iload_n 1, 1) := by decide +kernel
theorem dX7_fails_2 : decode cX7_fails 2 = .ok (.putfield 74, 3) := by decide +kernel
theorem dX7_fails_5 : decode cX7_fails 5 = .ok (.iconst 0, 1) := by decide +kernel
theorem dX7_fails_6 : decode cX7_fails 6 = .ok (.ireturn, 1) := by decide +kernel
theorem dX7_number_0 : decode cX7_number 0 = .ok (.aload_n 0, 1) := by decide +kernel
theorem dX7_number_1 : decode cX7_number 1 = .ok (.invokevirtual 77, 3) := by decide +kernel
theorem dX7_number_4 : decode cX7_number 4 = .ok (.aload_n 0, 1) := by decide +kernel
theorem dX7_number_5 : decode cX7_number 5 = .ok (.getfield 67, 3) := by decide +kernel
theorem dX7_number_8 : decode cX7_number 8 = .ok (.istore_n 2, 1) := by decide +kernel
theorem dX7_number_9 : decode cX7_number 9 = .ok (.iconst 0, 1) := by decide +kernel
theorem dX7_number_10 : decode cX7_number 10 = .ok (.istore_n 3, 1) := by decide +kernel
theorem dX7_number_11 : decode cX7_number 11 = .ok (.aload_n 0, 1) := by decide +kernel
theorem dX7_number_12 : decode cX7_number 12 = .ok (.iload_n 2, 1) := by decide +kernel
theorem dX7_number_13 : decode cX7_number 13 = .ok (.invokevirtual 70, 3) := by decide +kernel
theorem dX7_number_16 : decode cX7_number 16 = .ok (.bipush 48, 2) := by decide +kernel
theorem dX7_number_18 : decode cX7_number 18 = .ok (.bipush 57, 2) := by decide +kernel
theorem dX7_number_20 : decode cX7_number 20 = .ok (.invokestatic 58, 3) := by decide +kernel
theorem dX7_number_23 : decode cX7_number 23 = .ok (.ifCond .eq 37, 3) := by decide +kernel
theorem dX7_number_26 : decode cX7_number 26 = .ok (.iload_n 2, 1) := by decide +kernel
theorem dX7_number_27 : decode cX7_number 27 = .ok (.aload_n 0, 1) := by decide +kernel
theorem dX7_number_28 : decode cX7_number 28 = .ok (.getfield 67, 3) := by decide +kernel
theorem dX7_number_31 : decode cX7_number 31 = .ok (.isub, 1) := by decide +kernel
theorem dX7_number_32 : decode cX7_number 32 = .ok (.iconst 3, 1) := by decide +kernel
theorem dX7_number_33 : decode cX7_number 33 = .ok (.if_icmp .ge 19, 3) := by decide +kernel
theorem dX7_number_36 : decode cX7_number 36 = .ok (.bipush 10, 2) := by decide +kernel
theorem dX7_number_38 : decode cX7_number 38 = .ok (.iload_n 3, 1) := by decide +kernel
theorem dX7_number_39 : decode cX7_number 39 = .ok (.imul, 1) := by decide +kernel
theorem dX7_number_40 : decode cX7_number 40 = .ok (.aload_n 0, 1) := by decide +kernel
theorem dX7_number_41 : decode cX7_number 41 = .ok (.iload_n 2, 1) := by decide +kernel
theorem dX7_number_42 : decode cX7_number 42 = .ok (.invokevirtual 70, 3) := by decide +kernel
theorem dX7_number_45 : decode cX7_number 45 = .ok (.iadd, 1) := by decide +kernel
theorem dX7_number_46 : decode cX7_number 46 = .ok (.bipush 48, 2) := by decide +kernel
theorem dX7_number_48 : decode cX7_number 48 = .ok (.isub, 1) := by decide +kernel
theorem dX7_number_49 : decode cX7_number 49 = .ok (.goto 4, 3) := by decide +kernel
theorem dX7_number_52 : decode cX7_number 52 = .ok (.iload_n 3, 1) := by decide +kernel
theorem dX7_number_53 : decode cX7_number 53 = .ok (.istore_n 3, 1) := by decide +kernel
theorem dX7_number_54 : decode cX7_number 54 = .ok (.iinc 2 1, 3) := by decide +kernel
theorem dX7_number_57 : decode cX7_number 57 = .ok (.goto (-46), 3) := by decide +kernel
theorem dX7_number_60 : decode cX7_number 60 = .ok (.iload_n 2, 1) := by decide +kernel
theorem dX7_number_61 : decode cX7_number 61 = .ok (.aload_n 0, 1) := by decide +kernel
theorem dX7_number_62 : decode cX7_number 62 = .ok (.getfield 67, 3) := by decide +kernel
theorem dX7_number_65 : decode cX7_number 65 = .ok (.isub, 1) := by decide +kernel
theorem dX7_number_66 : decode cX7_number 66 = .ok (.istore 4, 2) := by decide +kernel
theorem dX7_number_68 : decode cX7_number 68 = .ok (.iload 4, 2) := by decide +kernel
theorem dX7_number_70 : decode cX7_number 70 = .ok (.ifCond .eq 14, 3) := by decide +kernel
theorem dX7_number_73 : decode cX7_number 73 = .ok (.iload 4, 2) := by decide +kernel
theorem dX7_number_75 : decode cX7_number 75 = .ok (.iconst 3, 1) := by decide +kernel
theorem dX7_number_76 : decode cX7_number 76 = .ok (.if_icmp .gt 8, 3) := by decide +kernel
theorem dX7_number_79 : decode cX7_number 79 = .ok (.iload_n 3, 1) := by decide +kernel
theorem dX7_number_80 : decode cX7_number 80 = .ok (.iload_n 1, 1) := by decide +kernel
theorem dX7_number_81 : decode cX7_number 81 = .ok (.if_icmp .le 20, 3) := by decide +kernel
theorem dX7_number_84 : decode cX7_number 84 = .ok (.aload_n 0, 1) := by decide +kernel
theorem dX7_number_85 : decode cX7_number 85 = .ok (.iload 4, 2) := by decide +kernel
theorem dX7_number_87 : decode cX7_number 87 = .ok (.ifCond .ne 7, 3) := by decide +kernel
theorem dX7_number_90 : decode cX7_number 90 = .ok (.iconst 1, 1) := by decide +kernel
theorem dX7_number_91 : decode cX7_number 91 = .ok (.goto 4, 3) := by decide +kernel
theorem dX7_number_94 : decode cX7_number 94 = .ok (.iconst 2, 1) := by decide +kernel
theorem dX7_number_95 : decode cX7_number 95 = .ok (.invokevirtual 80, 3) := by decide +kernel
theorem dX7_number_98 : decode cX7_number 98 = .ok (.pop, 1) := by decide +kernel
theorem dX7_number_99 : decode cX7_number 99 = .ok (.iconst (-1), 1) := by decide +kernel
theorem dX7_number_100 : decode cX7_number 100 = .ok (.ireturn, 1) := by decide +kernel
theorem dX7_number_101 : decode cX7_number 101 = .ok (.aload_n 0, 1) := by decide +kernel
theorem dX7_number_102 : decode cX7_number 102 = .ok (.iload_n 2, 1) := by decide +kernel
theorem dX7_number_103 : decode cX7_number 103 = .ok (.putfield 67, 3) := by decide +kernel
theorem dX7_number_106 : decode cX7_number 106 = .ok (.iload_n 3, 1) := by decide +kernel
theorem dX7_number_107 : decode cX7_number 107 = .ok (.ireturn, 1) := by decide +kernel
theorem dX7_ends_0 : decode cX7_ends 0 = .ok (.aload_n 0, 1) := by decide +kernel
theorem dX7_ends_1 : decode cX7_ends 1 = .ok (.invokevirtual 77, 3) := by decide +kernel
theorem dX7_ends_4 : decode cX7_ends 4 = .ok (.aload_n 0, 1) := by decide +kernel
theorem dX7_ends_5 : decode cX7_ends 5 = .ok (.aload_n 0, 1) := by decide +kernel
theorem dX7_ends_6 : decode cX7_ends 6 = .ok (.getfield 67, 3) := by decide +kernel
theorem dX7_ends_9 : decode cX7_ends 9 = .ok (.invokevirtual 70, 3) := by decide +kernel
theorem dX7_ends_12 : decode cX7_ends 12 = .ok (.bipush 59, 2) := by decide +kernel
theorem dX7_ends_14 : decode cX7_ends 14 = .ok (.if_icmp .eq 9, 3) := by decide +kernel
theorem dX7_ends_17 : decode cX7_ends 17 = .ok (.aload_n 0, 1) := by decide +kernel
theorem dX7_ends_18 : decode cX7_ends 18 = .ok (.iconst 1, 1) := by decide +kernel
theorem dX7_ends_19 : decode cX7_ends 19 = .ok (.invokevirtual 80, 3) := by decide +kernel
theorem dX7_ends_22 : decode cX7_ends 22 = .ok (.ireturn, 1) := by decide +kernel
theorem dX7_ends_23 : decode cX7_ends 23 = .ok (.aload_n 0, 1) := by decide +kernel
theorem dX7_ends_24 : decode cX7_ends 24 = .ok (.dup, 1) := by decide +kernel
theorem dX7_ends_25 : decode cX7_ends 25 = .ok (.getfield 67, 3) := by decide +kernel
theorem dX7_ends_28 : decode cX7_ends 28 = .ok (.iconst 1, 1) := by decide +kernel
theorem dX7_ends_29 : decode cX7_ends 29 = .ok (.iadd, 1) := by decide +kernel
theorem dX7_ends_30 : decode cX7_ends 30 = .ok (.putfield 67, 3) := by decide +kernel
theorem dX7_ends_33 : decode cX7_ends 33 = .ok (.iconst 1, 1) := by decide +kernel
theorem dX7_ends_34 : decode cX7_ends 34 = .ok (.ireturn, 1) := by decide +kernel
theorem dX7_readsBox_0 : decode cX7_readsBox 0 = .ok (.iload_n 1, 1) := by decide +kernel
theorem dX7_readsBox_1 : decode cX7_readsBox 1 = .ok (.ifCond .ne 9, 3) := by decide +kernel
theorem dX7_readsBox_4 : decode cX7_readsBox 4 = .ok (.aload_n 0, 1) := by decide +kernel
theorem dX7_readsBox_5 : decode cX7_readsBox 5 = .ok (.iconst 3, 1) := by decide +kernel
theorem dX7_readsBox_6 : decode cX7_readsBox 6 = .ok (.invokevirtual 80, 3) := by decide +kernel
theorem dX7_readsBox_9 : decode cX7_readsBox 9 = .ok (.ireturn, 1) := by decide +kernel
theorem dX7_readsBox_10 : decode cX7_readsBox 10 = .ok (.aload_n 0, 1) := by decide +kernel
theorem dX7_readsBox_11 : decode cX7_readsBox 11 = .ok (.dup, 1) := by decide +kernel
theorem dX7_readsBox_12 : decode cX7_readsBox 12 = .ok (.getfield 67, 3) := by decide +kernel
theorem dX7_readsBox_15 : decode cX7_readsBox 15 = .ok (.iconst 1, 1) := by decide +kernel
theorem dX7_readsBox_16 : decode cX7_readsBox 16 = .ok (.iadd, 1) := by decide +kernel
theorem dX7_readsBox_17 : decode cX7_readsBox 17 = .ok (.putfield 67, 3) := by decide +kernel
theorem dX7_readsBox_20 : decode cX7_readsBox 20 = .ok (.iconst 0, 1) := by decide +kernel
theorem dX7_readsBox_21 : decode cX7_readsBox 21 = .ok (.istore_n 2, 1) := by decide +kernel
theorem dX7_readsBox_22 : decode cX7_readsBox 22 = .ok (.iload_n 2, 1) := by decide +kernel
theorem dX7_readsBox_23 : decode cX7_readsBox 23 = .ok (.iconst 3, 1) := by decide +kernel
theorem dX7_readsBox_24 : decode cX7_readsBox 24 = .ok (.if_icmp .ge 43, 3) := by decide +kernel
theorem dX7_readsBox_27 : decode cX7_readsBox 27 = .ok (.aload_n 0, 1) := by decide +kernel
theorem dX7_readsBox_28 : decode cX7_readsBox 28 = .ok (.getfield 17, 3) := by decide +kernel
theorem dX7_readsBox_31 : decode cX7_readsBox 31 = .ok (.iload_n 2, 1) := by decide +kernel
theorem dX7_readsBox_32 : decode cX7_readsBox 32 = .ok (.aload_n 0, 1) := by decide +kernel
theorem dX7_readsBox_33 : decode cX7_readsBox 33 = .ok (.iload_n 2, 1) := by decide +kernel
theorem dX7_readsBox_34 : decode cX7_readsBox 34 = .ok (.iconst 2, 1) := by decide +kernel
theorem dX7_readsBox_35 : decode cX7_readsBox 35 = .ok (.if_icmp .ge 8, 3) := by decide +kernel
theorem dX7_readsBox_38 : decode cX7_readsBox 38 = .ok (.bipush 99, 2) := by decide +kernel
theorem dX7_readsBox_40 : decode cX7_readsBox 40 = .ok (.goto 6, 3) := by decide +kernel
theorem dX7_readsBox_43 : decode cX7_readsBox 43 = .ok (.sipush 999, 3) := by decide +kernel
theorem dX7_readsBox_46 : decode cX7_readsBox 46 = .ok (.invokevirtual 84, 3) := by decide +kernel
theorem dX7_readsBox_49 : decode cX7_readsBox 49 = .ok (.iastore, 1) := by decide +kernel
theorem dX7_readsBox_50 : decode cX7_readsBox 50 = .ok (.aload_n 0, 1) := by decide +kernel
theorem dX7_readsBox_51 : decode cX7_readsBox 51 = .ok (.getfield 17, 3) := by decide +kernel
theorem dX7_readsBox_54 : decode cX7_readsBox 54 = .ok (.iload_n 2, 1) := by decide +kernel
theorem dX7_readsBox_55 : decode cX7_readsBox 55 = .ok (.iaload, 1) := by decide +kernel
theorem dX7_readsBox_56 : decode cX7_readsBox 56 = .ok (.ifCond .ge 5, 3) := by decide +kernel
theorem dX7_readsBox_59 : decode cX7_readsBox 59 = .ok (.iconst 0, 1) := by decide +kernel
theorem dX7_readsBox_60 : decode cX7_readsBox 60 = .ok (.ireturn, 1) := by decide +kernel
theorem dX7_readsBox_61 : decode cX7_readsBox 61 = .ok (.iinc 2 1, 3) := by decide +kernel
theorem dX7_readsBox_64 : decode cX7_readsBox 64 = .ok (.goto (-42), 3) := by decide +kernel
theorem dX7_readsBox_67 : decode cX7_readsBox 67 = .ok (.aload_n 0, 1) := by decide +kernel
theorem dX7_readsBox_68 : decode cX7_readsBox 68 = .ok (.invokevirtual 87, 3) := by decide +kernel
theorem dX7_readsBox_71 : decode cX7_readsBox 71 = .ok (.ireturn, 1) := by decide +kernel
theorem dX7_readsWord_0 : decode cX7_readsWord 0 = .ok (.aload_n 0, 1) := by decide +kernel
theorem dX7_readsWord_1 : decode cX7_readsWord 1 = .ok (.getfield 91, 3) := by decide +kernel
theorem dX7_readsWord_4 : decode cX7_readsWord 4 = .ok (.bipush 8, 2) := by decide +kernel
theorem dX7_readsWord_6 : decode cX7_readsWord 6 = .ok (.if_icmp .ne 9, 3) := by decide +kernel
theorem dX7_readsWord_9 : decode cX7_readsWord 9 = .ok (.aload_n 0, 1) := by decide +kernel
theorem dX7_readsWord_10 : decode cX7_readsWord 10 = .ok (.iconst 3, 1) := by decide +kernel
theorem dX7_readsWord_11 : decode cX7_readsWord 11 = .ok (.invokevirtual 80, 3) := by decide +kernel
theorem dX7_readsWord_14 : decode cX7_readsWord 14 = .ok (.ireturn, 1) := by decide +kernel
theorem dX7_readsWord_15 : decode cX7_readsWord 15 = .ok (.aload_n 0, 1) := by decide +kernel
theorem dX7_readsWord_16 : decode cX7_readsWord 16 = .ok (.dup, 1) := by decide +kernel
theorem dX7_readsWord_17 : decode cX7_readsWord 17 = .ok (.getfield 67, 3) := by decide +kernel
theorem dX7_readsWord_20 : decode cX7_readsWord 20 = .ok (.iconst 1, 1) := by decide +kernel
theorem dX7_readsWord_21 : decode cX7_readsWord 21 = .ok (.iadd, 1) := by decide +kernel
theorem dX7_readsWord_22 : decode cX7_readsWord 22 = .ok (.putfield 67, 3) := by decide +kernel
theorem dX7_readsWord_25 : decode cX7_readsWord 25 = .ok (.iconst 0, 1) := by decide +kernel
theorem dX7_readsWord_26 : decode cX7_readsWord 26 = .ok (.istore_n 1, 1) := by decide +kernel
theorem dX7_readsWord_27 : decode cX7_readsWord 27 = .ok (.iload_n 1, 1) := by decide +kernel
theorem dX7_readsWord_28 : decode cX7_readsWord 28 = .ok (.iconst 3, 1) := by decide +kernel
theorem dX7_readsWord_29 : decode cX7_readsWord 29 = .ok (.if_icmp .ge 46, 3) := by decide +kernel
theorem dX7_readsWord_32 : decode cX7_readsWord 32 = .ok (.aload_n 0, 1) := by decide +kernel
theorem dX7_readsWord_33 : decode cX7_readsWord 33 = .ok (.iload_n 1, 1) := by decide +kernel
theorem dX7_readsWord_34 : decode cX7_readsWord 34 = .ok (.ifCond .ne 9, 3) := by decide +kernel
theorem dX7_readsWord_37 : decode cX7_readsWord 37 = .ok (.sipush 999, 3) := by decide +kernel
theorem dX7_readsWord_40 : decode cX7_readsWord 40 = .ok (.goto 5, 3) := by decide +kernel
theorem dX7_readsWord_43 : decode cX7_readsWord 43 = .ok (.bipush 99, 2) := by decide +kernel
theorem dX7_readsWord_45 : decode cX7_readsWord 45 = .ok (.invokevirtual 84, 3) := by decide +kernel
theorem dX7_readsWord_48 : decode cX7_readsWord 48 = .ok (.istore_n 2, 1) := by decide +kernel
theorem dX7_readsWord_49 : decode cX7_readsWord 49 = .ok (.iload_n 2, 1) := by decide +kernel
theorem dX7_readsWord_50 : decode cX7_readsWord 50 = .ok (.ifCond .ge 5, 3) := by decide +kernel
theorem dX7_readsWord_53 : decode cX7_readsWord 53 = .ok (.iconst 0, 1) := by decide +kernel
theorem dX7_readsWord_54 : decode cX7_readsWord 54 = .ok (.ireturn, 1) := by decide +kernel
theorem dX7_readsWord_55 : decode cX7_readsWord 55 = .ok (.aload_n 0, 1) := by decide +kernel
theorem dX7_readsWord_56 : decode cX7_readsWord 56 = .ok (.getfield 20, 3) := by decide +kernel
theorem dX7_readsWord_59 : decode cX7_readsWord 59 = .ok (.iconst 3, 1) := by decide +kernel
theorem dX7_readsWord_60 : decode cX7_readsWord 60 = .ok (.aload_n 0, 1) := by decide +kernel
theorem dX7_readsWord_61 : decode cX7_readsWord 61 = .ok (.getfield 91, 3) := by decide +kernel
theorem dX7_readsWord_64 : decode cX7_readsWord 64 = .ok (.imul, 1) := by decide +kernel
theorem dX7_readsWord_65 : decode cX7_readsWord 65 = .ok (.iload_n 1, 1) := by decide +kernel
theorem dX7_readsWord_66 : decode cX7_readsWord 66 = .ok (.iadd, 1) := by decide +kernel
theorem dX7_readsWord_67 : decode cX7_readsWord 67 = .ok (.iload_n 2, 1) := by decide +kernel
theorem dX7_readsWord_68 : decode cX7_readsWord 68 = .ok (.iastore, 1) := by decide +kernel
theorem dX7_readsWord_69 : decode cX7_readsWord 69 = .ok (.iinc 1 1, 3) := by decide +kernel
theorem dX7_readsWord_72 : decode cX7_readsWord 72 = .ok (.goto (-45), 3) := by decide +kernel
theorem dX7_readsWord_75 : decode cX7_readsWord 75 = .ok (.aload_n 0, 1) := by decide +kernel
theorem dX7_readsWord_76 : decode cX7_readsWord 76 = .ok (.dup, 1) := by decide +kernel
theorem dX7_readsWord_77 : decode cX7_readsWord 77 = .ok (.getfield 91, 3) := by decide +kernel
theorem dX7_readsWord_80 : decode cX7_readsWord 80 = .ok (.iconst 1, 1) := by decide +kernel
theorem dX7_readsWord_81 : decode cX7_readsWord 81 = .ok (.iadd, 1) := by decide +kernel
theorem dX7_readsWord_82 : decode cX7_readsWord 82 = .ok (.putfield 91, 3) := by decide +kernel
theorem dX7_readsWord_85 : decode cX7_readsWord 85 = .ok (.aload_n 0, 1) := by decide +kernel
theorem dX7_readsWord_86 : decode cX7_readsWord 86 = .ok (.invokevirtual 87, 3) := by decide +kernel
theorem dX7_readsWord_89 : decode cX7_readsWord 89 = .ok (.ireturn, 1) := by decide +kernel
theorem dX7_readsVoice_0 : decode cX7_readsVoice 0 = .ok (.aload_n 0, 1) := by decide +kernel
theorem dX7_readsVoice_1 : decode cX7_readsVoice 1 = .ok (.getfield 94, 3) := by decide +kernel
theorem dX7_readsVoice_4 : decode cX7_readsVoice 4 = .ok (.iconst 4, 1) := by decide +kernel
theorem dX7_readsVoice_5 : decode cX7_readsVoice 5 = .ok (.if_icmp .ne 9, 3) := by decide +kernel
theorem dX7_readsVoice_8 : decode cX7_readsVoice 8 = .ok (.aload_n 0, 1) := by decide +kernel
theorem dX7_readsVoice_9 : decode cX7_readsVoice 9 = .ok (.iconst 3, 1) := by decide +kernel
theorem dX7_readsVoice_10 : decode cX7_readsVoice 10 = .ok (.invokevirtual 80, 3) := by decide +kernel
theorem dX7_readsVoice_13 : decode cX7_readsVoice 13 = .ok (.ireturn, 1) := by decide +kernel
theorem dX7_readsVoice_14 : decode cX7_readsVoice 14 = .ok (.aload_n 0, 1) := by decide +kernel
theorem dX7_readsVoice_15 : decode cX7_readsVoice 15 = .ok (.dup, 1) := by decide +kernel
theorem dX7_readsVoice_16 : decode cX7_readsVoice 16 = .ok (.getfield 67, 3) := by decide +kernel
theorem dX7_readsVoice_19 : decode cX7_readsVoice 19 = .ok (.iconst 1, 1) := by decide +kernel
theorem dX7_readsVoice_20 : decode cX7_readsVoice 20 = .ok (.iadd, 1) := by decide +kernel
theorem dX7_readsVoice_21 : decode cX7_readsVoice 21 = .ok (.putfield 67, 3) := by decide +kernel
theorem dX7_readsVoice_24 : decode cX7_readsVoice 24 = .ok (.aload_n 0, 1) := by decide +kernel
theorem dX7_readsVoice_25 : decode cX7_readsVoice 25 = .ok (.sipush 999, 3) := by decide +kernel
theorem dX7_readsVoice_28 : decode cX7_readsVoice 28 = .ok (.invokevirtual 84, 3) := by decide +kernel
theorem dX7_readsVoice_31 : decode cX7_readsVoice 31 = .ok (.istore_n 1, 1) := by decide +kernel
theorem dX7_readsVoice_32 : decode cX7_readsVoice 32 = .ok (.iload_n 1, 1) := by decide +kernel
theorem dX7_readsVoice_33 : decode cX7_readsVoice 33 = .ok (.ifCond .ge 5, 3) := by decide +kernel
theorem dX7_readsVoice_36 : decode cX7_readsVoice 36 = .ok (.iconst 0, 1) := by decide +kernel
theorem dX7_readsVoice_37 : decode cX7_readsVoice 37 = .ok (.ireturn, 1) := by decide +kernel
theorem dX7_readsVoice_38 : decode cX7_readsVoice 38 = .ok (.aload_n 0, 1) := by decide +kernel
theorem dX7_readsVoice_39 : decode cX7_readsVoice 39 = .ok (.getfield 23, 3) := by decide +kernel
theorem dX7_readsVoice_42 : decode cX7_readsVoice 42 = .ok (.aload_n 0, 1) := by decide +kernel
theorem dX7_readsVoice_43 : decode cX7_readsVoice 43 = .ok (.getfield 94, 3) := by decide +kernel
theorem dX7_readsVoice_46 : decode cX7_readsVoice 46 = .ok (.iload_n 1, 1) := by decide +kernel
theorem dX7_readsVoice_47 : decode cX7_readsVoice 47 = .ok (.iastore, 1) := by decide +kernel
theorem dX7_readsVoice_48 : decode cX7_readsVoice 48 = .ok (.aload_n 0, 1) := by decide +kernel
theorem dX7_readsVoice_49 : decode cX7_readsVoice 49 = .ok (.dup, 1) := by decide +kernel
theorem dX7_readsVoice_50 : decode cX7_readsVoice 50 = .ok (.getfield 94, 3) := by decide +kernel
theorem dX7_readsVoice_53 : decode cX7_readsVoice 53 = .ok (.iconst 1, 1) := by decide +kernel
theorem dX7_readsVoice_54 : decode cX7_readsVoice 54 = .ok (.iadd, 1) := by decide +kernel
theorem dX7_readsVoice_55 : decode cX7_readsVoice 55 = .ok (.putfield 94, 3) := by decide +kernel
theorem dX7_readsVoice_58 : decode cX7_readsVoice 58 = .ok (.aload_n 0, 1) := by decide +kernel
theorem dX7_readsVoice_59 : decode cX7_readsVoice 59 = .ok (.invokevirtual 87, 3) := by decide +kernel
theorem dX7_readsVoice_62 : decode cX7_readsVoice 62 = .ok (.ireturn, 1) := by decide +kernel
theorem dX7_readsClause_0 : decode cX7_readsClause 0 = .ok (.aload_n 0, 1) := by decide +kernel
theorem dX7_readsClause_1 : decode cX7_readsClause 1 = .ok (.aload_n 0, 1) := by decide +kernel
theorem dX7_readsClause_2 : decode cX7_readsClause 2 = .ok (.getfield 67, 3) := by decide +kernel
theorem dX7_readsClause_5 : decode cX7_readsClause 5 = .ok (.invokevirtual 70, 3) := by decide +kernel
theorem dX7_readsClause_8 : decode cX7_readsClause 8 = .ok (.istore_n 2, 1) := by decide +kernel
theorem dX7_readsClause_9 : decode cX7_readsClause 9 = .ok (.iload_n 2, 1) := by decide +kernel
theorem dX7_readsClause_10 : decode cX7_readsClause 10 = .ok (.bipush 98, 2) := by decide +kernel
theorem dX7_readsClause_12 : decode cX7_readsClause 12 = .ok (.if_icmp .ne 9, 3) := by decide +kernel
theorem dX7_readsClause_15 : decode cX7_readsClause 15 = .ok (.aload_n 0, 1) := by decide +kernel
theorem dX7_readsClause_16 : decode cX7_readsClause 16 = .ok (.iload_n 1, 1) := by decide +kernel
theorem dX7_readsClause_17 : decode cX7_readsClause 17 = .ok (.invokevirtual 97, 3) := by decide +kernel
theorem dX7_readsClause_20 : decode cX7_readsClause 20 = .ok (.ireturn, 1) := by decide +kernel
theorem dX7_readsClause_21 : decode cX7_readsClause 21 = .ok (.iload_n 1, 1) := by decide +kernel
theorem dX7_readsClause_22 : decode cX7_readsClause 22 = .ok (.ifCond .ne 14, 3) := by decide +kernel
theorem dX7_readsClause_25 : decode cX7_readsClause 25 = .ok (.iload_n 2, 1) := by decide +kernel
theorem dX7_readsClause_26 : decode cX7_readsClause 26 = .ok (.bipush 119, 2) := by decide +kernel
theorem dX7_readsClause_28 : decode cX7_readsClause 28 = .ok (.if_icmp .ne 8, 3) := by decide +kernel
theorem dX7_readsClause_31 : decode cX7_readsClause 31 = .ok (.aload_n 0, 1) := by decide +kernel
theorem dX7_readsClause_32 : decode cX7_readsClause 32 = .ok (.invokevirtual 101, 3) := by decide +kernel
theorem dX7_readsClause_35 : decode cX7_readsClause 35 = .ok (.ireturn, 1) := by decide +kernel
theorem dX7_readsClause_36 : decode cX7_readsClause 36 = .ok (.iload_n 1, 1) := by decide +kernel
theorem dX7_readsClause_37 : decode cX7_readsClause 37 = .ok (.ifCond .ne 16, 3) := by decide +kernel
theorem dX7_readsClause_40 : decode cX7_readsClause 40 = .ok (.iload_n 2, 1) := by decide +kernel
theorem dX7_readsClause_41 : decode cX7_readsClause 41 = .ok (.bipush 118, 2) := by decide +kernel
theorem dX7_readsClause_43 : decode cX7_readsClause 43 = .ok (.if_icmp .ne 10, 3) := by decide +kernel
theorem dX7_readsClause_46 : decode cX7_readsClause 46 = .ok (.aload_n 0, 1) := by decide +kernel
theorem dX7_readsClause_47 : decode cX7_readsClause 47 = .ok (.invokevirtual 104, 3) := by decide +kernel
theorem dX7_readsClause_50 : decode cX7_readsClause 50 = .ok (.goto 8, 3) := by decide +kernel
theorem dX7_readsClause_53 : decode cX7_readsClause 53 = .ok (.aload_n 0, 1) := by decide +kernel
theorem dX7_readsClause_54 : decode cX7_readsClause 54 = .ok (.iconst 1, 1) := by decide +kernel
theorem dX7_readsClause_55 : decode cX7_readsClause 55 = .ok (.invokevirtual 80, 3) := by decide +kernel
theorem dX7_readsClause_58 : decode cX7_readsClause 58 = .ok (.ireturn, 1) := by decide +kernel
theorem dX7_reads_0 : decode cX7_reads 0 = .ok (.iconst 1, 1) := by decide +kernel
theorem dX7_reads_1 : decode cX7_reads 1 = .ok (.istore_n 1, 1) := by decide +kernel
theorem dX7_reads_2 : decode cX7_reads 2 = .ok (.aload_n 0, 1) := by decide +kernel
theorem dX7_reads_3 : decode cX7_reads 3 = .ok (.iconst 0, 1) := by decide +kernel
theorem dX7_reads_4 : decode cX7_reads 4 = .ok (.putfield 67, 3) := by decide +kernel
theorem dX7_reads_7 : decode cX7_reads 7 = .ok (.aload_n 0, 1) := by decide +kernel
theorem dX7_reads_8 : decode cX7_reads 8 = .ok (.iconst 0, 1) := by decide +kernel
theorem dX7_reads_9 : decode cX7_reads 9 = .ok (.putfield 91, 3) := by decide +kernel
theorem dX7_reads_12 : decode cX7_reads 12 = .ok (.aload_n 0, 1) := by decide +kernel
theorem dX7_reads_13 : decode cX7_reads 13 = .ok (.iconst 0, 1) := by decide +kernel
theorem dX7_reads_14 : decode cX7_reads 14 = .ok (.putfield 94, 3) := by decide +kernel
theorem dX7_reads_17 : decode cX7_reads 17 = .ok (.aload_n 0, 1) := by decide +kernel
theorem dX7_reads_18 : decode cX7_reads 18 = .ok (.invokevirtual 77, 3) := by decide +kernel
theorem dX7_reads_21 : decode cX7_reads 21 = .ok (.aload_n 0, 1) := by decide +kernel
theorem dX7_reads_22 : decode cX7_reads 22 = .ok (.getfield 67, 3) := by decide +kernel
theorem dX7_reads_25 : decode cX7_reads 25 = .ok (.aload_n 0, 1) := by decide +kernel
theorem dX7_reads_26 : decode cX7_reads 26 = .ok (.getfield 63, 3) := by decide +kernel
theorem dX7_reads_29 : decode cX7_reads 29 = .ok (.if_icmp .ge 22, 3) := by decide +kernel
theorem dX7_reads_32 : decode cX7_reads 32 = .ok (.aload_n 0, 1) := by decide +kernel
theorem dX7_reads_33 : decode cX7_reads 33 = .ok (.iload_n 1, 1) := by decide +kernel
theorem dX7_reads_34 : decode cX7_reads 34 = .ok (.invokevirtual 107, 3) := by decide +kernel
theorem dX7_reads_37 : decode cX7_reads 37 = .ok (.ifCond .ne 5, 3) := by decide +kernel
theorem dX7_reads_40 : decode cX7_reads 40 = .ok (.iconst 0, 1) := by decide +kernel
theorem dX7_reads_41 : decode cX7_reads 41 = .ok (.ireturn, 1) := by decide +kernel
theorem dX7_reads_42 : decode cX7_reads 42 = .ok (.iconst 0, 1) := by decide +kernel
theorem dX7_reads_43 : decode cX7_reads 43 = .ok (.istore_n 1, 1) := by decide +kernel
theorem dX7_reads_44 : decode cX7_reads 44 = .ok (.aload_n 0, 1) := by decide +kernel
theorem dX7_reads_45 : decode cX7_reads 45 = .ok (.invokevirtual 77, 3) := by decide +kernel
theorem dX7_reads_48 : decode cX7_reads 48 = .ok (.goto (-27), 3) := by decide +kernel
theorem dX7_reads_51 : decode cX7_reads 51 = .ok (.aload_n 0, 1) := by decide +kernel
theorem dX7_reads_52 : decode cX7_reads 52 = .ok (.iload_n 1, 1) := by decide +kernel
theorem dX7_reads_53 : decode cX7_reads 53 = .ok (.ifCond .ne 7, 3) := by decide +kernel
theorem dX7_reads_56 : decode cX7_reads 56 = .ok (.iconst 1, 1) := by decide +kernel
theorem dX7_reads_57 : decode cX7_reads 57 = .ok (.goto 4, 3) := by decide +kernel
theorem dX7_reads_60 : decode cX7_reads 60 = .ok (.iconst 0, 1) := by decide +kernel
theorem dX7_reads_61 : decode cX7_reads 61 = .ok (.putfield 110, 3) := by decide +kernel
theorem dX7_reads_64 : decode cX7_reads 64 = .ok (.iconst 1, 1) := by decide +kernel
theorem dX7_reads_65 : decode cX7_reads 65 = .ok (.ireturn, 1) := by decide +kernel
theorem dX7_kitchen_0 : decode cX7_kitchen 0 = .ok (.aload_n 0, 1) := by decide +kernel
theorem dX7_kitchen_1 : decode cX7_kitchen 1 = .ok (.invokevirtual 114, 3) := by decide +kernel
theorem dX7_kitchen_4 : decode cX7_kitchen 4 = .ok (.istore_n 1, 1) := by decide +kernel
theorem dX7_kitchen_5 : decode cX7_kitchen 5 = .ok (.aload_n 0, 1) := by decide +kernel
theorem dX7_kitchen_6 : decode cX7_kitchen 6 = .ok (.iconst 0, 1) := by decide +kernel
theorem dX7_kitchen_7 : decode cX7_kitchen 7 = .ok (.putfield 63, 3) := by decide +kernel
theorem dX7_kitchen_10 : decode cX7_kitchen 10 = .ok (.iload_n 1, 1) := by decide +kernel
theorem dX7_kitchen_11 : decode cX7_kitchen 11 = .ok (.ifCond .ne 19, 3) := by decide +kernel
theorem dX7_kitchen_14 : decode cX7_kitchen 14 = .ok (.aload_n 0, 1) := by decide +kernel
theorem dX7_kitchen_15 : decode cX7_kitchen 15 = .ok (.aload_n 0, 1) := by decide +kernel
theorem dX7_kitchen_16 : decode cX7_kitchen 16 = .ok (.getfield 67, 3) := by decide +kernel
theorem dX7_kitchen_19 : decode cX7_kitchen 19 = .ok (.putfield 13, 3) := by decide +kernel
theorem dX7_kitchen_22 : decode cX7_kitchen 22 = .ok (.bipush (-10), 2) := by decide +kernel
theorem dX7_kitchen_24 : decode cX7_kitchen 24 = .ok (.aload_n 0, 1) := by decide +kernel
theorem dX7_kitchen_25 : decode cX7_kitchen 25 = .ok (.getfield 74, 3) := by decide +kernel
theorem dX7_kitchen_28 : decode cX7_kitchen 28 = .ok (.isub, 1) := by decide +kernel
theorem dX7_kitchen_29 : decode cX7_kitchen 29 = .ok (.ireturn, 1) := by decide +kernel
theorem dX7_kitchen_30 : decode cX7_kitchen 30 = .ok (.aload_n 0, 1) := by decide +kernel
theorem dX7_kitchen_31 : decode cX7_kitchen 31 = .ok (.iconst (-1), 1) := by decide +kernel
theorem dX7_kitchen_32 : decode cX7_kitchen 32 = .ok (.putfield 13, 3) := by decide +kernel
theorem dX7_kitchen_35 : decode cX7_kitchen 35 = .ok (.aload_n 0, 1) := by decide +kernel
theorem dX7_kitchen_36 : decode cX7_kitchen 36 = .ok (.aload_n 0, 1) := by decide +kernel
theorem dX7_kitchen_37 : decode cX7_kitchen 37 = .ok (.getfield 110, 3) := by decide +kernel
theorem dX7_kitchen_40 : decode cX7_kitchen 40 = .ok (.putfield 117, 3) := by decide +kernel
theorem dX7_kitchen_43 : decode cX7_kitchen 43 = .ok (.aload_n 0, 1) := by decide +kernel
theorem dX7_kitchen_44 : decode cX7_kitchen 44 = .ok (.aload_n 0, 1) := by decide +kernel
theorem dX7_kitchen_45 : decode cX7_kitchen 45 = .ok (.getfield 110, 3) := by decide +kernel
theorem dX7_kitchen_48 : decode cX7_kitchen 48 = .ok (.ifCond .eq 10, 3) := by decide +kernel
theorem dX7_kitchen_51 : decode cX7_kitchen 51 = .ok (.aload_n 0, 1) := by decide +kernel
theorem dX7_kitchen_52 : decode cX7_kitchen 52 = .ok (.getfield 91, 3) := by decide +kernel
theorem dX7_kitchen_55 : decode cX7_kitchen 55 = .ok (.goto 4, 3) := by decide +kernel
theorem dX7_kitchen_58 : decode cX7_kitchen 58 = .ok (.iconst 0, 1) := by decide +kernel
theorem dX7_kitchen_59 : decode cX7_kitchen 59 = .ok (.putfield 120, 3) := by decide +kernel
theorem dX7_kitchen_62 : decode cX7_kitchen 62 = .ok (.aload_n 0, 1) := by decide +kernel
theorem dX7_kitchen_63 : decode cX7_kitchen 63 = .ok (.aload_n 0, 1) := by decide +kernel
theorem dX7_kitchen_64 : decode cX7_kitchen 64 = .ok (.getfield 110, 3) := by decide +kernel
theorem dX7_kitchen_67 : decode cX7_kitchen 67 = .ok (.ifCond .eq 10, 3) := by decide +kernel
theorem dX7_kitchen_70 : decode cX7_kitchen 70 = .ok (.aload_n 0, 1) := by decide +kernel
theorem dX7_kitchen_71 : decode cX7_kitchen 71 = .ok (.getfield 94, 3) := by decide +kernel
theorem dX7_kitchen_74 : decode cX7_kitchen 74 = .ok (.goto 4, 3) := by decide +kernel
theorem dX7_kitchen_77 : decode cX7_kitchen 77 = .ok (.iconst 0, 1) := by decide +kernel
theorem dX7_kitchen_78 : decode cX7_kitchen 78 = .ok (.putfield 123, 3) := by decide +kernel
theorem dX7_kitchen_81 : decode cX7_kitchen 81 = .ok (.iconst 0, 1) := by decide +kernel
theorem dX7_kitchen_82 : decode cX7_kitchen 82 = .ok (.istore_n 2, 1) := by decide +kernel
theorem dX7_kitchen_83 : decode cX7_kitchen 83 = .ok (.iload_n 2, 1) := by decide +kernel
theorem dX7_kitchen_84 : decode cX7_kitchen 84 = .ok (.iconst 3, 1) := by decide +kernel
theorem dX7_kitchen_85 : decode cX7_kitchen 85 = .ok (.if_icmp .ge 32, 3) := by decide +kernel
theorem dX7_kitchen_88 : decode cX7_kitchen 88 = .ok (.aload_n 0, 1) := by decide +kernel
theorem dX7_kitchen_89 : decode cX7_kitchen 89 = .ok (.getfield 26, 3) := by decide +kernel
theorem dX7_kitchen_92 : decode cX7_kitchen 92 = .ok (.iload_n 2, 1) := by decide +kernel
theorem dX7_kitchen_93 : decode cX7_kitchen 93 = .ok (.aload_n 0, 1) := by decide +kernel
theorem dX7_kitchen_94 : decode cX7_kitchen 94 = .ok (.getfield 110, 3) := by decide +kernel
theorem dX7_kitchen_97 : decode cX7_kitchen 97 = .ok (.ifCond .eq 12, 3) := by decide +kernel
theorem dX7_kitchen_100 : decode cX7_kitchen 100 = .ok (.aload_n 0, 1) := by decide +kernel
theorem dX7_kitchen_101 : decode cX7_kitchen 101 = .ok (.getfield 17, 3) := by decide +kernel
theorem dX7_kitchen_104 : decode cX7_kitchen 104 = .ok (.iload_n 2, 1) := by decide +kernel
theorem dX7_kitchen_105 : decode cX7_kitchen 105 = .ok (.iaload, 1) := by decide +kernel
theorem dX7_kitchen_106 : decode cX7_kitchen 106 = .ok (.goto 4, 3) := by decide +kernel
theorem dX7_kitchen_109 : decode cX7_kitchen 109 = .ok (.iconst 0, 1) := by decide +kernel
theorem dX7_kitchen_110 : decode cX7_kitchen 110 = .ok (.iastore, 1) := by decide +kernel
theorem dX7_kitchen_111 : decode cX7_kitchen 111 = .ok (.iinc 2 1, 3) := by decide +kernel
theorem dX7_kitchen_114 : decode cX7_kitchen 114 = .ok (.goto (-31), 3) := by decide +kernel
theorem dX7_kitchen_117 : decode cX7_kitchen 117 = .ok (.iconst 0, 1) := by decide +kernel
theorem dX7_kitchen_118 : decode cX7_kitchen 118 = .ok (.istore_n 2, 1) := by decide +kernel
theorem dX7_kitchen_119 : decode cX7_kitchen 119 = .ok (.iload_n 2, 1) := by decide +kernel
theorem dX7_kitchen_120 : decode cX7_kitchen 120 = .ok (.bipush 27, 2) := by decide +kernel
theorem dX7_kitchen_122 : decode cX7_kitchen 122 = .ok (.if_icmp .ge 26, 3) := by decide +kernel
theorem dX7_kitchen_125 : decode cX7_kitchen 125 = .ok (.aload_n 0, 1) := by decide +kernel
theorem dX7_kitchen_126 : decode cX7_kitchen 126 = .ok (.getfield 35, 3) := by decide +kernel
theorem dX7_kitchen_129 : decode cX7_kitchen 129 = .ok (.iload_n 2, 1) := by decide +kernel
theorem dX7_kitchen_130 : decode cX7_kitchen 130 = .ok (.iload_n 2, 1) := by decide +kernel
theorem dX7_kitchen_131 : decode cX7_kitchen 131 = .ok (.bipush 26, 2) := by decide +kernel
theorem dX7_kitchen_133 : decode cX7_kitchen 133 = .ok (.if_icmp .ne 7, 3) := by decide +kernel
theorem dX7_kitchen_136 : decode cX7_kitchen 136 = .ok (.iconst (-1), 1) := by decide +kernel
theorem dX7_kitchen_137 : decode cX7_kitchen 137 = .ok (.goto 4, 3) := by decide +kernel
theorem dX7_kitchen_140 : decode cX7_kitchen 140 = .ok (.iconst 0, 1) := by decide +kernel
theorem dX7_kitchen_141 : decode cX7_kitchen 141 = .ok (.iastore, 1) := by decide +kernel
theorem dX7_kitchen_142 : decode cX7_kitchen 142 = .ok (.iinc 2 1, 3) := by decide +kernel
theorem dX7_kitchen_145 : decode cX7_kitchen 145 = .ok (.goto (-26), 3) := by decide +kernel
theorem dX7_kitchen_148 : decode cX7_kitchen 148 = .ok (.iconst 0, 1) := by decide +kernel
theorem dX7_kitchen_149 : decode cX7_kitchen 149 = .ok (.istore_n 2, 1) := by decide +kernel
theorem dX7_kitchen_150 : decode cX7_kitchen 150 = .ok (.iload_n 2, 1) := by decide +kernel
theorem dX7_kitchen_151 : decode cX7_kitchen 151 = .ok (.aload_n 0, 1) := by decide +kernel
theorem dX7_kitchen_152 : decode cX7_kitchen 152 = .ok (.getfield 120, 3) := by decide +kernel
theorem dX7_kitchen_155 : decode cX7_kitchen 155 = .ok (.if_icmp .ge 58, 3) := by decide +kernel
theorem dX7_kitchen_158 : decode cX7_kitchen 158 = .ok (.aload_n 0, 1) := by decide +kernel
theorem dX7_kitchen_159 : decode cX7_kitchen 159 = .ok (.getfield 35, 3) := by decide +kernel
theorem dX7_kitchen_162 : decode cX7_kitchen 162 = .ok (.iload_n 2, 1) := by decide +kernel
theorem dX7_kitchen_163 : decode cX7_kitchen 163 = .ok (.aload_n 0, 1) := by decide +kernel
theorem dX7_kitchen_164 : decode cX7_kitchen 164 = .ok (.getfield 20, 3) := by decide +kernel
theorem dX7_kitchen_167 : decode cX7_kitchen 167 = .ok (.iconst 3, 1) := by decide +kernel
theorem dX7_kitchen_168 : decode cX7_kitchen 168 = .ok (.iload_n 2, 1) := by decide +kernel
theorem dX7_kitchen_169 : decode cX7_kitchen 169 = .ok (.imul, 1) := by decide +kernel
theorem dX7_kitchen_170 : decode cX7_kitchen 170 = .ok (.iaload, 1) := by decide +kernel
theorem dX7_kitchen_171 : decode cX7_kitchen 171 = .ok (.iastore, 1) := by decide +kernel
theorem dX7_kitchen_172 : decode cX7_kitchen 172 = .ok (.aload_n 0, 1) := by decide +kernel
theorem dX7_kitchen_173 : decode cX7_kitchen 173 = .ok (.getfield 35, 3) := by decide +kernel
theorem dX7_kitchen_176 : decode cX7_kitchen 176 = .ok (.bipush 8, 2) := by decide +kernel
theorem dX7_kitchen_178 : decode cX7_kitchen 178 = .ok (.iload_n 2, 1) := by decide +kernel
theorem dX7_kitchen_179 : decode cX7_kitchen 179 = .ok (.iadd, 1) := by decide +kernel
theorem dX7_kitchen_180 : decode cX7_kitchen 180 = .ok (.aload_n 0, 1) := by decide +kernel
theorem dX7_kitchen_181 : decode cX7_kitchen 181 = .ok (.getfield 20, 3) := by decide +kernel
theorem dX7_kitchen_184 : decode cX7_kitchen 184 = .ok (.iconst 3, 1) := by decide +kernel
theorem dX7_kitchen_185 : decode cX7_kitchen 185 = .ok (.iload_n 2, 1) := by decide +kernel
theorem dX7_kitchen_186 : decode cX7_kitchen 186 = .ok (.imul, 1) := by decide +kernel
theorem dX7_kitchen_187 : decode cX7_kitchen 187 = .ok (.iconst 1, 1) := by decide +kernel
theorem dX7_kitchen_188 : decode cX7_kitchen 188 = .ok (.iadd, 1) := by decide +kernel
theorem dX7_kitchen_189 : decode cX7_kitchen 189 = .ok (.iaload, 1) := by decide +kernel
theorem dX7_kitchen_190 : decode cX7_kitchen 190 = .ok (.iastore, 1) := by decide +kernel
theorem dX7_kitchen_191 : decode cX7_kitchen 191 = .ok (.aload_n 0, 1) := by decide +kernel
theorem dX7_kitchen_192 : decode cX7_kitchen 192 = .ok (.getfield 29, 3) := by decide +kernel
theorem dX7_kitchen_195 : decode cX7_kitchen 195 = .ok (.iload_n 2, 1) := by decide +kernel
theorem dX7_kitchen_196 : decode cX7_kitchen 196 = .ok (.aload_n 0, 1) := by decide +kernel
theorem dX7_kitchen_197 : decode cX7_kitchen 197 = .ok (.getfield 20, 3) := by decide +kernel
theorem dX7_kitchen_200 : decode cX7_kitchen 200 = .ok (.iconst 3, 1) := by decide +kernel
theorem dX7_kitchen_201 : decode cX7_kitchen 201 = .ok (.iload_n 2, 1) := by decide +kernel
theorem dX7_kitchen_202 : decode cX7_kitchen 202 = .ok (.imul, 1) := by decide +kernel
theorem dX7_kitchen_203 : decode cX7_kitchen 203 = .ok (.iconst 2, 1) := by decide +kernel
theorem dX7_kitchen_204 : decode cX7_kitchen 204 = .ok (.iadd, 1) := by decide +kernel
theorem dX7_kitchen_205 : decode cX7_kitchen 205 = .ok (.iaload, 1) := by decide +kernel
theorem dX7_kitchen_206 : decode cX7_kitchen 206 = .ok (.iastore, 1) := by decide +kernel
theorem dX7_kitchen_207 : decode cX7_kitchen 207 = .ok (.iinc 2 1, 3) := by decide +kernel
theorem dX7_kitchen_210 : decode cX7_kitchen 210 = .ok (.goto (-60), 3) := by decide +kernel
theorem dX7_kitchen_213 : decode cX7_kitchen 213 = .ok (.iconst 0, 1) := by decide +kernel
theorem dX7_kitchen_214 : decode cX7_kitchen 214 = .ok (.istore_n 2, 1) := by decide +kernel
theorem dX7_kitchen_215 : decode cX7_kitchen 215 = .ok (.iload_n 2, 1) := by decide +kernel
theorem dX7_kitchen_216 : decode cX7_kitchen 216 = .ok (.aload_n 0, 1) := by decide +kernel
theorem dX7_kitchen_217 : decode cX7_kitchen 217 = .ok (.getfield 123, 3) := by decide +kernel
theorem dX7_kitchen_220 : decode cX7_kitchen 220 = .ok (.if_icmp .ge 21, 3) := by decide +kernel
theorem dX7_kitchen_223 : decode cX7_kitchen 223 = .ok (.aload_n 0, 1) := by decide +kernel
theorem dX7_kitchen_224 : decode cX7_kitchen 224 = .ok (.getfield 32, 3) := by decide +kernel
theorem dX7_kitchen_227 : decode cX7_kitchen 227 = .ok (.iload_n 2, 1) := by decide +kernel
theorem dX7_kitchen_228 : decode cX7_kitchen 228 = .ok (.aload_n 0, 1) := by decide +kernel
theorem dX7_kitchen_229 : decode cX7_kitchen 229 = .ok (.getfield 23, 3) := by decide +kernel
theorem dX7_kitchen_232 : decode cX7_kitchen 232 = .ok (.iload_n 2, 1) := by decide +kernel
theorem dX7_kitchen_233 : decode cX7_kitchen 233 = .ok (.iaload, 1) := by decide +kernel
theorem dX7_kitchen_234 : decode cX7_kitchen 234 = .ok (.iastore, 1) := by decide +kernel
theorem dX7_kitchen_235 : decode cX7_kitchen 235 = .ok (.iinc 2 1, 3) := by decide +kernel
theorem dX7_kitchen_238 : decode cX7_kitchen 238 = .ok (.goto (-23), 3) := by decide +kernel
theorem dX7_kitchen_241 : decode cX7_kitchen 241 = .ok (.aload_n 0, 1) := by decide +kernel
theorem dX7_kitchen_242 : decode cX7_kitchen 242 = .ok (.iconst 0, 1) := by decide +kernel
theorem dX7_kitchen_243 : decode cX7_kitchen 243 = .ok (.putfield 126, 3) := by decide +kernel
theorem dX7_kitchen_246 : decode cX7_kitchen 246 = .ok (.aload_n 0, 1) := by decide +kernel
theorem dX7_kitchen_247 : decode cX7_kitchen 247 = .ok (.iconst 0, 1) := by decide +kernel
theorem dX7_kitchen_248 : decode cX7_kitchen 248 = .ok (.putfield 129, 3) := by decide +kernel
theorem dX7_kitchen_251 : decode cX7_kitchen 251 = .ok (.aload_n 0, 1) := by decide +kernel
theorem dX7_kitchen_252 : decode cX7_kitchen 252 = .ok (.iconst 0, 1) := by decide +kernel
theorem dX7_kitchen_253 : decode cX7_kitchen 253 = .ok (.putfield 132, 3) := by decide +kernel
theorem dX7_kitchen_256 : decode cX7_kitchen 256 = .ok (.aload_n 0, 1) := by decide +kernel
theorem dX7_kitchen_257 : decode cX7_kitchen 257 = .ok (.getfield 47, 3) := by decide +kernel
theorem dX7_kitchen_260 : decode cX7_kitchen 260 = .ok (.iconst 0, 1) := by decide +kernel
theorem dX7_kitchen_261 : decode cX7_kitchen 261 = .ok (.iconst 0, 1) := by decide +kernel
theorem dX7_kitchen_262 : decode cX7_kitchen 262 = .ok (.bastore, 1) := by decide +kernel
theorem dX7_kitchen_263 : decode cX7_kitchen 263 = .ok (.aload_n 0, 1) := by decide +kernel
theorem dX7_kitchen_264 : decode cX7_kitchen 264 = .ok (.getfield 47, 3) := by decide +kernel
theorem dX7_kitchen_267 : decode cX7_kitchen 267 = .ok (.iconst 1, 1) := by decide +kernel
theorem dX7_kitchen_268 : decode cX7_kitchen 268 = .ok (.iconst 0, 1) := by decide +kernel
theorem dX7_kitchen_269 : decode cX7_kitchen 269 = .ok (.bastore, 1) := by decide +kernel
theorem dX7_kitchen_270 : decode cX7_kitchen 270 = .ok (.aload_n 0, 1) := by decide +kernel
theorem dX7_kitchen_271 : decode cX7_kitchen 271 = .ok (.getfield 120, 3) := by decide +kernel
theorem dX7_kitchen_274 : decode cX7_kitchen 274 = .ok (.ireturn, 1) := by decide +kernel
theorem dX7_isWord_0 : decode cX7_isWord 0 = .ok (.iload_n 1, 1) := by decide +kernel
theorem dX7_isWord_1 : decode cX7_isWord 1 = .ok (.iconst 0, 1) := by decide +kernel
theorem dX7_isWord_2 : decode cX7_isWord 2 = .ok (.aload_n 0, 1) := by decide +kernel
theorem dX7_isWord_3 : decode cX7_isWord 3 = .ok (.getfield 120, 3) := by decide +kernel
theorem dX7_isWord_6 : decode cX7_isWord 6 = .ok (.iconst 1, 1) := by decide +kernel
theorem dX7_isWord_7 : decode cX7_isWord 7 = .ok (.isub, 1) := by decide +kernel
theorem dX7_isWord_8 : decode cX7_isWord 8 = .ok (.invokestatic 58, 3) := by decide +kernel
theorem dX7_isWord_11 : decode cX7_isWord 11 = .ok (.ireturn, 1) := by decide +kernel
theorem dX7_isVoice_0 : decode cX7_isVoice 0 = .ok (.iload_n 1, 1) := by decide +kernel
theorem dX7_isVoice_1 : decode cX7_isVoice 1 = .ok (.iconst 0, 1) := by decide +kernel
theorem dX7_isVoice_2 : decode cX7_isVoice 2 = .ok (.aload_n 0, 1) := by decide +kernel
theorem dX7_isVoice_3 : decode cX7_isVoice 3 = .ok (.getfield 123, 3) := by decide +kernel
theorem dX7_isVoice_6 : decode cX7_isVoice 6 = .ok (.iconst 1, 1) := by decide +kernel
theorem dX7_isVoice_7 : decode cX7_isVoice 7 = .ok (.isub, 1) := by decide +kernel
theorem dX7_isVoice_8 : decode cX7_isVoice 8 = .ok (.invokestatic 58, 3) := by decide +kernel
theorem dX7_isVoice_11 : decode cX7_isVoice 11 = .ok (.ireturn, 1) := by decide +kernel
theorem dX7_isSound_0 : decode cX7_isSound 0 = .ok (.iload_n 0, 1) := by decide +kernel
theorem dX7_isSound_1 : decode cX7_isSound 1 = .ok (.iconst 0, 1) := by decide +kernel
theorem dX7_isSound_2 : decode cX7_isSound 2 = .ok (.sipush 999, 3) := by decide +kernel
theorem dX7_isSound_5 : decode cX7_isSound 5 = .ok (.invokestatic 58, 3) := by decide +kernel
theorem dX7_isSound_8 : decode cX7_isSound 8 = .ok (.ireturn, 1) := by decide +kernel
theorem dX7_allListed_0 : decode cX7_allListed 0 = .ok (.iconst 0, 1) := by decide +kernel
theorem dX7_allListed_1 : decode cX7_allListed 1 = .ok (.istore_n 1, 1) := by decide +kernel
theorem dX7_allListed_2 : decode cX7_allListed 2 = .ok (.iconst 0, 1) := by decide +kernel
theorem dX7_allListed_3 : decode cX7_allListed 3 = .ok (.istore_n 2, 1) := by decide +kernel
theorem dX7_allListed_4 : decode cX7_allListed 4 = .ok (.iload_n 2, 1) := by decide +kernel
theorem dX7_allListed_5 : decode cX7_allListed 5 = .ok (.aload_n 0, 1) := by decide +kernel
theorem dX7_allListed_6 : decode cX7_allListed 6 = .ok (.getfield 120, 3) := by decide +kernel
theorem dX7_allListed_9 : decode cX7_allListed 9 = .ok (.if_icmp .ge 21, 3) := by decide +kernel
theorem dX7_allListed_12 : decode cX7_allListed 12 = .ok (.iload_n 1, 1) := by decide +kernel
theorem dX7_allListed_13 : decode cX7_allListed 13 = .ok (.aload_n 0, 1) := by decide +kernel
theorem dX7_allListed_14 : decode cX7_allListed 14 = .ok (.getfield 35, 3) := by decide +kernel
theorem dX7_allListed_17 : decode cX7_allListed 17 = .ok (.bipush 16, 2) := by decide +kernel
theorem dX7_allListed_19 : decode cX7_allListed 19 = .ok (.iload_n 2, 1) := by decide +kernel
theorem dX7_allListed_20 : decode cX7_allListed 20 = .ok (.iadd, 1) := by decide +kernel
theorem dX7_allListed_21 : decode cX7_allListed 21 = .ok (.iaload, 1) := by decide +kernel
theorem dX7_allListed_22 : decode cX7_allListed 22 = .ok (.iadd, 1) := by decide +kernel
theorem dX7_allListed_23 : decode cX7_allListed 23 = .ok (.istore_n 1, 1) := by decide +kernel
theorem dX7_allListed_24 : decode cX7_allListed 24 = .ok (.iinc 2 1, 3) := by decide +kernel
theorem dX7_allListed_27 : decode cX7_allListed 27 = .ok (.goto (-23), 3) := by decide +kernel
theorem dX7_allListed_30 : decode cX7_allListed 30 = .ok (.iload_n 1, 1) := by decide +kernel
theorem dX7_allListed_31 : decode cX7_allListed 31 = .ok (.ireturn, 1) := by decide +kernel
theorem dX7_told_0 : decode cX7_told 0 = .ok (.iload_n 1, 1) := by decide +kernel
theorem dX7_told_1 : decode cX7_told 1 = .ok (.tableswitch 133 0 12 #[67, 67, 67, 74, 79, 84, 89, 97, 105, 113, 118, 123, 128], 67) := by decide +kernel
theorem dX7_told_68 : decode cX7_told 68 = .ok (.aload_n 0, 1) := by decide +kernel
theorem dX7_told_69 : decode cX7_told 69 = .ok (.getfield 26, 3) := by decide +kernel
theorem dX7_told_72 : decode cX7_told 72 = .ok (.iload_n 1, 1) := by decide +kernel
theorem dX7_told_73 : decode cX7_told 73 = .ok (.iaload, 1) := by decide +kernel
theorem dX7_told_74 : decode cX7_told 74 = .ok (.ireturn, 1) := by decide +kernel
theorem dX7_told_75 : decode cX7_told 75 = .ok (.aload_n 0, 1) := by decide +kernel
theorem dX7_told_76 : decode cX7_told 76 = .ok (.getfield 120, 3) := by decide +kernel
theorem dX7_told_79 : decode cX7_told 79 = .ok (.ireturn, 1) := by decide +kernel
theorem dX7_told_80 : decode cX7_told 80 = .ok (.aload_n 0, 1) := by decide +kernel
theorem dX7_told_81 : decode cX7_told 81 = .ok (.getfield 123, 3) := by decide +kernel
theorem dX7_told_84 : decode cX7_told 84 = .ok (.ireturn, 1) := by decide +kernel
theorem dX7_told_85 : decode cX7_told 85 = .ok (.aload_n 0, 1) := by decide +kernel
theorem dX7_told_86 : decode cX7_told 86 = .ok (.getfield 63, 3) := by decide +kernel
theorem dX7_told_89 : decode cX7_told 89 = .ok (.ireturn, 1) := by decide +kernel
theorem dX7_told_90 : decode cX7_told 90 = .ok (.aload_n 0, 1) := by decide +kernel
theorem dX7_told_91 : decode cX7_told 91 = .ok (.getfield 35, 3) := by decide +kernel
theorem dX7_told_94 : decode cX7_told 94 = .ok (.bipush 24, 2) := by decide +kernel
theorem dX7_told_96 : decode cX7_told 96 = .ok (.iaload, 1) := by decide +kernel
theorem dX7_told_97 : decode cX7_told 97 = .ok (.ireturn, 1) := by decide +kernel
theorem dX7_told_98 : decode cX7_told 98 = .ok (.aload_n 0, 1) := by decide +kernel
theorem dX7_told_99 : decode cX7_told 99 = .ok (.getfield 35, 3) := by decide +kernel
theorem dX7_told_102 : decode cX7_told 102 = .ok (.bipush 25, 2) := by decide +kernel
theorem dX7_told_104 : decode cX7_told 104 = .ok (.iaload, 1) := by decide +kernel
theorem dX7_told_105 : decode cX7_told 105 = .ok (.ireturn, 1) := by decide +kernel
theorem dX7_told_106 : decode cX7_told 106 = .ok (.aload_n 0, 1) := by decide +kernel
theorem dX7_told_107 : decode cX7_told 107 = .ok (.getfield 35, 3) := by decide +kernel
theorem dX7_told_110 : decode cX7_told 110 = .ok (.bipush 26, 2) := by decide +kernel
theorem dX7_told_112 : decode cX7_told 112 = .ok (.iaload, 1) := by decide +kernel
theorem dX7_told_113 : decode cX7_told 113 = .ok (.ireturn, 1) := by decide +kernel
theorem dX7_told_114 : decode cX7_told 114 = .ok (.aload_n 0, 1) := by decide +kernel
theorem dX7_told_115 : decode cX7_told 115 = .ok (.invokevirtual 135, 3) := by decide +kernel
theorem dX7_told_118 : decode cX7_told 118 = .ok (.ireturn, 1) := by decide +kernel
theorem dX7_told_119 : decode cX7_told 119 = .ok (.aload_n 0, 1) := by decide +kernel
theorem dX7_told_120 : decode cX7_told 120 = .ok (.getfield 126, 3) := by decide +kernel
theorem dX7_told_123 : decode cX7_told 123 = .ok (.ireturn, 1) := by decide +kernel
theorem dX7_told_124 : decode cX7_told 124 = .ok (.aload_n 0, 1) := by decide +kernel
theorem dX7_told_125 : decode cX7_told 125 = .ok (.getfield 129, 3) := by decide +kernel
theorem dX7_told_128 : decode cX7_told 128 = .ok (.ireturn, 1) := by decide +kernel
theorem dX7_told_129 : decode cX7_told 129 = .ok (.aload_n 0, 1) := by decide +kernel
theorem dX7_told_130 : decode cX7_told 130 = .ok (.getfield 132, 3) := by decide +kernel
theorem dX7_told_133 : decode cX7_told 133 = .ok (.ireturn, 1) := by decide +kernel
theorem dX7_told_134 : decode cX7_told 134 = .ok (.ldc 62, 2) := by decide +kernel
theorem dX7_told_136 : decode cX7_told 136 = .ok (.ireturn, 1) := by decide +kernel
theorem dX7_word_0 : decode cX7_word 0 = .ok (.aload_n 0, 1) := by decide +kernel
theorem dX7_word_1 : decode cX7_word 1 = .ok (.iload_n 1, 1) := by decide +kernel
theorem dX7_word_2 : decode cX7_word 2 = .ok (.invokevirtual 139, 3) := by decide +kernel
theorem dX7_word_5 : decode cX7_word 5 = .ok (.ifCond .ne 6, 3) := by decide +kernel
theorem dX7_word_8 : decode cX7_word 8 = .ok (.ldc 142, 2) := by decide +kernel
theorem dX7_word_10 : decode cX7_word 10 = .ok (.ireturn, 1) := by decide +kernel
theorem dX7_word_11 : decode cX7_word 11 = .ok (.iload_n 2, 1) := by decide +kernel
theorem dX7_word_12 : decode cX7_word 12 = .ok (.tableswitch 66 0 3 #[32, 39, 49, 56], 32) := by decide +kernel
theorem dX7_word_44 : decode cX7_word 44 = .ok (.aload_n 0, 1) := by decide +kernel
theorem dX7_word_45 : decode cX7_word 45 = .ok (.getfield 35, 3) := by decide +kernel
theorem dX7_word_48 : decode cX7_word 48 = .ok (.iload_n 1, 1) := by decide +kernel
theorem dX7_word_49 : decode cX7_word 49 = .ok (.iaload, 1) := by decide +kernel
theorem dX7_word_50 : decode cX7_word 50 = .ok (.ireturn, 1) := by decide +kernel
theorem dX7_word_51 : decode cX7_word 51 = .ok (.aload_n 0, 1) := by decide +kernel
theorem dX7_word_52 : decode cX7_word 52 = .ok (.getfield 35, 3) := by decide +kernel
theorem dX7_word_55 : decode cX7_word 55 = .ok (.bipush 8, 2) := by decide +kernel
theorem dX7_word_57 : decode cX7_word 57 = .ok (.iload_n 1, 1) := by decide +kernel
theorem dX7_word_58 : decode cX7_word 58 = .ok (.iadd, 1) := by decide +kernel
theorem dX7_word_59 : decode cX7_word 59 = .ok (.iaload, 1) := by decide +kernel
theorem dX7_word_60 : decode cX7_word 60 = .ok (.ireturn, 1) := by decide +kernel
theorem dX7_word_61 : decode cX7_word 61 = .ok (.aload_n 0, 1) := by decide +kernel
theorem dX7_word_62 : decode cX7_word 62 = .ok (.getfield 29, 3) := by decide +kernel
theorem dX7_word_65 : decode cX7_word 65 = .ok (.iload_n 1, 1) := by decide +kernel
theorem dX7_word_66 : decode cX7_word 66 = .ok (.iaload, 1) := by decide +kernel
theorem dX7_word_67 : decode cX7_word 67 = .ok (.ireturn, 1) := by decide +kernel
theorem dX7_word_68 : decode cX7_word 68 = .ok (.aload_n 0, 1) := by decide +kernel
theorem dX7_word_69 : decode cX7_word 69 = .ok (.getfield 35, 3) := by decide +kernel
theorem dX7_word_72 : decode cX7_word 72 = .ok (.bipush 16, 2) := by decide +kernel
theorem dX7_word_74 : decode cX7_word 74 = .ok (.iload_n 1, 1) := by decide +kernel
theorem dX7_word_75 : decode cX7_word 75 = .ok (.iadd, 1) := by decide +kernel
theorem dX7_word_76 : decode cX7_word 76 = .ok (.iaload, 1) := by decide +kernel
theorem dX7_word_77 : decode cX7_word 77 = .ok (.ireturn, 1) := by decide +kernel
theorem dX7_word_78 : decode cX7_word 78 = .ok (.ldc 62, 2) := by decide +kernel
theorem dX7_word_80 : decode cX7_word 80 = .ok (.ireturn, 1) := by decide +kernel
theorem dX7_voice_0 : decode cX7_voice 0 = .ok (.aload_n 0, 1) := by decide +kernel
theorem dX7_voice_1 : decode cX7_voice 1 = .ok (.iload_n 1, 1) := by decide +kernel
theorem dX7_voice_2 : decode cX7_voice 2 = .ok (.invokevirtual 143, 3) := by decide +kernel
theorem dX7_voice_5 : decode cX7_voice 5 = .ok (.ifCond .eq 12, 3) := by decide +kernel
theorem dX7_voice_8 : decode cX7_voice 8 = .ok (.aload_n 0, 1) := by decide +kernel
theorem dX7_voice_9 : decode cX7_voice 9 = .ok (.getfield 32, 3) := by decide +kernel
theorem dX7_voice_12 : decode cX7_voice 12 = .ok (.iload_n 1, 1) := by decide +kernel
theorem dX7_voice_13 : decode cX7_voice 13 = .ok (.iaload, 1) := by decide +kernel
theorem dX7_voice_14 : decode cX7_voice 14 = .ok (.goto 5, 3) := by decide +kernel
theorem dX7_voice_17 : decode cX7_voice 17 = .ok (.ldc 142, 2) := by decide +kernel
theorem dX7_voice_19 : decode cX7_voice 19 = .ok (.ireturn, 1) := by decide +kernel
theorem dX7_far_0 : decode cX7_far 0 = .ok (.iload_n 0, 1) := by decide +kernel
theorem dX7_far_1 : decode cX7_far 1 = .ok (.iload_n 1, 1) := by decide +kernel
theorem dX7_far_2 : decode cX7_far 2 = .ok (.isub, 1) := by decide +kernel
theorem dX7_far_3 : decode cX7_far 3 = .ok (.istore_n 2, 1) := by decide +kernel
theorem dX7_far_4 : decode cX7_far 4 = .ok (.iload_n 2, 1) := by decide +kernel
theorem dX7_far_5 : decode cX7_far 5 = .ok (.ifCond .ge 8, 3) := by decide +kernel
theorem dX7_far_8 : decode cX7_far 8 = .ok (.iload_n 2, 1) := by decide +kernel
theorem dX7_far_9 : decode cX7_far 9 = .ok (.ineg, 1) := by decide +kernel
theorem dX7_far_10 : decode cX7_far 10 = .ok (.goto 4, 3) := by decide +kernel
theorem dX7_far_13 : decode cX7_far 13 = .ok (.iload_n 2, 1) := by decide +kernel
theorem dX7_far_14 : decode cX7_far 14 = .ok (.ireturn, 1) := by decide +kernel
theorem dX7_apart_0 : decode cX7_apart 0 = .ok (.iload_n 0, 1) := by decide +kernel
theorem dX7_apart_1 : decode cX7_apart 1 = .ok (.bipush 100, 2) := by decide +kernel
theorem dX7_apart_3 : decode cX7_apart 3 = .ok (.idiv, 1) := by decide +kernel
theorem dX7_apart_4 : decode cX7_apart 4 = .ok (.iload_n 1, 1) := by decide +kernel
theorem dX7_apart_5 : decode cX7_apart 5 = .ok (.bipush 100, 2) := by decide +kernel
theorem dX7_apart_7 : decode cX7_apart 7 = .ok (.idiv, 1) := by decide +kernel
theorem dX7_apart_8 : decode cX7_apart 8 = .ok (.invokestatic 146, 3) := by decide +kernel
theorem dX7_apart_11 : decode cX7_apart 11 = .ok (.iload_n 0, 1) := by decide +kernel
theorem dX7_apart_12 : decode cX7_apart 12 = .ok (.bipush 10, 2) := by decide +kernel
theorem dX7_apart_14 : decode cX7_apart 14 = .ok (.idiv, 1) := by decide +kernel
theorem dX7_apart_15 : decode cX7_apart 15 = .ok (.bipush 10, 2) := by decide +kernel
theorem dX7_apart_17 : decode cX7_apart 17 = .ok (.irem, 1) := by decide +kernel
theorem dX7_apart_18 : decode cX7_apart 18 = .ok (.iload_n 1, 1) := by decide +kernel
theorem dX7_apart_19 : decode cX7_apart 19 = .ok (.bipush 10, 2) := by decide +kernel
theorem dX7_apart_21 : decode cX7_apart 21 = .ok (.idiv, 1) := by decide +kernel
theorem dX7_apart_22 : decode cX7_apart 22 = .ok (.bipush 10, 2) := by decide +kernel
theorem dX7_apart_24 : decode cX7_apart 24 = .ok (.irem, 1) := by decide +kernel
theorem dX7_apart_25 : decode cX7_apart 25 = .ok (.invokestatic 146, 3) := by decide +kernel
theorem dX7_apart_28 : decode cX7_apart 28 = .ok (.iadd, 1) := by decide +kernel
theorem dX7_apart_29 : decode cX7_apart 29 = .ok (.iload_n 0, 1) := by decide +kernel
theorem dX7_apart_30 : decode cX7_apart 30 = .ok (.bipush 10, 2) := by decide +kernel
theorem dX7_apart_32 : decode cX7_apart 32 = .ok (.irem, 1) := by decide +kernel
theorem dX7_apart_33 : decode cX7_apart 33 = .ok (.iload_n 1, 1) := by decide +kernel
theorem dX7_apart_34 : decode cX7_apart 34 = .ok (.bipush 10, 2) := by decide +kernel
theorem dX7_apart_36 : decode cX7_apart 36 = .ok (.irem, 1) := by decide +kernel
theorem dX7_apart_37 : decode cX7_apart 37 = .ok (.invokestatic 146, 3) := by decide +kernel
theorem dX7_apart_40 : decode cX7_apart 40 = .ok (.iadd, 1) := by decide +kernel
theorem dX7_apart_41 : decode cX7_apart 41 = .ok (.ireturn, 1) := by decide +kernel
theorem dX7_shifted_0 : decode cX7_shifted 0 = .ok (.iload_n 0, 1) := by decide +kernel
theorem dX7_shifted_1 : decode cX7_shifted 1 = .ok (.bipush 100, 2) := by decide +kernel
theorem dX7_shifted_3 : decode cX7_shifted 3 = .ok (.idiv, 1) := by decide +kernel
theorem dX7_shifted_4 : decode cX7_shifted 4 = .ok (.iload_n 1, 1) := by decide +kernel
theorem dX7_shifted_5 : decode cX7_shifted 5 = .ok (.bipush 100, 2) := by decide +kernel
theorem dX7_shifted_7 : decode cX7_shifted 7 = .ok (.idiv, 1) := by decide +kernel
theorem dX7_shifted_8 : decode cX7_shifted 8 = .ok (.iadd, 1) := by decide +kernel
theorem dX7_shifted_9 : decode cX7_shifted 9 = .ok (.bipush 10, 2) := by decide +kernel
theorem dX7_shifted_11 : decode cX7_shifted 11 = .ok (.irem, 1) := by decide +kernel
theorem dX7_shifted_12 : decode cX7_shifted 12 = .ok (.bipush 100, 2) := by decide +kernel
theorem dX7_shifted_14 : decode cX7_shifted 14 = .ok (.imul, 1) := by decide +kernel
theorem dX7_shifted_15 : decode cX7_shifted 15 = .ok (.iload_n 0, 1) := by decide +kernel
theorem dX7_shifted_16 : decode cX7_shifted 16 = .ok (.bipush 10, 2) := by decide +kernel
theorem dX7_shifted_18 : decode cX7_shifted 18 = .ok (.idiv, 1) := by decide +kernel
theorem dX7_shifted_19 : decode cX7_shifted 19 = .ok (.iload_n 1, 1) := by decide +kernel
theorem dX7_shifted_20 : decode cX7_shifted 20 = .ok (.bipush 10, 2) := by decide +kernel
theorem dX7_shifted_22 : decode cX7_shifted 22 = .ok (.idiv, 1) := by decide +kernel
theorem dX7_shifted_23 : decode cX7_shifted 23 = .ok (.iadd, 1) := by decide +kernel
theorem dX7_shifted_24 : decode cX7_shifted 24 = .ok (.bipush 10, 2) := by decide +kernel
theorem dX7_shifted_26 : decode cX7_shifted 26 = .ok (.irem, 1) := by decide +kernel
theorem dX7_shifted_27 : decode cX7_shifted 27 = .ok (.bipush 10, 2) := by decide +kernel
theorem dX7_shifted_29 : decode cX7_shifted 29 = .ok (.imul, 1) := by decide +kernel
theorem dX7_shifted_30 : decode cX7_shifted 30 = .ok (.iadd, 1) := by decide +kernel
theorem dX7_shifted_31 : decode cX7_shifted 31 = .ok (.iload_n 0, 1) := by decide +kernel
theorem dX7_shifted_32 : decode cX7_shifted 32 = .ok (.iload_n 1, 1) := by decide +kernel
theorem dX7_shifted_33 : decode cX7_shifted 33 = .ok (.iadd, 1) := by decide +kernel
theorem dX7_shifted_34 : decode cX7_shifted 34 = .ok (.bipush 10, 2) := by decide +kernel
theorem dX7_shifted_36 : decode cX7_shifted 36 = .ok (.irem, 1) := by decide +kernel
theorem dX7_shifted_37 : decode cX7_shifted 37 = .ok (.iadd, 1) := by decide +kernel
theorem dX7_shifted_38 : decode cX7_shifted 38 = .ok (.ireturn, 1) := by decide +kernel
theorem dX7_saidBy_0 : decode cX7_saidBy 0 = .ok (.aload_n 0, 1) := by decide +kernel
theorem dX7_saidBy_1 : decode cX7_saidBy 1 = .ok (.getfield 35, 3) := by decide +kernel
theorem dX7_saidBy_4 : decode cX7_saidBy 4 = .ok (.iload_n 1, 1) := by decide +kernel
theorem dX7_saidBy_5 : decode cX7_saidBy 5 = .ok (.iaload, 1) := by decide +kernel
theorem dX7_saidBy_6 : decode cX7_saidBy 6 = .ok (.aload_n 0, 1) := by decide +kernel
theorem dX7_saidBy_7 : decode cX7_saidBy 7 = .ok (.getfield 32, 3) := by decide +kernel
theorem dX7_saidBy_10 : decode cX7_saidBy 10 = .ok (.iload_n 2, 1) := by decide +kernel
theorem dX7_saidBy_11 : decode cX7_saidBy 11 = .ok (.iaload, 1) := by decide +kernel
theorem dX7_saidBy_12 : decode cX7_saidBy 12 = .ok (.invokestatic 150, 3) := by decide +kernel
theorem dX7_saidBy_15 : decode cX7_saidBy 15 = .ok (.ireturn, 1) := by decide +kernel
theorem dX7_weight_0 : decode cX7_weight 0 = .ok (.aload_n 0, 1) := by decide +kernel
theorem dX7_weight_1 : decode cX7_weight 1 = .ok (.getfield 35, 3) := by decide +kernel
theorem dX7_weight_4 : decode cX7_weight 4 = .ok (.bipush 8, 2) := by decide +kernel
theorem dX7_weight_6 : decode cX7_weight 6 = .ok (.iload_n 1, 1) := by decide +kernel
theorem dX7_weight_7 : decode cX7_weight 7 = .ok (.iadd, 1) := by decide +kernel
theorem dX7_weight_8 : decode cX7_weight 8 = .ok (.iaload, 1) := by decide +kernel
theorem dX7_weight_9 : decode cX7_weight 9 = .ok (.iconst 1, 1) := by decide +kernel
theorem dX7_weight_10 : decode cX7_weight 10 = .ok (.iadd, 1) := by decide +kernel
theorem dX7_weight_11 : decode cX7_weight 11 = .ok (.bipush 28, 2) := by decide +kernel
theorem dX7_weight_13 : decode cX7_weight 13 = .ok (.aload_n 0, 1) := by decide +kernel
theorem dX7_weight_14 : decode cX7_weight 14 = .ok (.getfield 35, 3) := by decide +kernel
theorem dX7_weight_17 : decode cX7_weight 17 = .ok (.iload_n 1, 1) := by decide +kernel
theorem dX7_weight_18 : decode cX7_weight 18 = .ok (.iaload, 1) := by decide +kernel
theorem dX7_weight_19 : decode cX7_weight 19 = .ok (.iload_n 2, 1) := by decide +kernel
theorem dX7_weight_20 : decode cX7_weight 20 = .ok (.invokestatic 153, 3) := by decide +kernel
theorem dX7_weight_23 : decode cX7_weight 23 = .ok (.isub, 1) := by decide +kernel
theorem dX7_weight_24 : decode cX7_weight 24 = .ok (.imul, 1) := by decide +kernel
theorem dX7_weight_25 : decode cX7_weight 25 = .ok (.ireturn, 1) := by decide +kernel
theorem dX7_guessOf_0 : decode cX7_guessOf 0 = .ok (.iconst (-1), 1) := by decide +kernel
theorem dX7_guessOf_1 : decode cX7_guessOf 1 = .ok (.istore_n 2, 1) := by decide +kernel
theorem dX7_guessOf_2 : decode cX7_guessOf 2 = .ok (.iconst 0, 1) := by decide +kernel
theorem dX7_guessOf_3 : decode cX7_guessOf 3 = .ok (.istore_n 3, 1) := by decide +kernel
theorem dX7_guessOf_4 : decode cX7_guessOf 4 = .ok (.iconst 0, 1) := by decide +kernel
theorem dX7_guessOf_5 : decode cX7_guessOf 5 = .ok (.istore 4, 2) := by decide +kernel
theorem dX7_guessOf_7 : decode cX7_guessOf 7 = .ok (.iload 4, 2) := by decide +kernel
theorem dX7_guessOf_9 : decode cX7_guessOf 9 = .ok (.aload_n 0, 1) := by decide +kernel
theorem dX7_guessOf_10 : decode cX7_guessOf 10 = .ok (.getfield 120, 3) := by decide +kernel
theorem dX7_guessOf_13 : decode cX7_guessOf 13 = .ok (.if_icmp .ge 44, 3) := by decide +kernel
theorem dX7_guessOf_16 : decode cX7_guessOf 16 = .ok (.aload_n 0, 1) := by decide +kernel
theorem dX7_guessOf_17 : decode cX7_guessOf 17 = .ok (.iload 4, 2) := by decide +kernel
theorem dX7_guessOf_19 : decode cX7_guessOf 19 = .ok (.iload_n 1, 1) := by decide +kernel
theorem dX7_guessOf_20 : decode cX7_guessOf 20 = .ok (.invokevirtual 156, 3) := by decide +kernel
theorem dX7_guessOf_23 : decode cX7_guessOf 23 = .ok (.istore 5, 2) := by decide +kernel
theorem dX7_guessOf_25 : decode cX7_guessOf 25 = .ok (.iload 5, 2) := by decide +kernel
theorem dX7_guessOf_27 : decode cX7_guessOf 27 = .ok (.iload_n 3, 1) := by decide +kernel
theorem dX7_guessOf_28 : decode cX7_guessOf 28 = .ok (.if_icmp .le 8, 3) := by decide +kernel
theorem dX7_guessOf_31 : decode cX7_guessOf 31 = .ok (.iload 4, 2) := by decide +kernel
theorem dX7_guessOf_33 : decode cX7_guessOf 33 = .ok (.goto 4, 3) := by decide +kernel
theorem dX7_guessOf_36 : decode cX7_guessOf 36 = .ok (.iload_n 2, 1) := by decide +kernel
theorem dX7_guessOf_37 : decode cX7_guessOf 37 = .ok (.istore_n 2, 1) := by decide +kernel
theorem dX7_guessOf_38 : decode cX7_guessOf 38 = .ok (.iload 5, 2) := by decide +kernel
theorem dX7_guessOf_40 : decode cX7_guessOf 40 = .ok (.iload_n 3, 1) := by decide +kernel
theorem dX7_guessOf_41 : decode cX7_guessOf 41 = .ok (.if_icmp .le 8, 3) := by decide +kernel
theorem dX7_guessOf_44 : decode cX7_guessOf 44 = .ok (.iload 5, 2) := by decide +kernel
theorem dX7_guessOf_46 : decode cX7_guessOf 46 = .ok (.goto 4, 3) := by decide +kernel
theorem dX7_guessOf_49 : decode cX7_guessOf 49 = .ok (.iload_n 3, 1) := by decide +kernel
theorem dX7_guessOf_50 : decode cX7_guessOf 50 = .ok (.istore_n 3, 1) := by decide +kernel
theorem dX7_guessOf_51 : decode cX7_guessOf 51 = .ok (.iinc 4 1, 3) := by decide +kernel
theorem dX7_guessOf_54 : decode cX7_guessOf 54 = .ok (.goto (-47), 3) := by decide +kernel
theorem dX7_guessOf_57 : decode cX7_guessOf 57 = .ok (.iload_n 2, 1) := by decide +kernel
theorem dX7_guessOf_58 : decode cX7_guessOf 58 = .ok (.ireturn, 1) := by decide +kernel
theorem dX7_sureOf_0 : decode cX7_sureOf 0 = .ok (.lconst 0, 1) := by decide +kernel
theorem dX7_sureOf_1 : decode cX7_sureOf 1 = .ok (.lstore_n 3, 1) := by decide +kernel
theorem dX7_sureOf_2 : decode cX7_sureOf 2 = .ok (.iconst 0, 1) := by decide +kernel
theorem dX7_sureOf_3 : decode cX7_sureOf 3 = .ok (.istore 5, 2) := by decide +kernel
theorem dX7_sureOf_5 : decode cX7_sureOf 5 = .ok (.iload 5, 2) := by decide +kernel
theorem dX7_sureOf_7 : decode cX7_sureOf 7 = .ok (.aload_n 0, 1) := by decide +kernel
theorem dX7_sureOf_8 : decode cX7_sureOf 8 = .ok (.getfield 120, 3) := by decide +kernel
theorem dX7_sureOf_11 : decode cX7_sureOf 11 = .ok (.if_icmp .ge 20, 3) := by decide +kernel
theorem dX7_sureOf_14 : decode cX7_sureOf 14 = .ok (.lload_n 3, 1) := by decide +kernel
theorem dX7_sureOf_15 : decode cX7_sureOf 15 = .ok (.aload_n 0, 1) := by decide +kernel
theorem dX7_sureOf_16 : decode cX7_sureOf 16 = .ok (.iload 5, 2) := by decide +kernel
theorem dX7_sureOf_18 : decode cX7_sureOf 18 = .ok (.iload_n 2, 1) := by decide +kernel
theorem dX7_sureOf_19 : decode cX7_sureOf 19 = .ok (.invokevirtual 156, 3) := by decide +kernel
theorem dX7_sureOf_22 : decode cX7_sureOf 22 = .ok (.i2l, 1) := by decide +kernel
theorem dX7_sureOf_23 : decode cX7_sureOf 23 = .ok (.ladd, 1) := by decide +kernel
theorem dX7_sureOf_24 : decode cX7_sureOf 24 = .ok (.lstore_n 3, 1) := by decide +kernel
theorem dX7_sureOf_25 : decode cX7_sureOf 25 = .ok (.iinc 5 1, 3) := by decide +kernel
theorem dX7_sureOf_28 : decode cX7_sureOf 28 = .ok (.goto (-23), 3) := by decide +kernel
theorem dX7_sureOf_31 : decode cX7_sureOf 31 = .ok (.aload_n 0, 1) := by decide +kernel
theorem dX7_sureOf_32 : decode cX7_sureOf 32 = .ok (.iload_n 1, 1) := by decide +kernel
theorem dX7_sureOf_33 : decode cX7_sureOf 33 = .ok (.iload_n 2, 1) := by decide +kernel
theorem dX7_sureOf_34 : decode cX7_sureOf 34 = .ok (.invokevirtual 156, 3) := by decide +kernel
theorem dX7_sureOf_37 : decode cX7_sureOf 37 = .ok (.i2l, 1) := by decide +kernel
theorem dX7_sureOf_38 : decode cX7_sureOf 38 = .ok (.ldc2_w 159, 3) := by decide +kernel
theorem dX7_sureOf_41 : decode cX7_sureOf 41 = .ok (.lmul, 1) := by decide +kernel
theorem dX7_sureOf_42 : decode cX7_sureOf 42 = .ok (.lload_n 3, 1) := by decide +kernel
theorem dX7_sureOf_43 : decode cX7_sureOf 43 = .ok (.ldiv, 1) := by decide +kernel
theorem dX7_sureOf_44 : decode cX7_sureOf 44 = .ok (.l2i, 1) := by decide +kernel
theorem dX7_sureOf_45 : decode cX7_sureOf 45 = .ok (.ireturn, 1) := by decide +kernel
theorem dX7_costOf_0 : decode cX7_costOf 0 = .ok (.iload_n 2, 1) := by decide +kernel
theorem dX7_costOf_1 : decode cX7_costOf 1 = .ok (.ifCond .le 12, 3) := by decide +kernel
theorem dX7_costOf_4 : decode cX7_costOf 4 = .ok (.aload_n 0, 1) := by decide +kernel
theorem dX7_costOf_5 : decode cX7_costOf 5 = .ok (.getfield 26, 3) := by decide +kernel
theorem dX7_costOf_8 : decode cX7_costOf 8 = .ok (.iload_n 2, 1) := by decide +kernel
theorem dX7_costOf_9 : decode cX7_costOf 9 = .ok (.iconst 1, 1) := by decide +kernel
theorem dX7_costOf_10 : decode cX7_costOf 10 = .ok (.isub, 1) := by decide +kernel
theorem dX7_costOf_11 : decode cX7_costOf 11 = .ok (.iaload, 1) := by decide +kernel
theorem dX7_costOf_12 : decode cX7_costOf 12 = .ok (.ireturn, 1) := by decide +kernel
theorem dX7_costOf_13 : decode cX7_costOf 13 = .ok (.aload_n 0, 1) := by decide +kernel
theorem dX7_costOf_14 : decode cX7_costOf 14 = .ok (.iload_n 1, 1) := by decide +kernel
theorem dX7_costOf_15 : decode cX7_costOf 15 = .ok (.invokevirtual 161, 3) := by decide +kernel
theorem dX7_costOf_18 : decode cX7_costOf 18 = .ok (.istore_n 3, 1) := by decide +kernel
theorem dX7_costOf_19 : decode cX7_costOf 19 = .ok (.ldc 164, 2) := by decide +kernel
theorem dX7_costOf_21 : decode cX7_costOf 21 = .ok (.aload_n 0, 1) := by decide +kernel
theorem dX7_costOf_22 : decode cX7_costOf 22 = .ok (.iload_n 3, 1) := by decide +kernel
theorem dX7_costOf_23 : decode cX7_costOf 23 = .ok (.iload_n 1, 1) := by decide +kernel
theorem dX7_costOf_24 : decode cX7_costOf 24 = .ok (.invokevirtual 165, 3) := by decide +kernel
theorem dX7_costOf_27 : decode cX7_costOf 27 = .ok (.isub, 1) := by decide +kernel
theorem dX7_costOf_28 : decode cX7_costOf 28 = .ok (.i2l, 1) := by decide +kernel
theorem dX7_costOf_29 : decode cX7_costOf 29 = .ok (.aload_n 0, 1) := by decide +kernel
theorem dX7_costOf_30 : decode cX7_costOf 30 = .ok (.getfield 29, 3) := by decide +kernel
theorem dX7_costOf_33 : decode cX7_costOf 33 = .ok (.iload_n 3, 1) := by decide +kernel
theorem dX7_costOf_34 : decode cX7_costOf 34 = .ok (.iaload, 1) := by decide +kernel
theorem dX7_costOf_35 : decode cX7_costOf 35 = .ok (.i2l, 1) := by decide +kernel
theorem dX7_costOf_36 : decode cX7_costOf 36 = .ok (.lmul, 1) := by decide +kernel
theorem dX7_costOf_37 : decode cX7_costOf 37 = .ok (.ldc2_w 159, 3) := by decide +kernel
theorem dX7_costOf_40 : decode cX7_costOf 40 = .ok (.ldiv, 1) := by decide +kernel
theorem dX7_costOf_41 : decode cX7_costOf 41 = .ok (.l2i, 1) := by decide +kernel
theorem dX7_costOf_42 : decode cX7_costOf 42 = .ok (.ireturn, 1) := by decide +kernel
theorem dX7_ruleOf_0 : decode cX7_ruleOf 0 = .ok (.iconst 0, 1) := by decide +kernel
theorem dX7_ruleOf_1 : decode cX7_ruleOf 1 = .ok (.istore_n 2, 1) := by decide +kernel
theorem dX7_ruleOf_2 : decode cX7_ruleOf 2 = .ok (.iconst 1, 1) := by decide +kernel
theorem dX7_ruleOf_3 : decode cX7_ruleOf 3 = .ok (.istore_n 3, 1) := by decide +kernel
theorem dX7_ruleOf_4 : decode cX7_ruleOf 4 = .ok (.iload_n 3, 1) := by decide +kernel
theorem dX7_ruleOf_5 : decode cX7_ruleOf 5 = .ok (.iconst 3, 1) := by decide +kernel
theorem dX7_ruleOf_6 : decode cX7_ruleOf 6 = .ok (.if_icmp .ge 30, 3) := by decide +kernel
theorem dX7_ruleOf_9 : decode cX7_ruleOf 9 = .ok (.aload_n 0, 1) := by decide +kernel
theorem dX7_ruleOf_10 : decode cX7_ruleOf 10 = .ok (.iload_n 1, 1) := by decide +kernel
theorem dX7_ruleOf_11 : decode cX7_ruleOf 11 = .ok (.iload_n 3, 1) := by decide +kernel
theorem dX7_ruleOf_12 : decode cX7_ruleOf 12 = .ok (.invokevirtual 168, 3) := by decide +kernel
theorem dX7_ruleOf_15 : decode cX7_ruleOf 15 = .ok (.aload_n 0, 1) := by decide +kernel
theorem dX7_ruleOf_16 : decode cX7_ruleOf 16 = .ok (.iload_n 1, 1) := by decide +kernel
theorem dX7_ruleOf_17 : decode cX7_ruleOf 17 = .ok (.iload_n 2, 1) := by decide +kernel
theorem dX7_ruleOf_18 : decode cX7_ruleOf 18 = .ok (.invokevirtual 168, 3) := by decide +kernel
theorem dX7_ruleOf_21 : decode cX7_ruleOf 21 = .ok (.if_icmp .ge 7, 3) := by decide +kernel
theorem dX7_ruleOf_24 : decode cX7_ruleOf 24 = .ok (.iload_n 3, 1) := by decide +kernel
theorem dX7_ruleOf_25 : decode cX7_ruleOf 25 = .ok (.goto 4, 3) := by decide +kernel
theorem dX7_ruleOf_28 : decode cX7_ruleOf 28 = .ok (.iload_n 2, 1) := by decide +kernel
theorem dX7_ruleOf_29 : decode cX7_ruleOf 29 = .ok (.istore_n 2, 1) := by decide +kernel
theorem dX7_ruleOf_30 : decode cX7_ruleOf 30 = .ok (.iinc 3 1, 3) := by decide +kernel
theorem dX7_ruleOf_33 : decode cX7_ruleOf 33 = .ok (.goto (-29), 3) := by decide +kernel
theorem dX7_ruleOf_36 : decode cX7_ruleOf 36 = .ok (.iload_n 2, 1) := by decide +kernel
theorem dX7_ruleOf_37 : decode cX7_ruleOf 37 = .ok (.ireturn, 1) := by decide +kernel
theorem dX7_remember_0 : decode cX7_remember 0 = .ok (.iconst 0, 1) := by decide +kernel
theorem dX7_remember_1 : decode cX7_remember 1 = .ok (.istore_n 1, 1) := by decide +kernel
theorem dX7_remember_2 : decode cX7_remember 2 = .ok (.iload_n 1, 1) := by decide +kernel
theorem dX7_remember_3 : decode cX7_remember 3 = .ok (.bipush 27, 2) := by decide +kernel
theorem dX7_remember_5 : decode cX7_remember 5 = .ok (.if_icmp .ge 29, 3) := by decide +kernel
theorem dX7_remember_8 : decode cX7_remember 8 = .ok (.aload_n 0, 1) := by decide +kernel
theorem dX7_remember_9 : decode cX7_remember 9 = .ok (.getfield 38, 3) := by decide +kernel
theorem dX7_remember_12 : decode cX7_remember 12 = .ok (.bipush 27, 2) := by decide +kernel
theorem dX7_remember_14 : decode cX7_remember 14 = .ok (.aload_n 0, 1) := by decide +kernel
theorem dX7_remember_15 : decode cX7_remember 15 = .ok (.getfield 171, 3) := by decide +kernel
theorem dX7_remember_18 : decode cX7_remember 18 = .ok (.imul, 1) := by decide +kernel
theorem dX7_remember_19 : decode cX7_remember 19 = .ok (.iload_n 1, 1) := by decide +kernel
theorem dX7_remember_20 : decode cX7_remember 20 = .ok (.iadd, 1) := by decide +kernel
theorem dX7_remember_21 : decode cX7_remember 21 = .ok (.aload_n 0, 1) := by decide +kernel
theorem dX7_remember_22 : decode cX7_remember 22 = .ok (.getfield 35, 3) := by decide +kernel
theorem dX7_remember_25 : decode cX7_remember 25 = .ok (.iload_n 1, 1) := by decide +kernel
theorem dX7_remember_26 : decode cX7_remember 26 = .ok (.iaload, 1) := by decide +kernel
theorem dX7_remember_27 : decode cX7_remember 27 = .ok (.iastore, 1) := by decide +kernel
theorem dX7_remember_28 : decode cX7_remember 28 = .ok (.iinc 1 1, 3) := by decide +kernel
theorem dX7_remember_31 : decode cX7_remember 31 = .ok (.goto (-29), 3) := by decide +kernel
theorem dX7_remember_34 : decode cX7_remember 34 = .ok (.aload_n 0, 1) := by decide +kernel
theorem dX7_remember_35 : decode cX7_remember 35 = .ok (.aload_n 0, 1) := by decide +kernel
theorem dX7_remember_36 : decode cX7_remember 36 = .ok (.getfield 171, 3) := by decide +kernel
theorem dX7_remember_39 : decode cX7_remember 39 = .ok (.iconst 1, 1) := by decide +kernel
theorem dX7_remember_40 : decode cX7_remember 40 = .ok (.iadd, 1) := by decide +kernel
theorem dX7_remember_41 : decode cX7_remember 41 = .ok (.bipush 20, 2) := by decide +kernel
theorem dX7_remember_43 : decode cX7_remember 43 = .ok (.irem, 1) := by decide +kernel
theorem dX7_remember_44 : decode cX7_remember 44 = .ok (.putfield 171, 3) := by decide +kernel
theorem dX7_remember_47 : decode cX7_remember 47 = .ok (.aload_n 0, 1) := by decide +kernel
theorem dX7_remember_48 : decode cX7_remember 48 = .ok (.dup, 1) := by decide +kernel
theorem dX7_remember_49 : decode cX7_remember 49 = .ok (.getfield 132, 3) := by decide +kernel
theorem dX7_remember_52 : decode cX7_remember 52 = .ok (.aload_n 0, 1) := by decide +kernel
theorem dX7_remember_53 : decode cX7_remember 53 = .ok (.getfield 132, 3) := by decide +kernel
theorem dX7_remember_56 : decode cX7_remember 56 = .ok (.bipush 20, 2) := by decide +kernel
theorem dX7_remember_58 : decode cX7_remember 58 = .ok (.if_icmp .ge 7, 3) := by decide +kernel
theorem dX7_remember_61 : decode cX7_remember 61 = .ok (.iconst 1, 1) := by decide +kernel
theorem dX7_remember_62 : decode cX7_remember 62 = .ok (.goto 4, 3) := by decide +kernel
theorem dX7_remember_65 : decode cX7_remember 65 = .ok (.iconst 0, 1) := by decide +kernel
theorem dX7_remember_66 : decode cX7_remember 66 = .ok (.iadd, 1) := by decide +kernel
theorem dX7_remember_67 : decode cX7_remember 67 = .ok (.putfield 132, 3) := by decide +kernel
theorem dX7_remember_70 : decode cX7_remember 70 = .ok (.return_, 1) := by decide +kernel
theorem dX7_atMost_0 : decode cX7_atMost 0 = .ok (.iload_n 0, 1) := by decide +kernel
theorem dX7_atMost_1 : decode cX7_atMost 1 = .ok (.bipush 99, 2) := by decide +kernel
theorem dX7_atMost_3 : decode cX7_atMost 3 = .ok (.if_icmp .le 8, 3) := by decide +kernel
theorem dX7_atMost_6 : decode cX7_atMost 6 = .ok (.bipush 99, 2) := by decide +kernel
theorem dX7_atMost_8 : decode cX7_atMost 8 = .ok (.goto 4, 3) := by decide +kernel
theorem dX7_atMost_11 : decode cX7_atMost 11 = .ok (.iload_n 0, 1) := by decide +kernel
theorem dX7_atMost_12 : decode cX7_atMost 12 = .ok (.ireturn, 1) := by decide +kernel
theorem dX7_less_0 : decode cX7_less 0 = .ok (.iload_n 0, 1) := by decide +kernel
theorem dX7_less_1 : decode cX7_less 1 = .ok (.ifCond .le 9, 3) := by decide +kernel
theorem dX7_less_4 : decode cX7_less 4 = .ok (.iload_n 0, 1) := by decide +kernel
theorem dX7_less_5 : decode cX7_less 5 = .ok (.iconst 1, 1) := by decide +kernel
theorem dX7_less_6 : decode cX7_less 6 = .ok (.isub, 1) := by decide +kernel
theorem dX7_less_7 : decode cX7_less 7 = .ok (.goto 4, 3) := by decide +kernel
theorem dX7_less_10 : decode cX7_less 10 = .ok (.iconst 0, 1) := by decide +kernel
theorem dX7_less_11 : decode cX7_less 11 = .ok (.ireturn, 1) := by decide +kernel
theorem dX7_hears_0 : decode cX7_hears 0 = .ok (.aload_n 0, 1) := by decide +kernel
theorem dX7_hears_1 : decode cX7_hears 1 = .ok (.iload_n 1, 1) := by decide +kernel
theorem dX7_hears_2 : decode cX7_hears 2 = .ok (.invokevirtual 174, 3) := by decide +kernel
theorem dX7_hears_5 : decode cX7_hears 5 = .ok (.istore_n 2, 1) := by decide +kernel
theorem dX7_hears_6 : decode cX7_hears 6 = .ok (.aload_n 0, 1) := by decide +kernel
theorem dX7_hears_7 : decode cX7_hears 7 = .ok (.iload_n 1, 1) := by decide +kernel
theorem dX7_hears_8 : decode cX7_hears 8 = .ok (.invokevirtual 161, 3) := by decide +kernel
theorem dX7_hears_11 : decode cX7_hears 11 = .ok (.istore_n 3, 1) := by decide +kernel
theorem dX7_hears_12 : decode cX7_hears 12 = .ok (.aload_n 0, 1) := by decide +kernel
theorem dX7_hears_13 : decode cX7_hears 13 = .ok (.getfield 35, 3) := by decide +kernel
theorem dX7_hears_16 : decode cX7_hears 16 = .ok (.bipush 24, 2) := by decide +kernel
theorem dX7_hears_18 : decode cX7_hears 18 = .ok (.dup2, 1) := by decide +kernel
theorem dX7_hears_19 : decode cX7_hears 19 = .ok (.iaload, 1) := by decide +kernel
theorem dX7_hears_20 : decode cX7_hears 20 = .ok (.iconst 1, 1) := by decide +kernel
theorem dX7_hears_21 : decode cX7_hears 21 = .ok (.iadd, 1) := by decide +kernel
theorem dX7_hears_22 : decode cX7_hears 22 = .ok (.iastore, 1) := by decide +kernel
theorem dX7_hears_23 : decode cX7_hears 23 = .ok (.aload_n 0, 1) := by decide +kernel
theorem dX7_hears_24 : decode cX7_hears 24 = .ok (.getfield 35, 3) := by decide +kernel
theorem dX7_hears_27 : decode cX7_hears 27 = .ok (.bipush 26, 2) := by decide +kernel
theorem dX7_hears_29 : decode cX7_hears 29 = .ok (.iload_n 3, 1) := by decide +kernel
theorem dX7_hears_30 : decode cX7_hears 30 = .ok (.iastore, 1) := by decide +kernel
theorem dX7_hears_31 : decode cX7_hears 31 = .ok (.aload_n 0, 1) := by decide +kernel
theorem dX7_hears_32 : decode cX7_hears 32 = .ok (.getfield 35, 3) := by decide +kernel
theorem dX7_hears_35 : decode cX7_hears 35 = .ok (.bipush 16, 2) := by decide +kernel
theorem dX7_hears_37 : decode cX7_hears 37 = .ok (.iload_n 3, 1) := by decide +kernel
theorem dX7_hears_38 : decode cX7_hears 38 = .ok (.iadd, 1) := by decide +kernel
theorem dX7_hears_39 : decode cX7_hears 39 = .ok (.iload_n 2, 1) := by decide +kernel
theorem dX7_hears_40 : decode cX7_hears 40 = .ok (.ifCond .ne 20, 3) := by decide +kernel
theorem dX7_hears_43 : decode cX7_hears 43 = .ok (.aload_n 0, 1) := by decide +kernel
theorem dX7_hears_44 : decode cX7_hears 44 = .ok (.getfield 35, 3) := by decide +kernel
theorem dX7_hears_47 : decode cX7_hears 47 = .ok (.bipush 16, 2) := by decide +kernel
theorem dX7_hears_49 : decode cX7_hears 49 = .ok (.iload_n 3, 1) := by decide +kernel
theorem dX7_hears_50 : decode cX7_hears 50 = .ok (.iadd, 1) := by decide +kernel
theorem dX7_hears_51 : decode cX7_hears 51 = .ok (.iaload, 1) := by decide +kernel
theorem dX7_hears_52 : decode cX7_hears 52 = .ok (.iconst 1, 1) := by decide +kernel
theorem dX7_hears_53 : decode cX7_hears 53 = .ok (.iadd, 1) := by decide +kernel
theorem dX7_hears_54 : decode cX7_hears 54 = .ok (.invokestatic 177, 3) := by decide +kernel
theorem dX7_hears_57 : decode cX7_hears 57 = .ok (.goto 12, 3) := by decide +kernel
theorem dX7_hears_60 : decode cX7_hears 60 = .ok (.aload_n 0, 1) := by decide +kernel
theorem dX7_hears_61 : decode cX7_hears 61 = .ok (.getfield 35, 3) := by decide +kernel
theorem dX7_hears_64 : decode cX7_hears 64 = .ok (.bipush 16, 2) := by decide +kernel
theorem dX7_hears_66 : decode cX7_hears 66 = .ok (.iload_n 3, 1) := by decide +kernel
theorem dX7_hears_67 : decode cX7_hears 67 = .ok (.iadd, 1) := by decide +kernel
theorem dX7_hears_68 : decode cX7_hears 68 = .ok (.iaload, 1) := by decide +kernel
theorem dX7_hears_69 : decode cX7_hears 69 = .ok (.iastore, 1) := by decide +kernel
theorem dX7_hears_70 : decode cX7_hears 70 = .ok (.aload_n 0, 1) := by decide +kernel
theorem dX7_hears_71 : decode cX7_hears 71 = .ok (.getfield 35, 3) := by decide +kernel
theorem dX7_hears_74 : decode cX7_hears 74 = .ok (.bipush 25, 2) := by decide +kernel
theorem dX7_hears_76 : decode cX7_hears 76 = .ok (.dup2, 1) := by decide +kernel
theorem dX7_hears_77 : decode cX7_hears 77 = .ok (.iaload, 1) := by decide +kernel
theorem dX7_hears_78 : decode cX7_hears 78 = .ok (.iload_n 2, 1) := by decide +kernel
theorem dX7_hears_79 : decode cX7_hears 79 = .ok (.iconst 1, 1) := by decide +kernel
theorem dX7_hears_80 : decode cX7_hears 80 = .ok (.if_icmp .ne 7, 3) := by decide +kernel
theorem dX7_hears_83 : decode cX7_hears 83 = .ok (.iconst 1, 1) := by decide +kernel
theorem dX7_hears_84 : decode cX7_hears 84 = .ok (.goto 4, 3) := by decide +kernel
theorem dX7_hears_87 : decode cX7_hears 87 = .ok (.iconst 0, 1) := by decide +kernel
theorem dX7_hears_88 : decode cX7_hears 88 = .ok (.iadd, 1) := by decide +kernel
theorem dX7_hears_89 : decode cX7_hears 89 = .ok (.iastore, 1) := by decide +kernel
theorem dX7_hears_90 : decode cX7_hears 90 = .ok (.iload_n 2, 1) := by decide +kernel
theorem dX7_hears_91 : decode cX7_hears 91 = .ok (.ireturn, 1) := by decide +kernel
theorem dX7_takesBack_0 : decode cX7_takesBack 0 = .ok (.aload_n 0, 1) := by decide +kernel
theorem dX7_takesBack_1 : decode cX7_takesBack 1 = .ok (.getfield 35, 3) := by decide +kernel
theorem dX7_takesBack_4 : decode cX7_takesBack 4 = .ok (.bipush 26, 2) := by decide +kernel
theorem dX7_takesBack_6 : decode cX7_takesBack 6 = .ok (.iaload, 1) := by decide +kernel
theorem dX7_takesBack_7 : decode cX7_takesBack 7 = .ok (.istore_n 2, 1) := by decide +kernel
theorem dX7_takesBack_8 : decode cX7_takesBack 8 = .ok (.aload_n 0, 1) := by decide +kernel
theorem dX7_takesBack_9 : decode cX7_takesBack 9 = .ok (.getfield 35, 3) := by decide +kernel
theorem dX7_takesBack_12 : decode cX7_takesBack 12 = .ok (.bipush 16, 2) := by decide +kernel
theorem dX7_takesBack_14 : decode cX7_takesBack 14 = .ok (.iload_n 2, 1) := by decide +kernel
theorem dX7_takesBack_15 : decode cX7_takesBack 15 = .ok (.iadd, 1) := by decide +kernel
theorem dX7_takesBack_16 : decode cX7_takesBack 16 = .ok (.aload_n 0, 1) := by decide +kernel
theorem dX7_takesBack_17 : decode cX7_takesBack 17 = .ok (.getfield 35, 3) := by decide +kernel
theorem dX7_takesBack_20 : decode cX7_takesBack 20 = .ok (.bipush 16, 2) := by decide +kernel
theorem dX7_takesBack_22 : decode cX7_takesBack 22 = .ok (.iload_n 2, 1) := by decide +kernel
theorem dX7_takesBack_23 : decode cX7_takesBack 23 = .ok (.iadd, 1) := by decide +kernel
theorem dX7_takesBack_24 : decode cX7_takesBack 24 = .ok (.iaload, 1) := by decide +kernel
theorem dX7_takesBack_25 : decode cX7_takesBack 25 = .ok (.invokestatic 180, 3) := by decide +kernel
theorem dX7_takesBack_28 : decode cX7_takesBack 28 = .ok (.iastore, 1) := by decide +kernel
theorem dX7_takesBack_29 : decode cX7_takesBack 29 = .ok (.aload_n 0, 1) := by decide +kernel
theorem dX7_takesBack_30 : decode cX7_takesBack 30 = .ok (.getfield 35, 3) := by decide +kernel
theorem dX7_takesBack_33 : decode cX7_takesBack 33 = .ok (.bipush 8, 2) := by decide +kernel
theorem dX7_takesBack_35 : decode cX7_takesBack 35 = .ok (.iload_n 2, 1) := by decide +kernel
theorem dX7_takesBack_36 : decode cX7_takesBack 36 = .ok (.iadd, 1) := by decide +kernel
theorem dX7_takesBack_37 : decode cX7_takesBack 37 = .ok (.aload_n 0, 1) := by decide +kernel
theorem dX7_takesBack_38 : decode cX7_takesBack 38 = .ok (.getfield 35, 3) := by decide +kernel
theorem dX7_takesBack_41 : decode cX7_takesBack 41 = .ok (.bipush 8, 2) := by decide +kernel
theorem dX7_takesBack_43 : decode cX7_takesBack 43 = .ok (.iload_n 2, 1) := by decide +kernel
theorem dX7_takesBack_44 : decode cX7_takesBack 44 = .ok (.iadd, 1) := by decide +kernel
theorem dX7_takesBack_45 : decode cX7_takesBack 45 = .ok (.iaload, 1) := by decide +kernel
theorem dX7_takesBack_46 : decode cX7_takesBack 46 = .ok (.invokestatic 180, 3) := by decide +kernel
theorem dX7_takesBack_49 : decode cX7_takesBack 49 = .ok (.iastore, 1) := by decide +kernel
theorem dX7_takesBack_50 : decode cX7_takesBack 50 = .ok (.aload_n 0, 1) := by decide +kernel
theorem dX7_takesBack_51 : decode cX7_takesBack 51 = .ok (.getfield 35, 3) := by decide +kernel
theorem dX7_takesBack_54 : decode cX7_takesBack 54 = .ok (.bipush 8, 2) := by decide +kernel
theorem dX7_takesBack_56 : decode cX7_takesBack 56 = .ok (.iload_n 1, 1) := by decide +kernel
theorem dX7_takesBack_57 : decode cX7_takesBack 57 = .ok (.iadd, 1) := by decide +kernel
theorem dX7_takesBack_58 : decode cX7_takesBack 58 = .ok (.aload_n 0, 1) := by decide +kernel
theorem dX7_takesBack_59 : decode cX7_takesBack 59 = .ok (.getfield 35, 3) := by decide +kernel
theorem dX7_takesBack_62 : decode cX7_takesBack 62 = .ok (.bipush 8, 2) := by decide +kernel
theorem dX7_takesBack_64 : decode cX7_takesBack 64 = .ok (.iload_n 1, 1) := by decide +kernel
theorem dX7_takesBack_65 : decode cX7_takesBack 65 = .ok (.iadd, 1) := by decide +kernel
theorem dX7_takesBack_66 : decode cX7_takesBack 66 = .ok (.iaload, 1) := by decide +kernel
theorem dX7_takesBack_67 : decode cX7_takesBack 67 = .ok (.iconst 2, 1) := by decide +kernel
theorem dX7_takesBack_68 : decode cX7_takesBack 68 = .ok (.iadd, 1) := by decide +kernel
theorem dX7_takesBack_69 : decode cX7_takesBack 69 = .ok (.invokestatic 177, 3) := by decide +kernel
theorem dX7_takesBack_72 : decode cX7_takesBack 72 = .ok (.iastore, 1) := by decide +kernel
theorem dX7_takesBack_73 : decode cX7_takesBack 73 = .ok (.aload_n 0, 1) := by decide +kernel
theorem dX7_takesBack_74 : decode cX7_takesBack 74 = .ok (.getfield 35, 3) := by decide +kernel
theorem dX7_takesBack_77 : decode cX7_takesBack 77 = .ok (.bipush 16, 2) := by decide +kernel
theorem dX7_takesBack_79 : decode cX7_takesBack 79 = .ok (.iload_n 1, 1) := by decide +kernel
theorem dX7_takesBack_80 : decode cX7_takesBack 80 = .ok (.iadd, 1) := by decide +kernel
theorem dX7_takesBack_81 : decode cX7_takesBack 81 = .ok (.aload_n 0, 1) := by decide +kernel
theorem dX7_takesBack_82 : decode cX7_takesBack 82 = .ok (.getfield 35, 3) := by decide +kernel
theorem dX7_takesBack_85 : decode cX7_takesBack 85 = .ok (.bipush 16, 2) := by decide +kernel
theorem dX7_takesBack_87 : decode cX7_takesBack 87 = .ok (.iload_n 1, 1) := by decide +kernel
theorem dX7_takesBack_88 : decode cX7_takesBack 88 = .ok (.iadd, 1) := by decide +kernel
theorem dX7_takesBack_89 : decode cX7_takesBack 89 = .ok (.iaload, 1) := by decide +kernel
theorem dX7_takesBack_90 : decode cX7_takesBack 90 = .ok (.iconst 1, 1) := by decide +kernel
theorem dX7_takesBack_91 : decode cX7_takesBack 91 = .ok (.iadd, 1) := by decide +kernel
theorem dX7_takesBack_92 : decode cX7_takesBack 92 = .ok (.invokestatic 177, 3) := by decide +kernel
theorem dX7_takesBack_95 : decode cX7_takesBack 95 = .ok (.iastore, 1) := by decide +kernel
theorem dX7_takesBack_96 : decode cX7_takesBack 96 = .ok (.aload_n 0, 1) := by decide +kernel
theorem dX7_takesBack_97 : decode cX7_takesBack 97 = .ok (.getfield 35, 3) := by decide +kernel
theorem dX7_takesBack_100 : decode cX7_takesBack 100 = .ok (.bipush 26, 2) := by decide +kernel
theorem dX7_takesBack_102 : decode cX7_takesBack 102 = .ok (.iconst (-1), 1) := by decide +kernel
theorem dX7_takesBack_103 : decode cX7_takesBack 103 = .ok (.iastore, 1) := by decide +kernel
theorem dX7_takesBack_104 : decode cX7_takesBack 104 = .ok (.return_, 1) := by decide +kernel
theorem dX7_letsBe_0 : decode cX7_letsBe 0 = .ok (.aload_n 0, 1) := by decide +kernel
theorem dX7_letsBe_1 : decode cX7_letsBe 1 = .ok (.getfield 35, 3) := by decide +kernel
theorem dX7_letsBe_4 : decode cX7_letsBe 4 = .ok (.bipush 26, 2) := by decide +kernel
theorem dX7_letsBe_6 : decode cX7_letsBe 6 = .ok (.iaload, 1) := by decide +kernel
theorem dX7_letsBe_7 : decode cX7_letsBe 7 = .ok (.istore_n 1, 1) := by decide +kernel
theorem dX7_letsBe_8 : decode cX7_letsBe 8 = .ok (.aload_n 0, 1) := by decide +kernel
theorem dX7_letsBe_9 : decode cX7_letsBe 9 = .ok (.getfield 35, 3) := by decide +kernel
theorem dX7_letsBe_12 : decode cX7_letsBe 12 = .ok (.bipush 8, 2) := by decide +kernel
theorem dX7_letsBe_14 : decode cX7_letsBe 14 = .ok (.iload_n 1, 1) := by decide +kernel
theorem dX7_letsBe_15 : decode cX7_letsBe 15 = .ok (.iadd, 1) := by decide +kernel
theorem dX7_letsBe_16 : decode cX7_letsBe 16 = .ok (.aload_n 0, 1) := by decide +kernel
theorem dX7_letsBe_17 : decode cX7_letsBe 17 = .ok (.getfield 35, 3) := by decide +kernel
theorem dX7_letsBe_20 : decode cX7_letsBe 20 = .ok (.bipush 8, 2) := by decide +kernel
theorem dX7_letsBe_22 : decode cX7_letsBe 22 = .ok (.iload_n 1, 1) := by decide +kernel
theorem dX7_letsBe_23 : decode cX7_letsBe 23 = .ok (.iadd, 1) := by decide +kernel
theorem dX7_letsBe_24 : decode cX7_letsBe 24 = .ok (.iaload, 1) := by decide +kernel
theorem dX7_letsBe_25 : decode cX7_letsBe 25 = .ok (.iconst 1, 1) := by decide +kernel
theorem dX7_letsBe_26 : decode cX7_letsBe 26 = .ok (.iadd, 1) := by decide +kernel
theorem dX7_letsBe_27 : decode cX7_letsBe 27 = .ok (.invokestatic 177, 3) := by decide +kernel
theorem dX7_letsBe_30 : decode cX7_letsBe 30 = .ok (.iastore, 1) := by decide +kernel
theorem dX7_letsBe_31 : decode cX7_letsBe 31 = .ok (.aload_n 0, 1) := by decide +kernel
theorem dX7_letsBe_32 : decode cX7_letsBe 32 = .ok (.getfield 35, 3) := by decide +kernel
theorem dX7_letsBe_35 : decode cX7_letsBe 35 = .ok (.bipush 26, 2) := by decide +kernel
theorem dX7_letsBe_37 : decode cX7_letsBe 37 = .ok (.iconst (-1), 1) := by decide +kernel
theorem dX7_letsBe_38 : decode cX7_letsBe 38 = .ok (.iastore, 1) := by decide +kernel
theorem dX7_letsBe_39 : decode cX7_letsBe 39 = .ok (.aload_n 0, 1) := by decide +kernel
theorem dX7_letsBe_40 : decode cX7_letsBe 40 = .ok (.getfield 35, 3) := by decide +kernel
theorem dX7_letsBe_43 : decode cX7_letsBe 43 = .ok (.bipush 8, 2) := by decide +kernel
theorem dX7_letsBe_45 : decode cX7_letsBe 45 = .ok (.iload_n 1, 1) := by decide +kernel
theorem dX7_letsBe_46 : decode cX7_letsBe 46 = .ok (.iadd, 1) := by decide +kernel
theorem dX7_letsBe_47 : decode cX7_letsBe 47 = .ok (.iaload, 1) := by decide +kernel
theorem dX7_letsBe_48 : decode cX7_letsBe 48 = .ok (.ireturn, 1) := by decide +kernel
theorem dX7_hear_0 : decode cX7_hear 0 = .ok (.iload_n 1, 1) := by decide +kernel
theorem dX7_hear_1 : decode cX7_hear 1 = .ok (.invokestatic 183, 3) := by decide +kernel
theorem dX7_hear_4 : decode cX7_hear 4 = .ok (.ifCond .ne 6, 3) := by decide +kernel
theorem dX7_hear_7 : decode cX7_hear 7 = .ok (.ldc 62, 2) := by decide +kernel
theorem dX7_hear_9 : decode cX7_hear 9 = .ok (.ireturn, 1) := by decide +kernel
theorem dX7_hear_10 : decode cX7_hear 10 = .ok (.aload_n 0, 1) := by decide +kernel
theorem dX7_hear_11 : decode cX7_hear 11 = .ok (.getfield 120, 3) := by decide +kernel
theorem dX7_hear_14 : decode cX7_hear 14 = .ok (.ifCond .ne 6, 3) := by decide +kernel
theorem dX7_hear_17 : decode cX7_hear 17 = .ok (.ldc 186, 2) := by decide +kernel
theorem dX7_hear_19 : decode cX7_hear 19 = .ok (.ireturn, 1) := by decide +kernel
theorem dX7_hear_20 : decode cX7_hear 20 = .ok (.aload_n 0, 1) := by decide +kernel
theorem dX7_hear_21 : decode cX7_hear 21 = .ok (.getfield 35, 3) := by decide +kernel
theorem dX7_hear_24 : decode cX7_hear 24 = .ok (.bipush 24, 2) := by decide +kernel
theorem dX7_hear_26 : decode cX7_hear 26 = .ok (.iaload, 1) := by decide +kernel
theorem dX7_hear_27 : decode cX7_hear 27 = .ok (.sipush 9000, 3) := by decide +kernel
theorem dX7_hear_30 : decode cX7_hear 30 = .ok (.if_icmp .le 6, 3) := by decide +kernel
theorem dX7_hear_33 : decode cX7_hear 33 = .ok (.ldc 66, 2) := by decide +kernel
theorem dX7_hear_35 : decode cX7_hear 35 = .ok (.ireturn, 1) := by decide +kernel
theorem dX7_hear_36 : decode cX7_hear 36 = .ok (.aload_n 0, 1) := by decide +kernel
theorem dX7_hear_37 : decode cX7_hear 37 = .ok (.invokevirtual 187, 3) := by decide +kernel
theorem dX7_hear_40 : decode cX7_hear 40 = .ok (.aload_n 0, 1) := by decide +kernel
theorem dX7_hear_41 : decode cX7_hear 41 = .ok (.iload_n 1, 1) := by decide +kernel
theorem dX7_hear_42 : decode cX7_hear 42 = .ok (.invokevirtual 190, 3) := by decide +kernel
theorem dX7_hear_45 : decode cX7_hear 45 = .ok (.ireturn, 1) := by decide +kernel
theorem dX7_takeBack_0 : decode cX7_takeBack 0 = .ok (.aload_n 0, 1) := by decide +kernel
theorem dX7_takeBack_1 : decode cX7_takeBack 1 = .ok (.iload_n 1, 1) := by decide +kernel
theorem dX7_takeBack_2 : decode cX7_takeBack 2 = .ok (.invokevirtual 139, 3) := by decide +kernel
theorem dX7_takeBack_5 : decode cX7_takeBack 5 = .ok (.ifCond .ne 6, 3) := by decide +kernel
theorem dX7_takeBack_8 : decode cX7_takeBack 8 = .ok (.ldc 142, 2) := by decide +kernel
theorem dX7_takeBack_10 : decode cX7_takeBack 10 = .ok (.ireturn, 1) := by decide +kernel
theorem dX7_takeBack_11 : decode cX7_takeBack 11 = .ok (.aload_n 0, 1) := by decide +kernel
theorem dX7_takeBack_12 : decode cX7_takeBack 12 = .ok (.getfield 35, 3) := by decide +kernel
theorem dX7_takeBack_15 : decode cX7_takeBack 15 = .ok (.bipush 26, 2) := by decide +kernel
theorem dX7_takeBack_17 : decode cX7_takeBack 17 = .ok (.iaload, 1) := by decide +kernel
theorem dX7_takeBack_18 : decode cX7_takeBack 18 = .ok (.iconst (-1), 1) := by decide +kernel
theorem dX7_takeBack_19 : decode cX7_takeBack 19 = .ok (.if_icmp .eq 14, 3) := by decide +kernel
theorem dX7_takeBack_22 : decode cX7_takeBack 22 = .ok (.aload_n 0, 1) := by decide +kernel
theorem dX7_takeBack_23 : decode cX7_takeBack 23 = .ok (.getfield 35, 3) := by decide +kernel
theorem dX7_takeBack_26 : decode cX7_takeBack 26 = .ok (.bipush 26, 2) := by decide +kernel
theorem dX7_takeBack_28 : decode cX7_takeBack 28 = .ok (.iaload, 1) := by decide +kernel
theorem dX7_takeBack_29 : decode cX7_takeBack 29 = .ok (.iload_n 1, 1) := by decide +kernel
theorem dX7_takeBack_30 : decode cX7_takeBack 30 = .ok (.if_icmp .ne 6, 3) := by decide +kernel
theorem dX7_takeBack_33 : decode cX7_takeBack 33 = .ok (.ldc 186, 2) := by decide +kernel
theorem dX7_takeBack_35 : decode cX7_takeBack 35 = .ok (.ireturn, 1) := by decide +kernel
theorem dX7_takeBack_36 : decode cX7_takeBack 36 = .ok (.aload_n 0, 1) := by decide +kernel
theorem dX7_takeBack_37 : decode cX7_takeBack 37 = .ok (.invokevirtual 187, 3) := by decide +kernel
theorem dX7_takeBack_40 : decode cX7_takeBack 40 = .ok (.aload_n 0, 1) := by decide +kernel
theorem dX7_takeBack_41 : decode cX7_takeBack 41 = .ok (.iload_n 1, 1) := by decide +kernel
theorem dX7_takeBack_42 : decode cX7_takeBack 42 = .ok (.invokevirtual 193, 3) := by decide +kernel
theorem dX7_takeBack_45 : decode cX7_takeBack 45 = .ok (.aload_n 0, 1) := by decide +kernel
theorem dX7_takeBack_46 : decode cX7_takeBack 46 = .ok (.getfield 35, 3) := by decide +kernel
theorem dX7_takeBack_49 : decode cX7_takeBack 49 = .ok (.bipush 8, 2) := by decide +kernel
theorem dX7_takeBack_51 : decode cX7_takeBack 51 = .ok (.iload_n 1, 1) := by decide +kernel
theorem dX7_takeBack_52 : decode cX7_takeBack 52 = .ok (.iadd, 1) := by decide +kernel
theorem dX7_takeBack_53 : decode cX7_takeBack 53 = .ok (.iaload, 1) := by decide +kernel
theorem dX7_takeBack_54 : decode cX7_takeBack 54 = .ok (.ireturn, 1) := by decide +kernel
theorem dX7_letBe_0 : decode cX7_letBe 0 = .ok (.aload_n 0, 1) := by decide +kernel
theorem dX7_letBe_1 : decode cX7_letBe 1 = .ok (.getfield 35, 3) := by decide +kernel
theorem dX7_letBe_4 : decode cX7_letBe 4 = .ok (.bipush 26, 2) := by decide +kernel
theorem dX7_letBe_6 : decode cX7_letBe 6 = .ok (.iaload, 1) := by decide +kernel
theorem dX7_letBe_7 : decode cX7_letBe 7 = .ok (.iconst (-1), 1) := by decide +kernel
theorem dX7_letBe_8 : decode cX7_letBe 8 = .ok (.if_icmp .ne 6, 3) := by decide +kernel
theorem dX7_letBe_11 : decode cX7_letBe 11 = .ok (.ldc 186, 2) := by decide +kernel
theorem dX7_letBe_13 : decode cX7_letBe 13 = .ok (.ireturn, 1) := by decide +kernel
theorem dX7_letBe_14 : decode cX7_letBe 14 = .ok (.aload_n 0, 1) := by decide +kernel
theorem dX7_letBe_15 : decode cX7_letBe 15 = .ok (.invokevirtual 187, 3) := by decide +kernel
theorem dX7_letBe_18 : decode cX7_letBe 18 = .ok (.aload_n 0, 1) := by decide +kernel
theorem dX7_letBe_19 : decode cX7_letBe 19 = .ok (.invokevirtual 197, 3) := by decide +kernel
theorem dX7_letBe_22 : decode cX7_letBe 22 = .ok (.ireturn, 1) := by decide +kernel
theorem dX7_call_0 : decode cX7_call 0 = .ok (.aload_n 0, 1) := by decide +kernel
theorem dX7_call_1 : decode cX7_call 1 = .ok (.iload_n 1, 1) := by decide +kernel
theorem dX7_call_2 : decode cX7_call 2 = .ok (.invokevirtual 139, 3) := by decide +kernel
theorem dX7_call_5 : decode cX7_call 5 = .ok (.ifCond .ne 6, 3) := by decide +kernel
theorem dX7_call_8 : decode cX7_call 8 = .ok (.ldc 142, 2) := by decide +kernel
theorem dX7_call_10 : decode cX7_call 10 = .ok (.ireturn, 1) := by decide +kernel
theorem dX7_call_11 : decode cX7_call 11 = .ok (.iload_n 2, 1) := by decide +kernel
theorem dX7_call_12 : decode cX7_call 12 = .ok (.invokestatic 183, 3) := by decide +kernel
theorem dX7_call_15 : decode cX7_call 15 = .ok (.ifCond .ne 6, 3) := by decide +kernel
theorem dX7_call_18 : decode cX7_call 18 = .ok (.ldc 62, 2) := by decide +kernel
theorem dX7_call_20 : decode cX7_call 20 = .ok (.ireturn, 1) := by decide +kernel
theorem dX7_call_21 : decode cX7_call 21 = .ok (.aload_n 0, 1) := by decide +kernel
theorem dX7_call_22 : decode cX7_call 22 = .ok (.invokevirtual 187, 3) := by decide +kernel
theorem dX7_call_25 : decode cX7_call 25 = .ok (.aload_n 0, 1) := by decide +kernel
theorem dX7_call_26 : decode cX7_call 26 = .ok (.getfield 35, 3) := by decide +kernel
theorem dX7_call_29 : decode cX7_call 29 = .ok (.iload_n 1, 1) := by decide +kernel
theorem dX7_call_30 : decode cX7_call 30 = .ok (.iaload, 1) := by decide +kernel
theorem dX7_call_31 : decode cX7_call 31 = .ok (.iload_n 2, 1) := by decide +kernel
theorem dX7_call_32 : decode cX7_call 32 = .ok (.invokestatic 153, 3) := by decide +kernel
theorem dX7_call_35 : decode cX7_call 35 = .ok (.istore_n 3, 1) := by decide +kernel
theorem dX7_call_36 : decode cX7_call 36 = .ok (.aload_n 0, 1) := by decide +kernel
theorem dX7_call_37 : decode cX7_call 37 = .ok (.getfield 35, 3) := by decide +kernel
theorem dX7_call_40 : decode cX7_call 40 = .ok (.iload_n 1, 1) := by decide +kernel
theorem dX7_call_41 : decode cX7_call 41 = .ok (.iload_n 2, 1) := by decide +kernel
theorem dX7_call_42 : decode cX7_call 42 = .ok (.iastore, 1) := by decide +kernel
theorem dX7_call_43 : decode cX7_call 43 = .ok (.iload_n 3, 1) := by decide +kernel
theorem dX7_call_44 : decode cX7_call 44 = .ok (.ireturn, 1) := by decide +kernel
theorem dX7_draw_0 : decode cX7_draw 0 = .ok (.aload_n 0, 1) := by decide +kernel
theorem dX7_draw_1 : decode cX7_draw 1 = .ok (.aload_n 0, 1) := by decide +kernel
theorem dX7_draw_2 : decode cX7_draw 2 = .ok (.getfield 200, 3) := by decide +kernel
theorem dX7_draw_5 : decode cX7_draw 5 = .ok (.ldc2_w 204, 3) := by decide +kernel
theorem dX7_draw_8 : decode cX7_draw 8 = .ok (.lmul, 1) := by decide +kernel
theorem dX7_draw_9 : decode cX7_draw 9 = .ok (.ldc2_w 206, 3) := by decide +kernel
theorem dX7_draw_12 : decode cX7_draw 12 = .ok (.ladd, 1) := by decide +kernel
theorem dX7_draw_13 : decode cX7_draw 13 = .ok (.ldc2_w 208, 3) := by decide +kernel
theorem dX7_draw_16 : decode cX7_draw 16 = .ok (.lrem, 1) := by decide +kernel
theorem dX7_draw_17 : decode cX7_draw 17 = .ok (.putfield 200, 3) := by decide +kernel
theorem dX7_draw_20 : decode cX7_draw 20 = .ok (.aload_n 0, 1) := by decide +kernel
theorem dX7_draw_21 : decode cX7_draw 21 = .ok (.getfield 200, 3) := by decide +kernel
theorem dX7_draw_24 : decode cX7_draw 24 = .ok (.ldc2_w 210, 3) := by decide +kernel
theorem dX7_draw_27 : decode cX7_draw 27 = .ok (.ldiv, 1) := by decide +kernel
theorem dX7_draw_28 : decode cX7_draw 28 = .ok (.iload_n 1, 1) := by decide +kernel
theorem dX7_draw_29 : decode cX7_draw 29 = .ok (.i2l, 1) := by decide +kernel
theorem dX7_draw_30 : decode cX7_draw 30 = .ok (.lrem, 1) := by decide +kernel
theorem dX7_draw_31 : decode cX7_draw 31 = .ok (.l2i, 1) := by decide +kernel
theorem dX7_draw_32 : decode cX7_draw 32 = .ok (.ireturn, 1) := by decide +kernel
theorem dX7_drift_0 : decode cX7_drift 0 = .ok (.iload_n 1, 1) := by decide +kernel
theorem dX7_drift_1 : decode cX7_drift 1 = .ok (.iconst 1, 1) := by decide +kernel
theorem dX7_drift_2 : decode cX7_drift 2 = .ok (.bipush 60, 2) := by decide +kernel
theorem dX7_drift_4 : decode cX7_drift 4 = .ok (.invokestatic 58, 3) := by decide +kernel
theorem dX7_drift_7 : decode cX7_drift 7 = .ok (.ifCond .ne 6, 3) := by decide +kernel
theorem dX7_drift_10 : decode cX7_drift 10 = .ok (.ldc 62, 2) := by decide +kernel
theorem dX7_drift_12 : decode cX7_drift 12 = .ok (.ireturn, 1) := by decide +kernel
theorem dX7_drift_13 : decode cX7_drift 13 = .ok (.aload_n 0, 1) := by decide +kernel
theorem dX7_drift_14 : decode cX7_drift 14 = .ok (.getfield 117, 3) := by decide +kernel
theorem dX7_drift_17 : decode cX7_drift 17 = .ok (.ifCond .ne 6, 3) := by decide +kernel
theorem dX7_drift_20 : decode cX7_drift 20 = .ok (.ldc 186, 2) := by decide +kernel
theorem dX7_drift_22 : decode cX7_drift 22 = .ok (.ireturn, 1) := by decide +kernel
theorem dX7_drift_23 : decode cX7_drift 23 = .ok (.aload_n 0, 1) := by decide +kernel
theorem dX7_drift_24 : decode cX7_drift 24 = .ok (.getfield 35, 3) := by decide +kernel
theorem dX7_drift_27 : decode cX7_drift 27 = .ok (.bipush 24, 2) := by decide +kernel
theorem dX7_drift_29 : decode cX7_drift 29 = .ok (.iaload, 1) := by decide +kernel
theorem dX7_drift_30 : decode cX7_drift 30 = .ok (.sipush 9000, 3) := by decide +kernel
theorem dX7_drift_33 : decode cX7_drift 33 = .ok (.if_icmp .le 6, 3) := by decide +kernel
theorem dX7_drift_36 : decode cX7_drift 36 = .ok (.ldc 66, 2) := by decide +kernel
theorem dX7_drift_38 : decode cX7_drift 38 = .ok (.ireturn, 1) := by decide +kernel
theorem dX7_drift_39 : decode cX7_drift 39 = .ok (.aload_n 0, 1) := by decide +kernel
theorem dX7_drift_40 : decode cX7_drift 40 = .ok (.invokevirtual 187, 3) := by decide +kernel
theorem dX7_drift_43 : decode cX7_drift 43 = .ok (.iconst 0, 1) := by decide +kernel
theorem dX7_drift_44 : decode cX7_drift 44 = .ok (.istore_n 2, 1) := by decide +kernel
theorem dX7_drift_45 : decode cX7_drift 45 = .ok (.iload_n 2, 1) := by decide +kernel
theorem dX7_drift_46 : decode cX7_drift 46 = .ok (.iload_n 1, 1) := by decide +kernel
theorem dX7_drift_47 : decode cX7_drift 47 = .ok (.if_icmp .ge 88, 3) := by decide +kernel
theorem dX7_drift_50 : decode cX7_drift 50 = .ok (.aload_n 0, 1) := by decide +kernel
theorem dX7_drift_51 : decode cX7_drift 51 = .ok (.getfield 120, 3) := by decide +kernel
theorem dX7_drift_54 : decode cX7_drift 54 = .ok (.ifCond .le 81, 3) := by decide +kernel
theorem dX7_drift_57 : decode cX7_drift 57 = .ok (.aload_n 0, 1) := by decide +kernel
theorem dX7_drift_58 : decode cX7_drift 58 = .ok (.getfield 123, 3) := by decide +kernel
theorem dX7_drift_61 : decode cX7_drift 61 = .ok (.ifCond .le 74, 3) := by decide +kernel
theorem dX7_drift_64 : decode cX7_drift 64 = .ok (.aload_n 0, 1) := by decide +kernel
theorem dX7_drift_65 : decode cX7_drift 65 = .ok (.aload_n 0, 1) := by decide +kernel
theorem dX7_drift_66 : decode cX7_drift 66 = .ok (.getfield 123, 3) := by decide +kernel
theorem dX7_drift_69 : decode cX7_drift 69 = .ok (.invokevirtual 212, 3) := by decide +kernel
theorem dX7_drift_72 : decode cX7_drift 72 = .ok (.istore_n 3, 1) := by decide +kernel
theorem dX7_drift_73 : decode cX7_drift 73 = .ok (.aload_n 0, 1) := by decide +kernel
theorem dX7_drift_74 : decode cX7_drift 74 = .ok (.aload_n 0, 1) := by decide +kernel
theorem dX7_drift_75 : decode cX7_drift 75 = .ok (.getfield 120, 3) := by decide +kernel
theorem dX7_drift_78 : decode cX7_drift 78 = .ok (.invokevirtual 212, 3) := by decide +kernel
theorem dX7_drift_81 : decode cX7_drift 81 = .ok (.istore 4, 2) := by decide +kernel
theorem dX7_drift_83 : decode cX7_drift 83 = .ok (.aload_n 0, 1) := by decide +kernel
theorem dX7_drift_84 : decode cX7_drift 84 = .ok (.aload_n 0, 1) := by decide +kernel
theorem dX7_drift_85 : decode cX7_drift 85 = .ok (.iload 4, 2) := by decide +kernel
theorem dX7_drift_87 : decode cX7_drift 87 = .ok (.iload_n 3, 1) := by decide +kernel
theorem dX7_drift_88 : decode cX7_drift 88 = .ok (.invokevirtual 215, 3) := by decide +kernel
theorem dX7_drift_91 : decode cX7_drift 91 = .ok (.invokevirtual 190, 3) := by decide +kernel
theorem dX7_drift_94 : decode cX7_drift 94 = .ok (.pop, 1) := by decide +kernel
theorem dX7_drift_95 : decode cX7_drift 95 = .ok (.aload_n 0, 1) := by decide +kernel
theorem dX7_drift_96 : decode cX7_drift 96 = .ok (.iconst 3, 1) := by decide +kernel
theorem dX7_drift_97 : decode cX7_drift 97 = .ok (.invokevirtual 212, 3) := by decide +kernel
theorem dX7_drift_100 : decode cX7_drift 100 = .ok (.ifCond .ne 24, 3) := by decide +kernel
theorem dX7_drift_103 : decode cX7_drift 103 = .ok (.aload_n 0, 1) := by decide +kernel
theorem dX7_drift_104 : decode cX7_drift 104 = .ok (.getfield 35, 3) := by decide +kernel
theorem dX7_drift_107 : decode cX7_drift 107 = .ok (.bipush 26, 2) := by decide +kernel
theorem dX7_drift_109 : decode cX7_drift 109 = .ok (.iaload, 1) := by decide +kernel
theorem dX7_drift_110 : decode cX7_drift 110 = .ok (.iload 4, 2) := by decide +kernel
theorem dX7_drift_112 : decode cX7_drift 112 = .ok (.if_icmp .eq 12, 3) := by decide +kernel
theorem dX7_drift_115 : decode cX7_drift 115 = .ok (.aload_n 0, 1) := by decide +kernel
theorem dX7_drift_116 : decode cX7_drift 116 = .ok (.iload 4, 2) := by decide +kernel
theorem dX7_drift_118 : decode cX7_drift 118 = .ok (.invokevirtual 193, 3) := by decide +kernel
theorem dX7_drift_121 : decode cX7_drift 121 = .ok (.goto 8, 3) := by decide +kernel
theorem dX7_drift_124 : decode cX7_drift 124 = .ok (.aload_n 0, 1) := by decide +kernel
theorem dX7_drift_125 : decode cX7_drift 125 = .ok (.invokevirtual 197, 3) := by decide +kernel
theorem dX7_drift_128 : decode cX7_drift 128 = .ok (.pop, 1) := by decide +kernel
theorem dX7_drift_129 : decode cX7_drift 129 = .ok (.iinc 2 1, 3) := by decide +kernel
theorem dX7_drift_132 : decode cX7_drift 132 = .ok (.goto (-87), 3) := by decide +kernel
theorem dX7_drift_135 : decode cX7_drift 135 = .ok (.aload_n 0, 1) := by decide +kernel
theorem dX7_drift_136 : decode cX7_drift 136 = .ok (.getfield 35, 3) := by decide +kernel
theorem dX7_drift_139 : decode cX7_drift 139 = .ok (.bipush 25, 2) := by decide +kernel
theorem dX7_drift_141 : decode cX7_drift 141 = .ok (.iaload, 1) := by decide +kernel
theorem dX7_drift_142 : decode cX7_drift 142 = .ok (.ireturn, 1) := by decide +kernel
theorem dX7_undo_0 : decode cX7_undo 0 = .ok (.aload_n 0, 1) := by decide +kernel
theorem dX7_undo_1 : decode cX7_undo 1 = .ok (.getfield 132, 3) := by decide +kernel
theorem dX7_undo_4 : decode cX7_undo 4 = .ok (.ifCond .ne 6, 3) := by decide +kernel
theorem dX7_undo_7 : decode cX7_undo 7 = .ok (.ldc 186, 2) := by decide +kernel
theorem dX7_undo_9 : decode cX7_undo 9 = .ok (.ireturn, 1) := by decide +kernel
theorem dX7_undo_10 : decode cX7_undo 10 = .ok (.aload_n 0, 1) := by decide +kernel
theorem dX7_undo_11 : decode cX7_undo 11 = .ok (.aload_n 0, 1) := by decide +kernel
theorem dX7_undo_12 : decode cX7_undo 12 = .ok (.getfield 171, 3) := by decide +kernel
theorem dX7_undo_15 : decode cX7_undo 15 = .ok (.bipush 20, 2) := by decide +kernel
theorem dX7_undo_17 : decode cX7_undo 17 = .ok (.iadd, 1) := by decide +kernel
theorem dX7_undo_18 : decode cX7_undo 18 = .ok (.iconst 1, 1) := by decide +kernel
theorem dX7_undo_19 : decode cX7_undo 19 = .ok (.isub, 1) := by decide +kernel
theorem dX7_undo_20 : decode cX7_undo 20 = .ok (.bipush 20, 2) := by decide +kernel
theorem dX7_undo_22 : decode cX7_undo 22 = .ok (.irem, 1) := by decide +kernel
theorem dX7_undo_23 : decode cX7_undo 23 = .ok (.putfield 171, 3) := by decide +kernel
theorem dX7_undo_26 : decode cX7_undo 26 = .ok (.aload_n 0, 1) := by decide +kernel
theorem dX7_undo_27 : decode cX7_undo 27 = .ok (.dup, 1) := by decide +kernel
theorem dX7_undo_28 : decode cX7_undo 28 = .ok (.getfield 132, 3) := by decide +kernel
theorem dX7_undo_31 : decode cX7_undo 31 = .ok (.iconst 1, 1) := by decide +kernel
theorem dX7_undo_32 : decode cX7_undo 32 = .ok (.isub, 1) := by decide +kernel
theorem dX7_undo_33 : decode cX7_undo 33 = .ok (.putfield 132, 3) := by decide +kernel
theorem dX7_undo_36 : decode cX7_undo 36 = .ok (.iconst 0, 1) := by decide +kernel
theorem dX7_undo_37 : decode cX7_undo 37 = .ok (.istore_n 1, 1) := by decide +kernel
theorem dX7_undo_38 : decode cX7_undo 38 = .ok (.iload_n 1, 1) := by decide +kernel
theorem dX7_undo_39 : decode cX7_undo 39 = .ok (.bipush 27, 2) := by decide +kernel
theorem dX7_undo_41 : decode cX7_undo 41 = .ok (.if_icmp .ge 29, 3) := by decide +kernel
theorem dX7_undo_44 : decode cX7_undo 44 = .ok (.aload_n 0, 1) := by decide +kernel
theorem dX7_undo_45 : decode cX7_undo 45 = .ok (.getfield 35, 3) := by decide +kernel
theorem dX7_undo_48 : decode cX7_undo 48 = .ok (.iload_n 1, 1) := by decide +kernel
theorem dX7_undo_49 : decode cX7_undo 49 = .ok (.aload_n 0, 1) := by decide +kernel
theorem dX7_undo_50 : decode cX7_undo 50 = .ok (.getfield 38, 3) := by decide +kernel
theorem dX7_undo_53 : decode cX7_undo 53 = .ok (.bipush 27, 2) := by decide +kernel
theorem dX7_undo_55 : decode cX7_undo 55 = .ok (.aload_n 0, 1) := by decide +kernel
theorem dX7_undo_56 : decode cX7_undo 56 = .ok (.getfield 171, 3) := by decide +kernel
theorem dX7_undo_59 : decode cX7_undo 59 = .ok (.imul, 1) := by decide +kernel
theorem dX7_undo_60 : decode cX7_undo 60 = .ok (.iload_n 1, 1) := by decide +kernel
theorem dX7_undo_61 : decode cX7_undo 61 = .ok (.iadd, 1) := by decide +kernel
theorem dX7_undo_62 : decode cX7_undo 62 = .ok (.iaload, 1) := by decide +kernel
theorem dX7_undo_63 : decode cX7_undo 63 = .ok (.iastore, 1) := by decide +kernel
theorem dX7_undo_64 : decode cX7_undo 64 = .ok (.iinc 1 1, 3) := by decide +kernel
theorem dX7_undo_67 : decode cX7_undo 67 = .ok (.goto (-29), 3) := by decide +kernel
theorem dX7_undo_70 : decode cX7_undo 70 = .ok (.aload_n 0, 1) := by decide +kernel
theorem dX7_undo_71 : decode cX7_undo 71 = .ok (.getfield 132, 3) := by decide +kernel
theorem dX7_undo_74 : decode cX7_undo 74 = .ok (.ireturn, 1) := by decide +kernel
theorem dX7_guess_0 : decode cX7_guess 0 = .ok (.iload_n 1, 1) := by decide +kernel
theorem dX7_guess_1 : decode cX7_guess 1 = .ok (.invokestatic 183, 3) := by decide +kernel
theorem dX7_guess_4 : decode cX7_guess 4 = .ok (.ifCond .eq 11, 3) := by decide +kernel
theorem dX7_guess_7 : decode cX7_guess 7 = .ok (.aload_n 0, 1) := by decide +kernel
theorem dX7_guess_8 : decode cX7_guess 8 = .ok (.iload_n 1, 1) := by decide +kernel
theorem dX7_guess_9 : decode cX7_guess 9 = .ok (.invokevirtual 161, 3) := by decide +kernel
theorem dX7_guess_12 : decode cX7_guess 12 = .ok (.goto 5, 3) := by decide +kernel
theorem dX7_guess_15 : decode cX7_guess 15 = .ok (.ldc 62, 2) := by decide +kernel
theorem dX7_guess_17 : decode cX7_guess 17 = .ok (.ireturn, 1) := by decide +kernel
theorem dX7_sure_0 : decode cX7_sure 0 = .ok (.aload_n 0, 1) := by decide +kernel
theorem dX7_sure_1 : decode cX7_sure 1 = .ok (.iload_n 1, 1) := by decide +kernel
theorem dX7_sure_2 : decode cX7_sure 2 = .ok (.invokevirtual 139, 3) := by decide +kernel
theorem dX7_sure_5 : decode cX7_sure 5 = .ok (.ifCond .ne 8, 3) := by decide +kernel
theorem dX7_sure_8 : decode cX7_sure 8 = .ok (.ldc 142, 2) := by decide +kernel
theorem dX7_sure_10 : decode cX7_sure 10 = .ok (.goto 21, 3) := by decide +kernel
theorem dX7_sure_13 : decode cX7_sure 13 = .ok (.iload_n 2, 1) := by decide +kernel
theorem dX7_sure_14 : decode cX7_sure 14 = .ok (.invokestatic 183, 3) := by decide +kernel
theorem dX7_sure_17 : decode cX7_sure 17 = .ok (.ifCond .eq 12, 3) := by decide +kernel
theorem dX7_sure_20 : decode cX7_sure 20 = .ok (.aload_n 0, 1) := by decide +kernel
theorem dX7_sure_21 : decode cX7_sure 21 = .ok (.iload_n 1, 1) := by decide +kernel
theorem dX7_sure_22 : decode cX7_sure 22 = .ok (.iload_n 2, 1) := by decide +kernel
theorem dX7_sure_23 : decode cX7_sure 23 = .ok (.invokevirtual 165, 3) := by decide +kernel
theorem dX7_sure_26 : decode cX7_sure 26 = .ok (.goto 5, 3) := by decide +kernel
theorem dX7_sure_29 : decode cX7_sure 29 = .ok (.ldc 62, 2) := by decide +kernel
theorem dX7_sure_31 : decode cX7_sure 31 = .ok (.ireturn, 1) := by decide +kernel
theorem dX7_rule_0 : decode cX7_rule 0 = .ok (.iload_n 1, 1) := by decide +kernel
theorem dX7_rule_1 : decode cX7_rule 1 = .ok (.invokestatic 183, 3) := by decide +kernel
theorem dX7_rule_4 : decode cX7_rule 4 = .ok (.ifCond .ne 8, 3) := by decide +kernel
theorem dX7_rule_7 : decode cX7_rule 7 = .ok (.ldc 62, 2) := by decide +kernel
theorem dX7_rule_9 : decode cX7_rule 9 = .ok (.goto 20, 3) := by decide +kernel
theorem dX7_rule_12 : decode cX7_rule 12 = .ok (.aload_n 0, 1) := by decide +kernel
theorem dX7_rule_13 : decode cX7_rule 13 = .ok (.getfield 120, 3) := by decide +kernel
theorem dX7_rule_16 : decode cX7_rule 16 = .ok (.ifCond .ne 8, 3) := by decide +kernel
theorem dX7_rule_19 : decode cX7_rule 19 = .ok (.ldc 186, 2) := by decide +kernel
theorem dX7_rule_21 : decode cX7_rule 21 = .ok (.goto 8, 3) := by decide +kernel
theorem dX7_rule_24 : decode cX7_rule 24 = .ok (.aload_n 0, 1) := by decide +kernel
theorem dX7_rule_25 : decode cX7_rule 25 = .ok (.iload_n 1, 1) := by decide +kernel
theorem dX7_rule_26 : decode cX7_rule 26 = .ok (.invokevirtual 174, 3) := by decide +kernel
theorem dX7_rule_29 : decode cX7_rule 29 = .ok (.ireturn, 1) := by decide +kernel
theorem dX7_worth_0 : decode cX7_worth 0 = .ok (.iload_n 1, 1) := by decide +kernel
theorem dX7_worth_1 : decode cX7_worth 1 = .ok (.invokestatic 183, 3) := by decide +kernel
theorem dX7_worth_4 : decode cX7_worth 4 = .ok (.ifCond .eq 12, 3) := by decide +kernel
theorem dX7_worth_7 : decode cX7_worth 7 = .ok (.iload_n 2, 1) := by decide +kernel
theorem dX7_worth_8 : decode cX7_worth 8 = .ok (.iconst 0, 1) := by decide +kernel
theorem dX7_worth_9 : decode cX7_worth 9 = .ok (.iconst 2, 1) := by decide +kernel
theorem dX7_worth_10 : decode cX7_worth 10 = .ok (.invokestatic 58, 3) := by decide +kernel
theorem dX7_worth_13 : decode cX7_worth 13 = .ok (.ifCond .ne 8, 3) := by decide +kernel
theorem dX7_worth_16 : decode cX7_worth 16 = .ok (.ldc 62, 2) := by decide +kernel
theorem dX7_worth_18 : decode cX7_worth 18 = .ok (.goto 21, 3) := by decide +kernel
theorem dX7_worth_21 : decode cX7_worth 21 = .ok (.aload_n 0, 1) := by decide +kernel
theorem dX7_worth_22 : decode cX7_worth 22 = .ok (.getfield 120, 3) := by decide +kernel
theorem dX7_worth_25 : decode cX7_worth 25 = .ok (.ifCond .ne 8, 3) := by decide +kernel
theorem dX7_worth_28 : decode cX7_worth 28 = .ok (.ldc 186, 2) := by decide +kernel
theorem dX7_worth_30 : decode cX7_worth 30 = .ok (.goto 9, 3) := by decide +kernel
theorem dX7_worth_33 : decode cX7_worth 33 = .ok (.aload_n 0, 1) := by decide +kernel
theorem dX7_worth_34 : decode cX7_worth 34 = .ok (.iload_n 1, 1) := by decide +kernel
theorem dX7_worth_35 : decode cX7_worth 35 = .ok (.iload_n 2, 1) := by decide +kernel
theorem dX7_worth_36 : decode cX7_worth 36 = .ok (.invokevirtual 168, 3) := by decide +kernel
theorem dX7_worth_39 : decode cX7_worth 39 = .ok (.ireturn, 1) := by decide +kernel
theorem dX7_said_0 : decode cX7_said 0 = .ok (.aload_n 0, 1) := by decide +kernel
theorem dX7_said_1 : decode cX7_said 1 = .ok (.iload_n 1, 1) := by decide +kernel
theorem dX7_said_2 : decode cX7_said 2 = .ok (.invokevirtual 139, 3) := by decide +kernel
theorem dX7_said_5 : decode cX7_said 5 = .ok (.ifCond .eq 20, 3) := by decide +kernel
theorem dX7_said_8 : decode cX7_said 8 = .ok (.aload_n 0, 1) := by decide +kernel
theorem dX7_said_9 : decode cX7_said 9 = .ok (.iload_n 2, 1) := by decide +kernel
theorem dX7_said_10 : decode cX7_said 10 = .ok (.invokevirtual 143, 3) := by decide +kernel
theorem dX7_said_13 : decode cX7_said 13 = .ok (.ifCond .eq 12, 3) := by decide +kernel
theorem dX7_said_16 : decode cX7_said 16 = .ok (.aload_n 0, 1) := by decide +kernel
theorem dX7_said_17 : decode cX7_said 17 = .ok (.iload_n 1, 1) := by decide +kernel
theorem dX7_said_18 : decode cX7_said 18 = .ok (.iload_n 2, 1) := by decide +kernel
theorem dX7_said_19 : decode cX7_said 19 = .ok (.invokevirtual 215, 3) := by decide +kernel
theorem dX7_said_22 : decode cX7_said 22 = .ok (.goto 5, 3) := by decide +kernel
theorem dX7_said_25 : decode cX7_said 25 = .ok (.ldc 142, 2) := by decide +kernel
theorem dX7_said_27 : decode cX7_said 27 = .ok (.ireturn, 1) := by decide +kernel
theorem dX7_misheard_0 : decode cX7_misheard 0 = .ok (.iconst 0, 1) := by decide +kernel
theorem dX7_misheard_1 : decode cX7_misheard 1 = .ok (.istore_n 2, 1) := by decide +kernel
theorem dX7_misheard_2 : decode cX7_misheard 2 = .ok (.iconst (-1), 1) := by decide +kernel
theorem dX7_misheard_3 : decode cX7_misheard 3 = .ok (.istore_n 3, 1) := by decide +kernel
theorem dX7_misheard_4 : decode cX7_misheard 4 = .ok (.iconst 0, 1) := by decide +kernel
theorem dX7_misheard_5 : decode cX7_misheard 5 = .ok (.istore 4, 2) := by decide +kernel
theorem dX7_misheard_7 : decode cX7_misheard 7 = .ok (.iload 4, 2) := by decide +kernel
theorem dX7_misheard_9 : decode cX7_misheard 9 = .ok (.aload_n 0, 1) := by decide +kernel
theorem dX7_misheard_10 : decode cX7_misheard 10 = .ok (.getfield 123, 3) := by decide +kernel
theorem dX7_misheard_13 : decode cX7_misheard 13 = .ok (.if_icmp .ge 65, 3) := by decide +kernel
theorem dX7_misheard_16 : decode cX7_misheard 16 = .ok (.iconst 0, 1) := by decide +kernel
theorem dX7_misheard_17 : decode cX7_misheard 17 = .ok (.istore 5, 2) := by decide +kernel
theorem dX7_misheard_19 : decode cX7_misheard 19 = .ok (.iload 5, 2) := by decide +kernel
theorem dX7_misheard_21 : decode cX7_misheard 21 = .ok (.aload_n 0, 1) := by decide +kernel
theorem dX7_misheard_22 : decode cX7_misheard 22 = .ok (.getfield 120, 3) := by decide +kernel
theorem dX7_misheard_25 : decode cX7_misheard 25 = .ok (.if_icmp .ge 47, 3) := by decide +kernel
theorem dX7_misheard_28 : decode cX7_misheard 28 = .ok (.aload_n 0, 1) := by decide +kernel
theorem dX7_misheard_29 : decode cX7_misheard 29 = .ok (.aload_n 0, 1) := by decide +kernel
theorem dX7_misheard_30 : decode cX7_misheard 30 = .ok (.iload 5, 2) := by decide +kernel
theorem dX7_misheard_32 : decode cX7_misheard 32 = .ok (.iload 4, 2) := by decide +kernel
theorem dX7_misheard_34 : decode cX7_misheard 34 = .ok (.invokevirtual 215, 3) := by decide +kernel
theorem dX7_misheard_37 : decode cX7_misheard 37 = .ok (.invokevirtual 161, 3) := by decide +kernel
theorem dX7_misheard_40 : decode cX7_misheard 40 = .ok (.iload 5, 2) := by decide +kernel
theorem dX7_misheard_42 : decode cX7_misheard 42 = .ok (.if_icmp .eq 24, 3) := by decide +kernel
theorem dX7_misheard_45 : decode cX7_misheard 45 = .ok (.iload_n 2, 1) := by decide +kernel
theorem dX7_misheard_46 : decode cX7_misheard 46 = .ok (.iload_n 1, 1) := by decide +kernel
theorem dX7_misheard_47 : decode cX7_misheard 47 = .ok (.if_icmp .ne 14, 3) := by decide +kernel
theorem dX7_misheard_50 : decode cX7_misheard 50 = .ok (.bipush 10, 2) := by decide +kernel
theorem dX7_misheard_52 : decode cX7_misheard 52 = .ok (.iload 4, 2) := by decide +kernel
theorem dX7_misheard_54 : decode cX7_misheard 54 = .ok (.imul, 1) := by decide +kernel
theorem dX7_misheard_55 : decode cX7_misheard 55 = .ok (.iload 5, 2) := by decide +kernel
theorem dX7_misheard_57 : decode cX7_misheard 57 = .ok (.iadd, 1) := by decide +kernel
theorem dX7_misheard_58 : decode cX7_misheard 58 = .ok (.goto 4, 3) := by decide +kernel
theorem dX7_misheard_61 : decode cX7_misheard 61 = .ok (.iload_n 3, 1) := by decide +kernel
theorem dX7_misheard_62 : decode cX7_misheard 62 = .ok (.istore_n 3, 1) := by decide +kernel
theorem dX7_misheard_63 : decode cX7_misheard 63 = .ok (.iinc 2 1, 3) := by decide +kernel
theorem dX7_misheard_66 : decode cX7_misheard 66 = .ok (.iinc 5 1, 3) := by decide +kernel
theorem dX7_misheard_69 : decode cX7_misheard 69 = .ok (.goto (-50), 3) := by decide +kernel
theorem dX7_misheard_72 : decode cX7_misheard 72 = .ok (.iinc 4 1, 3) := by decide +kernel
theorem dX7_misheard_75 : decode cX7_misheard 75 = .ok (.goto (-68), 3) := by decide +kernel
theorem dX7_misheard_78 : decode cX7_misheard 78 = .ok (.iload_n 1, 1) := by decide +kernel
theorem dX7_misheard_79 : decode cX7_misheard 79 = .ok (.iconst (-1), 1) := by decide +kernel
theorem dX7_misheard_80 : decode cX7_misheard 80 = .ok (.if_icmp .ne 7, 3) := by decide +kernel
theorem dX7_misheard_83 : decode cX7_misheard 83 = .ok (.iload_n 2, 1) := by decide +kernel
theorem dX7_misheard_84 : decode cX7_misheard 84 = .ok (.goto 4, 3) := by decide +kernel
theorem dX7_misheard_87 : decode cX7_misheard 87 = .ok (.iload_n 3, 1) := by decide +kernel
theorem dX7_misheard_88 : decode cX7_misheard 88 = .ok (.ireturn, 1) := by decide +kernel
theorem dX7_meantBy_0 : decode cX7_meantBy 0 = .ok (.iconst 0, 1) := by decide +kernel
theorem dX7_meantBy_1 : decode cX7_meantBy 1 = .ok (.istore_n 3, 1) := by decide +kernel
theorem dX7_meantBy_2 : decode cX7_meantBy 2 = .ok (.iconst 0, 1) := by decide +kernel
theorem dX7_meantBy_3 : decode cX7_meantBy 3 = .ok (.istore 4, 2) := by decide +kernel
theorem dX7_meantBy_5 : decode cX7_meantBy 5 = .ok (.iload 4, 2) := by decide +kernel
theorem dX7_meantBy_7 : decode cX7_meantBy 7 = .ok (.aload_n 0, 1) := by decide +kernel
theorem dX7_meantBy_8 : decode cX7_meantBy 8 = .ok (.getfield 120, 3) := by decide +kernel
theorem dX7_meantBy_11 : decode cX7_meantBy 11 = .ok (.if_icmp .ge 31, 3) := by decide +kernel
theorem dX7_meantBy_14 : decode cX7_meantBy 14 = .ok (.iload_n 3, 1) := by decide +kernel
theorem dX7_meantBy_15 : decode cX7_meantBy 15 = .ok (.aload_n 0, 1) := by decide +kernel
theorem dX7_meantBy_16 : decode cX7_meantBy 16 = .ok (.iload 4, 2) := by decide +kernel
theorem dX7_meantBy_18 : decode cX7_meantBy 18 = .ok (.iload_n 1, 1) := by decide +kernel
theorem dX7_meantBy_19 : decode cX7_meantBy 19 = .ok (.invokevirtual 215, 3) := by decide +kernel
theorem dX7_meantBy_22 : decode cX7_meantBy 22 = .ok (.iload_n 2, 1) := by decide +kernel
theorem dX7_meantBy_23 : decode cX7_meantBy 23 = .ok (.if_icmp .ne 10, 3) := by decide +kernel
theorem dX7_meantBy_26 : decode cX7_meantBy 26 = .ok (.iconst 1, 1) := by decide +kernel
theorem dX7_meantBy_27 : decode cX7_meantBy 27 = .ok (.iload 4, 2) := by decide +kernel
theorem dX7_meantBy_29 : decode cX7_meantBy 29 = .ok (.ishl, 1) := by decide +kernel
theorem dX7_meantBy_30 : decode cX7_meantBy 30 = .ok (.goto 4, 3) := by decide +kernel
theorem dX7_meantBy_33 : decode cX7_meantBy 33 = .ok (.iconst 0, 1) := by decide +kernel
theorem dX7_meantBy_34 : decode cX7_meantBy 34 = .ok (.ior, 1) := by decide +kernel
theorem dX7_meantBy_35 : decode cX7_meantBy 35 = .ok (.istore_n 3, 1) := by decide +kernel
theorem dX7_meantBy_36 : decode cX7_meantBy 36 = .ok (.iinc 4 1, 3) := by decide +kernel
theorem dX7_meantBy_39 : decode cX7_meantBy 39 = .ok (.goto (-34), 3) := by decide +kernel
theorem dX7_meantBy_42 : decode cX7_meantBy 42 = .ok (.iload_n 3, 1) := by decide +kernel
theorem dX7_meantBy_43 : decode cX7_meantBy 43 = .ok (.ireturn, 1) := by decide +kernel
theorem dX7_who_0 : decode cX7_who 0 = .ok (.iload_n 1, 1) := by decide +kernel
theorem dX7_who_1 : decode cX7_who 1 = .ok (.invokestatic 183, 3) := by decide +kernel
theorem dX7_who_4 : decode cX7_who 4 = .ok (.ifCond .ne 6, 3) := by decide +kernel
theorem dX7_who_7 : decode cX7_who 7 = .ok (.ldc 62, 2) := by decide +kernel
theorem dX7_who_9 : decode cX7_who 9 = .ok (.ireturn, 1) := by decide +kernel
theorem dX7_who_10 : decode cX7_who 10 = .ok (.iconst 0, 1) := by decide +kernel
theorem dX7_who_11 : decode cX7_who 11 = .ok (.istore_n 2, 1) := by decide +kernel
theorem dX7_who_12 : decode cX7_who 12 = .ok (.iconst 0, 1) := by decide +kernel
theorem dX7_who_13 : decode cX7_who 13 = .ok (.istore_n 3, 1) := by decide +kernel
theorem dX7_who_14 : decode cX7_who 14 = .ok (.iload_n 3, 1) := by decide +kernel
theorem dX7_who_15 : decode cX7_who 15 = .ok (.aload_n 0, 1) := by decide +kernel
theorem dX7_who_16 : decode cX7_who 16 = .ok (.getfield 123, 3) := by decide +kernel
theorem dX7_who_19 : decode cX7_who 19 = .ok (.if_icmp .ge 28, 3) := by decide +kernel
theorem dX7_who_22 : decode cX7_who 22 = .ok (.iload_n 2, 1) := by decide +kernel
theorem dX7_who_23 : decode cX7_who 23 = .ok (.aload_n 0, 1) := by decide +kernel
theorem dX7_who_24 : decode cX7_who 24 = .ok (.iload_n 3, 1) := by decide +kernel
theorem dX7_who_25 : decode cX7_who 25 = .ok (.iload_n 1, 1) := by decide +kernel
theorem dX7_who_26 : decode cX7_who 26 = .ok (.invokevirtual 218, 3) := by decide +kernel
theorem dX7_who_29 : decode cX7_who 29 = .ok (.ifCond .eq 9, 3) := by decide +kernel
theorem dX7_who_32 : decode cX7_who 32 = .ok (.iconst 1, 1) := by decide +kernel
theorem dX7_who_33 : decode cX7_who 33 = .ok (.iload_n 3, 1) := by decide +kernel
theorem dX7_who_34 : decode cX7_who 34 = .ok (.ishl, 1) := by decide +kernel
theorem dX7_who_35 : decode cX7_who 35 = .ok (.goto 4, 3) := by decide +kernel
theorem dX7_who_38 : decode cX7_who 38 = .ok (.iconst 0, 1) := by decide +kernel
theorem dX7_who_39 : decode cX7_who 39 = .ok (.ior, 1) := by decide +kernel
theorem dX7_who_40 : decode cX7_who 40 = .ok (.istore_n 2, 1) := by decide +kernel
theorem dX7_who_41 : decode cX7_who 41 = .ok (.iinc 3 1, 3) := by decide +kernel
theorem dX7_who_44 : decode cX7_who 44 = .ok (.goto (-30), 3) := by decide +kernel
theorem dX7_who_47 : decode cX7_who 47 = .ok (.iload_n 2, 1) := by decide +kernel
theorem dX7_who_48 : decode cX7_who 48 = .ok (.ireturn, 1) := by decide +kernel
theorem dX7_meant_0 : decode cX7_meant 0 = .ok (.aload_n 0, 1) := by decide +kernel
theorem dX7_meant_1 : decode cX7_meant 1 = .ok (.iload_n 1, 1) := by decide +kernel
theorem dX7_meant_2 : decode cX7_meant 2 = .ok (.invokevirtual 143, 3) := by decide +kernel
theorem dX7_meant_5 : decode cX7_meant 5 = .ok (.ifCond .ne 8, 3) := by decide +kernel
theorem dX7_meant_8 : decode cX7_meant 8 = .ok (.ldc 142, 2) := by decide +kernel
theorem dX7_meant_10 : decode cX7_meant 10 = .ok (.goto 21, 3) := by decide +kernel
theorem dX7_meant_13 : decode cX7_meant 13 = .ok (.iload_n 2, 1) := by decide +kernel
theorem dX7_meant_14 : decode cX7_meant 14 = .ok (.invokestatic 183, 3) := by decide +kernel
theorem dX7_meant_17 : decode cX7_meant 17 = .ok (.ifCond .eq 12, 3) := by decide +kernel
theorem dX7_meant_20 : decode cX7_meant 20 = .ok (.aload_n 0, 1) := by decide +kernel
theorem dX7_meant_21 : decode cX7_meant 21 = .ok (.iload_n 1, 1) := by decide +kernel
theorem dX7_meant_22 : decode cX7_meant 22 = .ok (.iload_n 2, 1) := by decide +kernel
theorem dX7_meant_23 : decode cX7_meant 23 = .ok (.invokevirtual 218, 3) := by decide +kernel
theorem dX7_meant_26 : decode cX7_meant 26 = .ok (.goto 5, 3) := by decide +kernel
theorem dX7_meant_29 : decode cX7_meant 29 = .ok (.ldc 62, 2) := by decide +kernel
theorem dX7_meant_31 : decode cX7_meant 31 = .ok (.ireturn, 1) := by decide +kernel
theorem dX7_alike_0 : decode cX7_alike 0 = .ok (.iload_n 1, 1) := by decide +kernel
theorem dX7_alike_1 : decode cX7_alike 1 = .ok (.iconst 0, 1) := by decide +kernel
theorem dX7_alike_2 : decode cX7_alike 2 = .ok (.bipush 27, 2) := by decide +kernel
theorem dX7_alike_4 : decode cX7_alike 4 = .ok (.invokestatic 58, 3) := by decide +kernel
theorem dX7_alike_7 : decode cX7_alike 7 = .ok (.ifCond .ne 6, 3) := by decide +kernel
theorem dX7_alike_10 : decode cX7_alike 10 = .ok (.ldc 62, 2) := by decide +kernel
theorem dX7_alike_12 : decode cX7_alike 12 = .ok (.ireturn, 1) := by decide +kernel
theorem dX7_alike_13 : decode cX7_alike 13 = .ok (.iconst 0, 1) := by decide +kernel
theorem dX7_alike_14 : decode cX7_alike 14 = .ok (.istore_n 3, 1) := by decide +kernel
theorem dX7_alike_15 : decode cX7_alike 15 = .ok (.iconst (-1), 1) := by decide +kernel
theorem dX7_alike_16 : decode cX7_alike 16 = .ok (.istore 4, 2) := by decide +kernel
theorem dX7_alike_18 : decode cX7_alike 18 = .ok (.iconst 0, 1) := by decide +kernel
theorem dX7_alike_19 : decode cX7_alike 19 = .ok (.istore 5, 2) := by decide +kernel
theorem dX7_alike_21 : decode cX7_alike 21 = .ok (.iload 5, 2) := by decide +kernel
theorem dX7_alike_23 : decode cX7_alike 23 = .ok (.aload_n 0, 1) := by decide +kernel
theorem dX7_alike_24 : decode cX7_alike 24 = .ok (.getfield 120, 3) := by decide +kernel
theorem dX7_alike_27 : decode cX7_alike 27 = .ok (.if_icmp .ge 74, 3) := by decide +kernel
theorem dX7_alike_30 : decode cX7_alike 30 = .ok (.iload 5, 2) := by decide +kernel
theorem dX7_alike_32 : decode cX7_alike 32 = .ok (.iconst 1, 1) := by decide +kernel
theorem dX7_alike_33 : decode cX7_alike 33 = .ok (.iadd, 1) := by decide +kernel
theorem dX7_alike_34 : decode cX7_alike 34 = .ok (.istore 6, 2) := by decide +kernel
theorem dX7_alike_36 : decode cX7_alike 36 = .ok (.iload 6, 2) := by decide +kernel
theorem dX7_alike_38 : decode cX7_alike 38 = .ok (.aload_n 0, 1) := by decide +kernel
theorem dX7_alike_39 : decode cX7_alike 39 = .ok (.getfield 120, 3) := by decide +kernel
theorem dX7_alike_42 : decode cX7_alike 42 = .ok (.if_icmp .ge 53, 3) := by decide +kernel
theorem dX7_alike_45 : decode cX7_alike 45 = .ok (.aload_n 0, 1) := by decide +kernel
theorem dX7_alike_46 : decode cX7_alike 46 = .ok (.getfield 35, 3) := by decide +kernel
theorem dX7_alike_49 : decode cX7_alike 49 = .ok (.iload 5, 2) := by decide +kernel
theorem dX7_alike_51 : decode cX7_alike 51 = .ok (.iaload, 1) := by decide +kernel
theorem dX7_alike_52 : decode cX7_alike 52 = .ok (.aload_n 0, 1) := by decide +kernel
theorem dX7_alike_53 : decode cX7_alike 53 = .ok (.getfield 35, 3) := by decide +kernel
theorem dX7_alike_56 : decode cX7_alike 56 = .ok (.iload 6, 2) := by decide +kernel
theorem dX7_alike_58 : decode cX7_alike 58 = .ok (.iaload, 1) := by decide +kernel
theorem dX7_alike_59 : decode cX7_alike 59 = .ok (.invokestatic 153, 3) := by decide +kernel
theorem dX7_alike_62 : decode cX7_alike 62 = .ok (.iload_n 1, 1) := by decide +kernel
theorem dX7_alike_63 : decode cX7_alike 63 = .ok (.if_icmp .gt 26, 3) := by decide +kernel
theorem dX7_alike_66 : decode cX7_alike 66 = .ok (.iload_n 3, 1) := by decide +kernel
theorem dX7_alike_67 : decode cX7_alike 67 = .ok (.iload_n 2, 1) := by decide +kernel
theorem dX7_alike_68 : decode cX7_alike 68 = .ok (.if_icmp .ne 14, 3) := by decide +kernel
theorem dX7_alike_71 : decode cX7_alike 71 = .ok (.bipush 10, 2) := by decide +kernel
theorem dX7_alike_73 : decode cX7_alike 73 = .ok (.iload 5, 2) := by decide +kernel
theorem dX7_alike_75 : decode cX7_alike 75 = .ok (.imul, 1) := by decide +kernel
theorem dX7_alike_76 : decode cX7_alike 76 = .ok (.iload 6, 2) := by decide +kernel
theorem dX7_alike_78 : decode cX7_alike 78 = .ok (.iadd, 1) := by decide +kernel
theorem dX7_alike_79 : decode cX7_alike 79 = .ok (.goto 5, 3) := by decide +kernel
theorem dX7_alike_82 : decode cX7_alike 82 = .ok (.iload 4, 2) := by decide +kernel
theorem dX7_alike_84 : decode cX7_alike 84 = .ok (.istore 4, 2) := by decide +kernel
theorem dX7_alike_86 : decode cX7_alike 86 = .ok (.iinc 3 1, 3) := by decide +kernel
theorem dX7_alike_89 : decode cX7_alike 89 = .ok (.iinc 6 1, 3) := by decide +kernel
theorem dX7_alike_92 : decode cX7_alike 92 = .ok (.goto (-56), 3) := by decide +kernel
theorem dX7_alike_95 : decode cX7_alike 95 = .ok (.iinc 5 1, 3) := by decide +kernel
theorem dX7_alike_98 : decode cX7_alike 98 = .ok (.goto (-77), 3) := by decide +kernel
theorem dX7_alike_101 : decode cX7_alike 101 = .ok (.iload_n 2, 1) := by decide +kernel
theorem dX7_alike_102 : decode cX7_alike 102 = .ok (.iconst (-1), 1) := by decide +kernel
theorem dX7_alike_103 : decode cX7_alike 103 = .ok (.if_icmp .ne 7, 3) := by decide +kernel
theorem dX7_alike_106 : decode cX7_alike 106 = .ok (.iload_n 3, 1) := by decide +kernel
theorem dX7_alike_107 : decode cX7_alike 107 = .ok (.goto 5, 3) := by decide +kernel
theorem dX7_alike_110 : decode cX7_alike 110 = .ok (.iload 4, 2) := by decide +kernel
theorem dX7_alike_112 : decode cX7_alike 112 = .ok (.ireturn, 1) := by decide +kernel
theorem dX7_wake_0 : decode cX7_wake 0 = .ok (.iload_n 1, 1) := by decide +kernel
theorem dX7_wake_1 : decode cX7_wake 1 = .ok (.iconst 0, 1) := by decide +kernel
theorem dX7_wake_2 : decode cX7_wake 2 = .ok (.iconst 1, 1) := by decide +kernel
theorem dX7_wake_3 : decode cX7_wake 3 = .ok (.invokestatic 58, 3) := by decide +kernel
theorem dX7_wake_6 : decode cX7_wake 6 = .ok (.ifCond .ne 6, 3) := by decide +kernel
theorem dX7_wake_9 : decode cX7_wake 9 = .ok (.ldc 62, 2) := by decide +kernel
theorem dX7_wake_11 : decode cX7_wake 11 = .ok (.ireturn, 1) := by decide +kernel
theorem dX7_wake_12 : decode cX7_wake 12 = .ok (.iconst 0, 1) := by decide +kernel
theorem dX7_wake_13 : decode cX7_wake 13 = .ok (.istore_n 2, 1) := by decide +kernel
theorem dX7_wake_14 : decode cX7_wake 14 = .ok (.iconst (-1), 1) := by decide +kernel
theorem dX7_wake_15 : decode cX7_wake 15 = .ok (.istore_n 3, 1) := by decide +kernel
theorem dX7_wake_16 : decode cX7_wake 16 = .ok (.iconst 0, 1) := by decide +kernel
theorem dX7_wake_17 : decode cX7_wake 17 = .ok (.istore 4, 2) := by decide +kernel
theorem dX7_wake_19 : decode cX7_wake 19 = .ok (.iload 4, 2) := by decide +kernel
theorem dX7_wake_21 : decode cX7_wake 21 = .ok (.sipush 1000, 3) := by decide +kernel
theorem dX7_wake_24 : decode cX7_wake 24 = .ok (.if_icmp .ge 87, 3) := by decide +kernel
theorem dX7_wake_27 : decode cX7_wake 27 = .ok (.bipush 27, 2) := by decide +kernel
theorem dX7_wake_29 : decode cX7_wake 29 = .ok (.istore 5, 2) := by decide +kernel
theorem dX7_wake_31 : decode cX7_wake 31 = .ok (.iconst 0, 1) := by decide +kernel
theorem dX7_wake_32 : decode cX7_wake 32 = .ok (.istore 6, 2) := by decide +kernel
theorem dX7_wake_34 : decode cX7_wake 34 = .ok (.iload 6, 2) := by decide +kernel
theorem dX7_wake_36 : decode cX7_wake 36 = .ok (.aload_n 0, 1) := by decide +kernel
theorem dX7_wake_37 : decode cX7_wake 37 = .ok (.getfield 120, 3) := by decide +kernel
theorem dX7_wake_40 : decode cX7_wake 40 = .ok (.if_icmp .ge 39, 3) := by decide +kernel
theorem dX7_wake_43 : decode cX7_wake 43 = .ok (.aload_n 0, 1) := by decide +kernel
theorem dX7_wake_44 : decode cX7_wake 44 = .ok (.getfield 35, 3) := by decide +kernel
theorem dX7_wake_47 : decode cX7_wake 47 = .ok (.iload 6, 2) := by decide +kernel
theorem dX7_wake_49 : decode cX7_wake 49 = .ok (.iaload, 1) := by decide +kernel
theorem dX7_wake_50 : decode cX7_wake 50 = .ok (.iload 4, 2) := by decide +kernel
theorem dX7_wake_52 : decode cX7_wake 52 = .ok (.invokestatic 153, 3) := by decide +kernel
theorem dX7_wake_55 : decode cX7_wake 55 = .ok (.istore 7, 2) := by decide +kernel
theorem dX7_wake_57 : decode cX7_wake 57 = .ok (.iload 7, 2) := by decide +kernel
theorem dX7_wake_59 : decode cX7_wake 59 = .ok (.iload 5, 2) := by decide +kernel
theorem dX7_wake_61 : decode cX7_wake 61 = .ok (.if_icmp .ge 8, 3) := by decide +kernel
theorem dX7_wake_64 : decode cX7_wake 64 = .ok (.iload 7, 2) := by decide +kernel
theorem dX7_wake_66 : decode cX7_wake 66 = .ok (.goto 5, 3) := by decide +kernel
theorem dX7_wake_69 : decode cX7_wake 69 = .ok (.iload 5, 2) := by decide +kernel
theorem dX7_wake_71 : decode cX7_wake 71 = .ok (.istore 5, 2) := by decide +kernel
theorem dX7_wake_73 : decode cX7_wake 73 = .ok (.iinc 6 1, 3) := by decide +kernel
theorem dX7_wake_76 : decode cX7_wake 76 = .ok (.goto (-42), 3) := by decide +kernel
theorem dX7_wake_79 : decode cX7_wake 79 = .ok (.iload 5, 2) := by decide +kernel
theorem dX7_wake_81 : decode cX7_wake 81 = .ok (.iload_n 3, 1) := by decide +kernel
theorem dX7_wake_82 : decode cX7_wake 82 = .ok (.if_icmp .le 8, 3) := by decide +kernel
theorem dX7_wake_85 : decode cX7_wake 85 = .ok (.iload 4, 2) := by decide +kernel
theorem dX7_wake_87 : decode cX7_wake 87 = .ok (.goto 4, 3) := by decide +kernel
theorem dX7_wake_90 : decode cX7_wake 90 = .ok (.iload_n 2, 1) := by decide +kernel
theorem dX7_wake_91 : decode cX7_wake 91 = .ok (.istore_n 2, 1) := by decide +kernel
theorem dX7_wake_92 : decode cX7_wake 92 = .ok (.iload 5, 2) := by decide +kernel
theorem dX7_wake_94 : decode cX7_wake 94 = .ok (.iload_n 3, 1) := by decide +kernel
theorem dX7_wake_95 : decode cX7_wake 95 = .ok (.if_icmp .le 8, 3) := by decide +kernel
theorem dX7_wake_98 : decode cX7_wake 98 = .ok (.iload 5, 2) := by decide +kernel
theorem dX7_wake_100 : decode cX7_wake 100 = .ok (.goto 4, 3) := by decide +kernel
theorem dX7_wake_103 : decode cX7_wake 103 = .ok (.iload_n 3, 1) := by decide +kernel
theorem dX7_wake_104 : decode cX7_wake 104 = .ok (.istore_n 3, 1) := by decide +kernel
theorem dX7_wake_105 : decode cX7_wake 105 = .ok (.iinc 4 1, 3) := by decide +kernel
theorem dX7_wake_108 : decode cX7_wake 108 = .ok (.goto (-89), 3) := by decide +kernel
theorem dX7_wake_111 : decode cX7_wake 111 = .ok (.iload_n 1, 1) := by decide +kernel
theorem dX7_wake_112 : decode cX7_wake 112 = .ok (.ifCond .ne 7, 3) := by decide +kernel
theorem dX7_wake_115 : decode cX7_wake 115 = .ok (.iload_n 2, 1) := by decide +kernel
theorem dX7_wake_116 : decode cX7_wake 116 = .ok (.goto 4, 3) := by decide +kernel
theorem dX7_wake_119 : decode cX7_wake 119 = .ok (.iload_n 3, 1) := by decide +kernel
theorem dX7_wake_120 : decode cX7_wake 120 = .ok (.ireturn, 1) := by decide +kernel
theorem dX7_falsely_0 : decode cX7_falsely 0 = .ok (.aload_n 0, 1) := by decide +kernel
theorem dX7_falsely_1 : decode cX7_falsely 1 = .ok (.iload_n 1, 1) := by decide +kernel
theorem dX7_falsely_2 : decode cX7_falsely 2 = .ok (.invokevirtual 143, 3) := by decide +kernel
theorem dX7_falsely_5 : decode cX7_falsely 5 = .ok (.ifCond .ne 6, 3) := by decide +kernel
theorem dX7_falsely_8 : decode cX7_falsely 8 = .ok (.ldc 142, 2) := by decide +kernel
theorem dX7_falsely_10 : decode cX7_falsely 10 = .ok (.ireturn, 1) := by decide +kernel
theorem dX7_falsely_11 : decode cX7_falsely 11 = .ok (.iload_n 2, 1) := by decide +kernel
theorem dX7_falsely_12 : decode cX7_falsely 12 = .ok (.iconst 0, 1) := by decide +kernel
theorem dX7_falsely_13 : decode cX7_falsely 13 = .ok (.bipush 27, 2) := by decide +kernel
theorem dX7_falsely_15 : decode cX7_falsely 15 = .ok (.invokestatic 58, 3) := by decide +kernel
theorem dX7_falsely_18 : decode cX7_falsely 18 = .ok (.ifCond .ne 6, 3) := by decide +kernel
theorem dX7_falsely_21 : decode cX7_falsely 21 = .ok (.ldc 62, 2) := by decide +kernel
theorem dX7_falsely_23 : decode cX7_falsely 23 = .ok (.ireturn, 1) := by decide +kernel
theorem dX7_falsely_24 : decode cX7_falsely 24 = .ok (.iconst 0, 1) := by decide +kernel
theorem dX7_falsely_25 : decode cX7_falsely 25 = .ok (.istore_n 3, 1) := by decide +kernel
theorem dX7_falsely_26 : decode cX7_falsely 26 = .ok (.iconst 0, 1) := by decide +kernel
theorem dX7_falsely_27 : decode cX7_falsely 27 = .ok (.istore 4, 2) := by decide +kernel
theorem dX7_falsely_29 : decode cX7_falsely 29 = .ok (.iload 4, 2) := by decide +kernel
theorem dX7_falsely_31 : decode cX7_falsely 31 = .ok (.aload_n 0, 1) := by decide +kernel
theorem dX7_falsely_32 : decode cX7_falsely 32 = .ok (.getfield 120, 3) := by decide +kernel
theorem dX7_falsely_35 : decode cX7_falsely 35 = .ok (.if_icmp .ge 40, 3) := by decide +kernel
theorem dX7_falsely_38 : decode cX7_falsely 38 = .ok (.iload_n 3, 1) := by decide +kernel
theorem dX7_falsely_39 : decode cX7_falsely 39 = .ok (.aload_n 0, 1) := by decide +kernel
theorem dX7_falsely_40 : decode cX7_falsely 40 = .ok (.iload 4, 2) := by decide +kernel
theorem dX7_falsely_42 : decode cX7_falsely 42 = .ok (.iload_n 1, 1) := by decide +kernel
theorem dX7_falsely_43 : decode cX7_falsely 43 = .ok (.invokevirtual 215, 3) := by decide +kernel
theorem dX7_falsely_46 : decode cX7_falsely 46 = .ok (.aload_n 0, 1) := by decide +kernel
theorem dX7_falsely_47 : decode cX7_falsely 47 = .ok (.getfield 26, 3) := by decide +kernel
theorem dX7_falsely_50 : decode cX7_falsely 50 = .ok (.iconst 2, 1) := by decide +kernel
theorem dX7_falsely_51 : decode cX7_falsely 51 = .ok (.iaload, 1) := by decide +kernel
theorem dX7_falsely_52 : decode cX7_falsely 52 = .ok (.invokestatic 153, 3) := by decide +kernel
theorem dX7_falsely_55 : decode cX7_falsely 55 = .ok (.iload_n 2, 1) := by decide +kernel
theorem dX7_falsely_56 : decode cX7_falsely 56 = .ok (.if_icmp .gt 10, 3) := by decide +kernel
theorem dX7_falsely_59 : decode cX7_falsely 59 = .ok (.iconst 1, 1) := by decide +kernel
theorem dX7_falsely_60 : decode cX7_falsely 60 = .ok (.iload 4, 2) := by decide +kernel
theorem dX7_falsely_62 : decode cX7_falsely 62 = .ok (.ishl, 1) := by decide +kernel
theorem dX7_falsely_63 : decode cX7_falsely 63 = .ok (.goto 4, 3) := by decide +kernel
theorem dX7_falsely_66 : decode cX7_falsely 66 = .ok (.iconst 0, 1) := by decide +kernel
theorem dX7_falsely_67 : decode cX7_falsely 67 = .ok (.ior, 1) := by decide +kernel
theorem dX7_falsely_68 : decode cX7_falsely 68 = .ok (.istore_n 3, 1) := by decide +kernel
theorem dX7_falsely_69 : decode cX7_falsely 69 = .ok (.iinc 4 1, 3) := by decide +kernel
theorem dX7_falsely_72 : decode cX7_falsely 72 = .ok (.goto (-43), 3) := by decide +kernel
theorem dX7_falsely_75 : decode cX7_falsely 75 = .ok (.iload_n 3, 1) := by decide +kernel
theorem dX7_falsely_76 : decode cX7_falsely 76 = .ok (.ireturn, 1) := by decide +kernel
theorem dX7_needs_0 : decode cX7_needs 0 = .ok (.aload_n 0, 1) := by decide +kernel
theorem dX7_needs_1 : decode cX7_needs 1 = .ok (.iload_n 1, 1) := by decide +kernel
theorem dX7_needs_2 : decode cX7_needs 2 = .ok (.invokevirtual 139, 3) := by decide +kernel
theorem dX7_needs_5 : decode cX7_needs 5 = .ok (.ifCond .eq 11, 3) := by decide +kernel
theorem dX7_needs_8 : decode cX7_needs 8 = .ok (.aload_n 0, 1) := by decide +kernel
theorem dX7_needs_9 : decode cX7_needs 9 = .ok (.iload_n 2, 1) := by decide +kernel
theorem dX7_needs_10 : decode cX7_needs 10 = .ok (.invokevirtual 143, 3) := by decide +kernel
theorem dX7_needs_13 : decode cX7_needs 13 = .ok (.ifCond .ne 6, 3) := by decide +kernel
theorem dX7_needs_16 : decode cX7_needs 16 = .ok (.ldc 142, 2) := by decide +kernel
theorem dX7_needs_18 : decode cX7_needs 18 = .ok (.ireturn, 1) := by decide +kernel
theorem dX7_needs_19 : decode cX7_needs 19 = .ok (.iload_n 3, 1) := by decide +kernel
theorem dX7_needs_20 : decode cX7_needs 20 = .ok (.iconst 0, 1) := by decide +kernel
theorem dX7_needs_21 : decode cX7_needs 21 = .ok (.iconst 1, 1) := by decide +kernel
theorem dX7_needs_22 : decode cX7_needs 22 = .ok (.invokestatic 58, 3) := by decide +kernel
theorem dX7_needs_25 : decode cX7_needs 25 = .ok (.ifCond .ne 6, 3) := by decide +kernel
theorem dX7_needs_28 : decode cX7_needs 28 = .ok (.ldc 62, 2) := by decide +kernel
theorem dX7_needs_30 : decode cX7_needs 30 = .ok (.ireturn, 1) := by decide +kernel
theorem dX7_needs_31 : decode cX7_needs 31 = .ok (.aload_n 0, 1) := by decide +kernel
theorem dX7_needs_32 : decode cX7_needs 32 = .ok (.getfield 35, 3) := by decide +kernel
theorem dX7_needs_35 : decode cX7_needs 35 = .ok (.bipush 8, 2) := by decide +kernel
theorem dX7_needs_37 : decode cX7_needs 37 = .ok (.iload_n 1, 1) := by decide +kernel
theorem dX7_needs_38 : decode cX7_needs 38 = .ok (.iadd, 1) := by decide +kernel
theorem dX7_needs_39 : decode cX7_needs 39 = .ok (.iaload, 1) := by decide +kernel
theorem dX7_needs_40 : decode cX7_needs 40 = .ok (.istore 4, 2) := by decide +kernel
theorem dX7_needs_42 : decode cX7_needs 42 = .ok (.aload_n 0, 1) := by decide +kernel
theorem dX7_needs_43 : decode cX7_needs 43 = .ok (.iload_n 1, 1) := by decide +kernel
theorem dX7_needs_44 : decode cX7_needs 44 = .ok (.iload_n 2, 1) := by decide +kernel
theorem dX7_needs_45 : decode cX7_needs 45 = .ok (.invokevirtual 215, 3) := by decide +kernel
theorem dX7_needs_48 : decode cX7_needs 48 = .ok (.istore 5, 2) := by decide +kernel
theorem dX7_needs_50 : decode cX7_needs 50 = .ok (.iconst (-1), 1) := by decide +kernel
theorem dX7_needs_51 : decode cX7_needs 51 = .ok (.istore 6, 2) := by decide +kernel
theorem dX7_needs_53 : decode cX7_needs 53 = .ok (.bipush 99, 2) := by decide +kernel
theorem dX7_needs_55 : decode cX7_needs 55 = .ok (.istore 7, 2) := by decide +kernel
theorem dX7_needs_57 : decode cX7_needs 57 = .ok (.iload 7, 2) := by decide +kernel
theorem dX7_needs_59 : decode cX7_needs 59 = .ok (.ifCond .lt 52, 3) := by decide +kernel
theorem dX7_needs_62 : decode cX7_needs 62 = .ok (.aload_n 0, 1) := by decide +kernel
theorem dX7_needs_63 : decode cX7_needs 63 = .ok (.getfield 35, 3) := by decide +kernel
theorem dX7_needs_66 : decode cX7_needs 66 = .ok (.bipush 8, 2) := by decide +kernel
theorem dX7_needs_68 : decode cX7_needs 68 = .ok (.iload_n 1, 1) := by decide +kernel
theorem dX7_needs_69 : decode cX7_needs 69 = .ok (.iadd, 1) := by decide +kernel
theorem dX7_needs_70 : decode cX7_needs 70 = .ok (.iload 7, 2) := by decide +kernel
theorem dX7_needs_72 : decode cX7_needs 72 = .ok (.iastore, 1) := by decide +kernel
theorem dX7_needs_73 : decode cX7_needs 73 = .ok (.aload_n 0, 1) := by decide +kernel
theorem dX7_needs_74 : decode cX7_needs 74 = .ok (.iload 5, 2) := by decide +kernel
theorem dX7_needs_76 : decode cX7_needs 76 = .ok (.invokevirtual 161, 3) := by decide +kernel
theorem dX7_needs_79 : decode cX7_needs 79 = .ok (.iload_n 1, 1) := by decide +kernel
theorem dX7_needs_80 : decode cX7_needs 80 = .ok (.if_icmp .ne 21, 3) := by decide +kernel
theorem dX7_needs_83 : decode cX7_needs 83 = .ok (.iload_n 3, 1) := by decide +kernel
theorem dX7_needs_84 : decode cX7_needs 84 = .ok (.ifCond .eq 12, 3) := by decide +kernel
theorem dX7_needs_87 : decode cX7_needs 87 = .ok (.aload_n 0, 1) := by decide +kernel
theorem dX7_needs_88 : decode cX7_needs 88 = .ok (.iload 5, 2) := by decide +kernel
theorem dX7_needs_90 : decode cX7_needs 90 = .ok (.invokevirtual 174, 3) := by decide +kernel
theorem dX7_needs_93 : decode cX7_needs 93 = .ok (.ifCond .ne 8, 3) := by decide +kernel
theorem dX7_needs_96 : decode cX7_needs 96 = .ok (.iload 7, 2) := by decide +kernel
theorem dX7_needs_98 : decode cX7_needs 98 = .ok (.goto 5, 3) := by decide +kernel
theorem dX7_needs_101 : decode cX7_needs 101 = .ok (.iload 6, 2) := by decide +kernel
theorem dX7_needs_103 : decode cX7_needs 103 = .ok (.istore 6, 2) := by decide +kernel
theorem dX7_needs_105 : decode cX7_needs 105 = .ok (.iinc 7 (-1), 3) := by decide +kernel
theorem dX7_needs_108 : decode cX7_needs 108 = .ok (.goto (-51), 3) := by decide +kernel
theorem dX7_needs_111 : decode cX7_needs 111 = .ok (.aload_n 0, 1) := by decide +kernel
theorem dX7_needs_112 : decode cX7_needs 112 = .ok (.getfield 35, 3) := by decide +kernel
theorem dX7_needs_115 : decode cX7_needs 115 = .ok (.bipush 8, 2) := by decide +kernel
theorem dX7_needs_117 : decode cX7_needs 117 = .ok (.iload_n 1, 1) := by decide +kernel
theorem dX7_needs_118 : decode cX7_needs 118 = .ok (.iadd, 1) := by decide +kernel
theorem dX7_needs_119 : decode cX7_needs 119 = .ok (.iload 4, 2) := by decide +kernel
theorem dX7_needs_121 : decode cX7_needs 121 = .ok (.iastore, 1) := by decide +kernel
theorem dX7_needs_122 : decode cX7_needs 122 = .ok (.iload 6, 2) := by decide +kernel
theorem dX7_needs_124 : decode cX7_needs 124 = .ok (.ireturn, 1) := by decide +kernel
theorem dX7_heardBy_0 : decode cX7_heardBy 0 = .ok (.iconst 0, 1) := by decide +kernel
theorem dX7_heardBy_1 : decode cX7_heardBy 1 = .ok (.istore_n 2, 1) := by decide +kernel
theorem dX7_heardBy_2 : decode cX7_heardBy 2 = .ok (.iconst 0, 1) := by decide +kernel
theorem dX7_heardBy_3 : decode cX7_heardBy 3 = .ok (.istore_n 3, 1) := by decide +kernel
theorem dX7_heardBy_4 : decode cX7_heardBy 4 = .ok (.iload_n 3, 1) := by decide +kernel
theorem dX7_heardBy_5 : decode cX7_heardBy 5 = .ok (.aload_n 0, 1) := by decide +kernel
theorem dX7_heardBy_6 : decode cX7_heardBy 6 = .ok (.getfield 123, 3) := by decide +kernel
theorem dX7_heardBy_9 : decode cX7_heardBy 9 = .ok (.if_icmp .ge 31, 3) := by decide +kernel
theorem dX7_heardBy_12 : decode cX7_heardBy 12 = .ok (.iload_n 2, 1) := by decide +kernel
theorem dX7_heardBy_13 : decode cX7_heardBy 13 = .ok (.aload_n 0, 1) := by decide +kernel
theorem dX7_heardBy_14 : decode cX7_heardBy 14 = .ok (.aload_n 0, 1) := by decide +kernel
theorem dX7_heardBy_15 : decode cX7_heardBy 15 = .ok (.iload_n 1, 1) := by decide +kernel
theorem dX7_heardBy_16 : decode cX7_heardBy 16 = .ok (.iload_n 3, 1) := by decide +kernel
theorem dX7_heardBy_17 : decode cX7_heardBy 17 = .ok (.invokevirtual 215, 3) := by decide +kernel
theorem dX7_heardBy_20 : decode cX7_heardBy 20 = .ok (.invokevirtual 161, 3) := by decide +kernel
theorem dX7_heardBy_23 : decode cX7_heardBy 23 = .ok (.iload_n 1, 1) := by decide +kernel
theorem dX7_heardBy_24 : decode cX7_heardBy 24 = .ok (.if_icmp .ne 7, 3) := by decide +kernel
theorem dX7_heardBy_27 : decode cX7_heardBy 27 = .ok (.iconst 1, 1) := by decide +kernel
theorem dX7_heardBy_28 : decode cX7_heardBy 28 = .ok (.goto 4, 3) := by decide +kernel
theorem dX7_heardBy_31 : decode cX7_heardBy 31 = .ok (.iconst 0, 1) := by decide +kernel
theorem dX7_heardBy_32 : decode cX7_heardBy 32 = .ok (.iadd, 1) := by decide +kernel
theorem dX7_heardBy_33 : decode cX7_heardBy 33 = .ok (.istore_n 2, 1) := by decide +kernel
theorem dX7_heardBy_34 : decode cX7_heardBy 34 = .ok (.iinc 3 1, 3) := by decide +kernel
theorem dX7_heardBy_37 : decode cX7_heardBy 37 = .ok (.goto (-33), 3) := by decide +kernel
theorem dX7_heardBy_40 : decode cX7_heardBy 40 = .ok (.iload_n 2, 1) := by decide +kernel
theorem dX7_heardBy_41 : decode cX7_heardBy 41 = .ok (.ireturn, 1) := by decide +kernel
theorem dX7_bestCalled_0 : decode cX7_bestCalled 0 = .ok (.aload_n 0, 1) := by decide +kernel
theorem dX7_bestCalled_1 : decode cX7_bestCalled 1 = .ok (.iload_n 1, 1) := by decide +kernel
theorem dX7_bestCalled_2 : decode cX7_bestCalled 2 = .ok (.invokevirtual 139, 3) := by decide +kernel
theorem dX7_bestCalled_5 : decode cX7_bestCalled 5 = .ok (.ifCond .ne 6, 3) := by decide +kernel
theorem dX7_bestCalled_8 : decode cX7_bestCalled 8 = .ok (.ldc 142, 2) := by decide +kernel
theorem dX7_bestCalled_10 : decode cX7_bestCalled 10 = .ok (.ireturn, 1) := by decide +kernel
theorem dX7_bestCalled_11 : decode cX7_bestCalled 11 = .ok (.iload_n 2, 1) := by decide +kernel
theorem dX7_bestCalled_12 : decode cX7_bestCalled 12 = .ok (.iconst 0, 1) := by decide +kernel
theorem dX7_bestCalled_13 : decode cX7_bestCalled 13 = .ok (.iconst 1, 1) := by decide +kernel
theorem dX7_bestCalled_14 : decode cX7_bestCalled 14 = .ok (.invokestatic 58, 3) := by decide +kernel
theorem dX7_bestCalled_17 : decode cX7_bestCalled 17 = .ok (.ifCond .ne 6, 3) := by decide +kernel
theorem dX7_bestCalled_20 : decode cX7_bestCalled 20 = .ok (.ldc 62, 2) := by decide +kernel
theorem dX7_bestCalled_22 : decode cX7_bestCalled 22 = .ok (.ireturn, 1) := by decide +kernel
theorem dX7_bestCalled_23 : decode cX7_bestCalled 23 = .ok (.aload_n 0, 1) := by decide +kernel
theorem dX7_bestCalled_24 : decode cX7_bestCalled 24 = .ok (.getfield 35, 3) := by decide +kernel
theorem dX7_bestCalled_27 : decode cX7_bestCalled 27 = .ok (.iload_n 1, 1) := by decide +kernel
theorem dX7_bestCalled_28 : decode cX7_bestCalled 28 = .ok (.iaload, 1) := by decide +kernel
theorem dX7_bestCalled_29 : decode cX7_bestCalled 29 = .ok (.istore_n 3, 1) := by decide +kernel
theorem dX7_bestCalled_30 : decode cX7_bestCalled 30 = .ok (.iconst 0, 1) := by decide +kernel
theorem dX7_bestCalled_31 : decode cX7_bestCalled 31 = .ok (.istore 4, 2) := by decide +kernel
theorem dX7_bestCalled_33 : decode cX7_bestCalled 33 = .ok (.iconst (-1), 1) := by decide +kernel
theorem dX7_bestCalled_34 : decode cX7_bestCalled 34 = .ok (.istore 5, 2) := by decide +kernel
theorem dX7_bestCalled_36 : decode cX7_bestCalled 36 = .ok (.iconst 0, 1) := by decide +kernel
theorem dX7_bestCalled_37 : decode cX7_bestCalled 37 = .ok (.istore 6, 2) := by decide +kernel
theorem dX7_bestCalled_39 : decode cX7_bestCalled 39 = .ok (.iload 6, 2) := by decide +kernel
theorem dX7_bestCalled_41 : decode cX7_bestCalled 41 = .ok (.sipush 1000, 3) := by decide +kernel
theorem dX7_bestCalled_44 : decode cX7_bestCalled 44 = .ok (.if_icmp .ge 61, 3) := by decide +kernel
theorem dX7_bestCalled_47 : decode cX7_bestCalled 47 = .ok (.aload_n 0, 1) := by decide +kernel
theorem dX7_bestCalled_48 : decode cX7_bestCalled 48 = .ok (.getfield 35, 3) := by decide +kernel
theorem dX7_bestCalled_51 : decode cX7_bestCalled 51 = .ok (.iload_n 1, 1) := by decide +kernel
theorem dX7_bestCalled_52 : decode cX7_bestCalled 52 = .ok (.iload 6, 2) := by decide +kernel
theorem dX7_bestCalled_54 : decode cX7_bestCalled 54 = .ok (.iastore, 1) := by decide +kernel
theorem dX7_bestCalled_55 : decode cX7_bestCalled 55 = .ok (.aload_n 0, 1) := by decide +kernel
theorem dX7_bestCalled_56 : decode cX7_bestCalled 56 = .ok (.iload_n 1, 1) := by decide +kernel
theorem dX7_bestCalled_57 : decode cX7_bestCalled 57 = .ok (.invokevirtual 221, 3) := by decide +kernel
theorem dX7_bestCalled_60 : decode cX7_bestCalled 60 = .ok (.istore 7, 2) := by decide +kernel
theorem dX7_bestCalled_62 : decode cX7_bestCalled 62 = .ok (.iload 7, 2) := by decide +kernel
theorem dX7_bestCalled_64 : decode cX7_bestCalled 64 = .ok (.iload 5, 2) := by decide +kernel
theorem dX7_bestCalled_66 : decode cX7_bestCalled 66 = .ok (.if_icmp .gt 25, 3) := by decide +kernel
theorem dX7_bestCalled_69 : decode cX7_bestCalled 69 = .ok (.iload 7, 2) := by decide +kernel
theorem dX7_bestCalled_71 : decode cX7_bestCalled 71 = .ok (.iload 5, 2) := by decide +kernel
theorem dX7_bestCalled_73 : decode cX7_bestCalled 73 = .ok (.if_icmp .ne 26, 3) := by decide +kernel
theorem dX7_bestCalled_76 : decode cX7_bestCalled 76 = .ok (.iload 6, 2) := by decide +kernel
theorem dX7_bestCalled_78 : decode cX7_bestCalled 78 = .ok (.iload_n 3, 1) := by decide +kernel
theorem dX7_bestCalled_79 : decode cX7_bestCalled 79 = .ok (.invokestatic 153, 3) := by decide +kernel
theorem dX7_bestCalled_82 : decode cX7_bestCalled 82 = .ok (.iload 4, 2) := by decide +kernel
theorem dX7_bestCalled_84 : decode cX7_bestCalled 84 = .ok (.iload_n 3, 1) := by decide +kernel
theorem dX7_bestCalled_85 : decode cX7_bestCalled 85 = .ok (.invokestatic 153, 3) := by decide +kernel
theorem dX7_bestCalled_88 : decode cX7_bestCalled 88 = .ok (.if_icmp .ge 11, 3) := by decide +kernel
theorem dX7_bestCalled_91 : decode cX7_bestCalled 91 = .ok (.iload 6, 2) := by decide +kernel
theorem dX7_bestCalled_93 : decode cX7_bestCalled 93 = .ok (.istore 4, 2) := by decide +kernel
theorem dX7_bestCalled_95 : decode cX7_bestCalled 95 = .ok (.iload 7, 2) := by decide +kernel
theorem dX7_bestCalled_97 : decode cX7_bestCalled 97 = .ok (.istore 5, 2) := by decide +kernel
theorem dX7_bestCalled_99 : decode cX7_bestCalled 99 = .ok (.iinc 6 1, 3) := by decide +kernel
theorem dX7_bestCalled_102 : decode cX7_bestCalled 102 = .ok (.goto (-63), 3) := by decide +kernel
theorem dX7_bestCalled_105 : decode cX7_bestCalled 105 = .ok (.aload_n 0, 1) := by decide +kernel
theorem dX7_bestCalled_106 : decode cX7_bestCalled 106 = .ok (.getfield 35, 3) := by decide +kernel
theorem dX7_bestCalled_109 : decode cX7_bestCalled 109 = .ok (.iload_n 1, 1) := by decide +kernel
theorem dX7_bestCalled_110 : decode cX7_bestCalled 110 = .ok (.iload_n 3, 1) := by decide +kernel
theorem dX7_bestCalled_111 : decode cX7_bestCalled 111 = .ok (.iastore, 1) := by decide +kernel
theorem dX7_bestCalled_112 : decode cX7_bestCalled 112 = .ok (.iload_n 2, 1) := by decide +kernel
theorem dX7_bestCalled_113 : decode cX7_bestCalled 113 = .ok (.ifCond .ne 8, 3) := by decide +kernel
theorem dX7_bestCalled_116 : decode cX7_bestCalled 116 = .ok (.iload 4, 2) := by decide +kernel
theorem dX7_bestCalled_118 : decode cX7_bestCalled 118 = .ok (.goto 5, 3) := by decide +kernel
theorem dX7_bestCalled_121 : decode cX7_bestCalled 121 = .ok (.iload 5, 2) := by decide +kernel
theorem dX7_bestCalled_123 : decode cX7_bestCalled 123 = .ok (.ireturn, 1) := by decide +kernel
theorem dX7_asks_0 : decode cX7_asks 0 = .ok (.iload_n 1, 1) := by decide +kernel
theorem dX7_asks_1 : decode cX7_asks 1 = .ok (.iconst 0, 1) := by decide +kernel
theorem dX7_asks_2 : decode cX7_asks 2 = .ok (.sipush 9999, 3) := by decide +kernel
theorem dX7_asks_5 : decode cX7_asks 5 = .ok (.invokestatic 58, 3) := by decide +kernel
theorem dX7_asks_8 : decode cX7_asks 8 = .ok (.ifCond .ne 6, 3) := by decide +kernel
theorem dX7_asks_11 : decode cX7_asks 11 = .ok (.ldc 62, 2) := by decide +kernel
theorem dX7_asks_13 : decode cX7_asks 13 = .ok (.ireturn, 1) := by decide +kernel
theorem dX7_asks_14 : decode cX7_asks 14 = .ok (.iconst 0, 1) := by decide +kernel
theorem dX7_asks_15 : decode cX7_asks 15 = .ok (.istore_n 2, 1) := by decide +kernel
theorem dX7_asks_16 : decode cX7_asks 16 = .ok (.aload_n 0, 1) := by decide +kernel
theorem dX7_asks_17 : decode cX7_asks 17 = .ok (.getfield 26, 3) := by decide +kernel
theorem dX7_asks_20 : decode cX7_asks 20 = .ok (.iconst 0, 1) := by decide +kernel
theorem dX7_asks_21 : decode cX7_asks 21 = .ok (.iaload, 1) := by decide +kernel
theorem dX7_asks_22 : decode cX7_asks 22 = .ok (.aload_n 0, 1) := by decide +kernel
theorem dX7_asks_23 : decode cX7_asks 23 = .ok (.getfield 35, 3) := by decide +kernel
theorem dX7_asks_26 : decode cX7_asks 26 = .ok (.bipush 25, 2) := by decide +kernel
theorem dX7_asks_28 : decode cX7_asks 28 = .ok (.iaload, 1) := by decide +kernel
theorem dX7_asks_29 : decode cX7_asks 29 = .ok (.iadd, 1) := by decide +kernel
theorem dX7_asks_30 : decode cX7_asks 30 = .ok (.istore_n 3, 1) := by decide +kernel
theorem dX7_asks_31 : decode cX7_asks 31 = .ok (.iload_n 2, 1) := by decide +kernel
theorem dX7_asks_32 : decode cX7_asks 32 = .ok (.bipush 99, 2) := by decide +kernel
theorem dX7_asks_34 : decode cX7_asks 34 = .ok (.if_icmp .ge 33, 3) := by decide +kernel
theorem dX7_asks_37 : decode cX7_asks 37 = .ok (.iload_n 3, 1) := by decide +kernel
theorem dX7_asks_38 : decode cX7_asks 38 = .ok (.iload_n 1, 1) := by decide +kernel
theorem dX7_asks_39 : decode cX7_asks 39 = .ok (.if_icmp .gt 28, 3) := by decide +kernel
theorem dX7_asks_42 : decode cX7_asks 42 = .ok (.iinc 2 1, 3) := by decide +kernel
theorem dX7_asks_45 : decode cX7_asks 45 = .ok (.iload_n 3, 1) := by decide +kernel
theorem dX7_asks_46 : decode cX7_asks 46 = .ok (.aload_n 0, 1) := by decide +kernel
theorem dX7_asks_47 : decode cX7_asks 47 = .ok (.getfield 26, 3) := by decide +kernel
theorem dX7_asks_50 : decode cX7_asks 50 = .ok (.iconst 0, 1) := by decide +kernel
theorem dX7_asks_51 : decode cX7_asks 51 = .ok (.iaload, 1) := by decide +kernel
theorem dX7_asks_52 : decode cX7_asks 52 = .ok (.aload_n 0, 1) := by decide +kernel
theorem dX7_asks_53 : decode cX7_asks 53 = .ok (.getfield 35, 3) := by decide +kernel
theorem dX7_asks_56 : decode cX7_asks 56 = .ok (.bipush 25, 2) := by decide +kernel
theorem dX7_asks_58 : decode cX7_asks 58 = .ok (.iaload, 1) := by decide +kernel
theorem dX7_asks_59 : decode cX7_asks 59 = .ok (.iadd, 1) := by decide +kernel
theorem dX7_asks_60 : decode cX7_asks 60 = .ok (.iload_n 2, 1) := by decide +kernel
theorem dX7_asks_61 : decode cX7_asks 61 = .ok (.iadd, 1) := by decide +kernel
theorem dX7_asks_62 : decode cX7_asks 62 = .ok (.iadd, 1) := by decide +kernel
theorem dX7_asks_63 : decode cX7_asks 63 = .ok (.istore_n 3, 1) := by decide +kernel
theorem dX7_asks_64 : decode cX7_asks 64 = .ok (.goto (-33), 3) := by decide +kernel
theorem dX7_asks_67 : decode cX7_asks 67 = .ok (.iload_n 2, 1) := by decide +kernel
theorem dX7_asks_68 : decode cX7_asks 68 = .ok (.ireturn, 1) := by decide +kernel
theorem dX7_waked_0 : decode cX7_waked 0 = .ok (.iload_n 1, 1) := by decide +kernel
theorem dX7_waked_1 : decode cX7_waked 1 = .ok (.iconst 0, 1) := by decide +kernel
theorem dX7_waked_2 : decode cX7_waked 2 = .ok (.bipush 60, 2) := by decide +kernel
theorem dX7_waked_4 : decode cX7_waked 4 = .ok (.invokestatic 58, 3) := by decide +kernel
theorem dX7_waked_7 : decode cX7_waked 7 = .ok (.ifCond .eq 13, 3) := by decide +kernel
theorem dX7_waked_10 : decode cX7_waked 10 = .ok (.iload_n 2, 1) := by decide +kernel
theorem dX7_waked_11 : decode cX7_waked 11 = .ok (.iconst 0, 1) := by decide +kernel
theorem dX7_waked_12 : decode cX7_waked 12 = .ok (.bipush 100, 2) := by decide +kernel
theorem dX7_waked_14 : decode cX7_waked 14 = .ok (.invokestatic 58, 3) := by decide +kernel
theorem dX7_waked_17 : decode cX7_waked 17 = .ok (.ifCond .ne 6, 3) := by decide +kernel
theorem dX7_waked_20 : decode cX7_waked 20 = .ok (.ldc 62, 2) := by decide +kernel
theorem dX7_waked_22 : decode cX7_waked 22 = .ok (.ireturn, 1) := by decide +kernel
theorem dX7_waked_23 : decode cX7_waked 23 = .ok (.ldc2_w 224, 3) := by decide +kernel
theorem dX7_waked_26 : decode cX7_waked 26 = .ok (.lstore_n 3, 1) := by decide +kernel
theorem dX7_waked_27 : decode cX7_waked 27 = .ok (.iconst 0, 1) := by decide +kernel
theorem dX7_waked_28 : decode cX7_waked 28 = .ok (.istore 5, 2) := by decide +kernel
theorem dX7_waked_30 : decode cX7_waked 30 = .ok (.iload 5, 2) := by decide +kernel
theorem dX7_waked_32 : decode cX7_waked 32 = .ok (.iload_n 1, 1) := by decide +kernel
theorem dX7_waked_33 : decode cX7_waked 33 = .ok (.if_icmp .ge 21, 3) := by decide +kernel
theorem dX7_waked_36 : decode cX7_waked 36 = .ok (.lload_n 3, 1) := by decide +kernel
theorem dX7_waked_37 : decode cX7_waked 37 = .ok (.bipush 100, 2) := by decide +kernel
theorem dX7_waked_39 : decode cX7_waked 39 = .ok (.iload_n 2, 1) := by decide +kernel
theorem dX7_waked_40 : decode cX7_waked 40 = .ok (.isub, 1) := by decide +kernel
theorem dX7_waked_41 : decode cX7_waked 41 = .ok (.i2l, 1) := by decide +kernel
theorem dX7_waked_42 : decode cX7_waked 42 = .ok (.lmul, 1) := by decide +kernel
theorem dX7_waked_43 : decode cX7_waked 43 = .ok (.ldc2_w 226, 3) := by decide +kernel
theorem dX7_waked_46 : decode cX7_waked 46 = .ok (.ldiv, 1) := by decide +kernel
theorem dX7_waked_47 : decode cX7_waked 47 = .ok (.lstore_n 3, 1) := by decide +kernel
theorem dX7_waked_48 : decode cX7_waked 48 = .ok (.iinc 5 1, 3) := by decide +kernel
theorem dX7_waked_51 : decode cX7_waked 51 = .ok (.goto (-21), 3) := by decide +kernel
theorem dX7_waked_54 : decode cX7_waked 54 = .ok (.lload_n 3, 1) := by decide +kernel
theorem dX7_waked_55 : decode cX7_waked 55 = .ok (.l2i, 1) := by decide +kernel
theorem dX7_waked_56 : decode cX7_waked 56 = .ok (.ireturn, 1) := by decide +kernel
theorem dX7_see_0 : decode cX7_see 0 = .ok (.aload_n 0, 1) := by decide +kernel
theorem dX7_see_1 : decode cX7_see 1 = .ok (.iload_n 1, 1) := by decide +kernel
theorem dX7_see_2 : decode cX7_see 2 = .ok (.invokevirtual 139, 3) := by decide +kernel
theorem dX7_see_5 : decode cX7_see 5 = .ok (.ifCond .eq 11, 3) := by decide +kernel
theorem dX7_see_8 : decode cX7_see 8 = .ok (.aload_n 0, 1) := by decide +kernel
theorem dX7_see_9 : decode cX7_see 9 = .ok (.iload_n 2, 1) := by decide +kernel
theorem dX7_see_10 : decode cX7_see 10 = .ok (.invokevirtual 139, 3) := by decide +kernel
theorem dX7_see_13 : decode cX7_see 13 = .ok (.ifCond .ne 6, 3) := by decide +kernel
theorem dX7_see_16 : decode cX7_see 16 = .ok (.ldc 142, 2) := by decide +kernel
theorem dX7_see_18 : decode cX7_see 18 = .ok (.ireturn, 1) := by decide +kernel
theorem dX7_see_19 : decode cX7_see 19 = .ok (.aload_n 0, 1) := by decide +kernel
theorem dX7_see_20 : decode cX7_see 20 = .ok (.getfield 126, 3) := by decide +kernel
theorem dX7_see_23 : decode cX7_see 23 = .ok (.bipush 6, 2) := by decide +kernel
theorem dX7_see_25 : decode cX7_see 25 = .ok (.if_icmp .ne 6, 3) := by decide +kernel
theorem dX7_see_28 : decode cX7_see 28 = .ok (.ldc 66, 2) := by decide +kernel
theorem dX7_see_30 : decode cX7_see 30 = .ok (.ireturn, 1) := by decide +kernel
theorem dX7_see_31 : decode cX7_see 31 = .ok (.aload_n 0, 1) := by decide +kernel
theorem dX7_see_32 : decode cX7_see 32 = .ok (.getfield 41, 3) := by decide +kernel
theorem dX7_see_35 : decode cX7_see 35 = .ok (.iconst 2, 1) := by decide +kernel
theorem dX7_see_36 : decode cX7_see 36 = .ok (.aload_n 0, 1) := by decide +kernel
theorem dX7_see_37 : decode cX7_see 37 = .ok (.getfield 126, 3) := by decide +kernel
theorem dX7_see_40 : decode cX7_see 40 = .ok (.imul, 1) := by decide +kernel
theorem dX7_see_41 : decode cX7_see 41 = .ok (.iload_n 1, 1) := by decide +kernel
theorem dX7_see_42 : decode cX7_see 42 = .ok (.iastore, 1) := by decide +kernel
theorem dX7_see_43 : decode cX7_see 43 = .ok (.aload_n 0, 1) := by decide +kernel
theorem dX7_see_44 : decode cX7_see 44 = .ok (.getfield 41, 3) := by decide +kernel
theorem dX7_see_47 : decode cX7_see 47 = .ok (.iconst 2, 1) := by decide +kernel
theorem dX7_see_48 : decode cX7_see 48 = .ok (.aload_n 0, 1) := by decide +kernel
theorem dX7_see_49 : decode cX7_see 49 = .ok (.getfield 126, 3) := by decide +kernel
theorem dX7_see_52 : decode cX7_see 52 = .ok (.imul, 1) := by decide +kernel
theorem dX7_see_53 : decode cX7_see 53 = .ok (.iconst 1, 1) := by decide +kernel
theorem dX7_see_54 : decode cX7_see 54 = .ok (.iadd, 1) := by decide +kernel
theorem dX7_see_55 : decode cX7_see 55 = .ok (.iload_n 2, 1) := by decide +kernel
theorem dX7_see_56 : decode cX7_see 56 = .ok (.iastore, 1) := by decide +kernel
theorem dX7_see_57 : decode cX7_see 57 = .ok (.aload_n 0, 1) := by decide +kernel
theorem dX7_see_58 : decode cX7_see 58 = .ok (.dup, 1) := by decide +kernel
theorem dX7_see_59 : decode cX7_see 59 = .ok (.getfield 126, 3) := by decide +kernel
theorem dX7_see_62 : decode cX7_see 62 = .ok (.iconst 1, 1) := by decide +kernel
theorem dX7_see_63 : decode cX7_see 63 = .ok (.iadd, 1) := by decide +kernel
theorem dX7_see_64 : decode cX7_see 64 = .ok (.putfield 126, 3) := by decide +kernel
theorem dX7_see_67 : decode cX7_see 67 = .ok (.aload_n 0, 1) := by decide +kernel
theorem dX7_see_68 : decode cX7_see 68 = .ok (.getfield 126, 3) := by decide +kernel
theorem dX7_see_71 : decode cX7_see 71 = .ok (.ireturn, 1) := by decide +kernel
theorem dX7_speaker_0 : decode cX7_speaker 0 = .ok (.iconst 0, 1) := by decide +kernel
theorem dX7_speaker_1 : decode cX7_speaker 1 = .ok (.istore_n 1, 1) := by decide +kernel
theorem dX7_speaker_2 : decode cX7_speaker 2 = .ok (.iconst 0, 1) := by decide +kernel
theorem dX7_speaker_3 : decode cX7_speaker 3 = .ok (.istore_n 2, 1) := by decide +kernel
theorem dX7_speaker_4 : decode cX7_speaker 4 = .ok (.iload_n 2, 1) := by decide +kernel
theorem dX7_speaker_5 : decode cX7_speaker 5 = .ok (.aload_n 0, 1) := by decide +kernel
theorem dX7_speaker_6 : decode cX7_speaker 6 = .ok (.getfield 123, 3) := by decide +kernel
theorem dX7_speaker_9 : decode cX7_speaker 9 = .ok (.if_icmp .ge 85, 3) := by decide +kernel
theorem dX7_speaker_12 : decode cX7_speaker 12 = .ok (.iconst 1, 1) := by decide +kernel
theorem dX7_speaker_13 : decode cX7_speaker 13 = .ok (.istore_n 3, 1) := by decide +kernel
theorem dX7_speaker_14 : decode cX7_speaker 14 = .ok (.iconst 0, 1) := by decide +kernel
theorem dX7_speaker_15 : decode cX7_speaker 15 = .ok (.istore 4, 2) := by decide +kernel
theorem dX7_speaker_17 : decode cX7_speaker 17 = .ok (.iload 4, 2) := by decide +kernel
theorem dX7_speaker_19 : decode cX7_speaker 19 = .ok (.aload_n 0, 1) := by decide +kernel
theorem dX7_speaker_20 : decode cX7_speaker 20 = .ok (.getfield 126, 3) := by decide +kernel
theorem dX7_speaker_23 : decode cX7_speaker 23 = .ok (.if_icmp .ge 51, 3) := by decide +kernel
theorem dX7_speaker_26 : decode cX7_speaker 26 = .ok (.iload_n 3, 1) := by decide +kernel
theorem dX7_speaker_27 : decode cX7_speaker 27 = .ok (.ifCond .eq 39, 3) := by decide +kernel
theorem dX7_speaker_30 : decode cX7_speaker 30 = .ok (.aload_n 0, 1) := by decide +kernel
theorem dX7_speaker_31 : decode cX7_speaker 31 = .ok (.aload_n 0, 1) := by decide +kernel
theorem dX7_speaker_32 : decode cX7_speaker 32 = .ok (.aload_n 0, 1) := by decide +kernel
theorem dX7_speaker_33 : decode cX7_speaker 33 = .ok (.getfield 41, 3) := by decide +kernel
theorem dX7_speaker_36 : decode cX7_speaker 36 = .ok (.iconst 2, 1) := by decide +kernel
theorem dX7_speaker_37 : decode cX7_speaker 37 = .ok (.iload 4, 2) := by decide +kernel
theorem dX7_speaker_39 : decode cX7_speaker 39 = .ok (.imul, 1) := by decide +kernel
theorem dX7_speaker_40 : decode cX7_speaker 40 = .ok (.iaload, 1) := by decide +kernel
theorem dX7_speaker_41 : decode cX7_speaker 41 = .ok (.iload_n 2, 1) := by decide +kernel
theorem dX7_speaker_42 : decode cX7_speaker 42 = .ok (.invokevirtual 215, 3) := by decide +kernel
theorem dX7_speaker_45 : decode cX7_speaker 45 = .ok (.invokevirtual 161, 3) := by decide +kernel
theorem dX7_speaker_48 : decode cX7_speaker 48 = .ok (.aload_n 0, 1) := by decide +kernel
theorem dX7_speaker_49 : decode cX7_speaker 49 = .ok (.getfield 41, 3) := by decide +kernel
theorem dX7_speaker_52 : decode cX7_speaker 52 = .ok (.iconst 2, 1) := by decide +kernel
theorem dX7_speaker_53 : decode cX7_speaker 53 = .ok (.iload 4, 2) := by decide +kernel
theorem dX7_speaker_55 : decode cX7_speaker 55 = .ok (.imul, 1) := by decide +kernel
theorem dX7_speaker_56 : decode cX7_speaker 56 = .ok (.iconst 1, 1) := by decide +kernel
theorem dX7_speaker_57 : decode cX7_speaker 57 = .ok (.iadd, 1) := by decide +kernel
theorem dX7_speaker_58 : decode cX7_speaker 58 = .ok (.iaload, 1) := by decide +kernel
theorem dX7_speaker_59 : decode cX7_speaker 59 = .ok (.if_icmp .ne 7, 3) := by decide +kernel
theorem dX7_speaker_62 : decode cX7_speaker 62 = .ok (.iconst 1, 1) := by decide +kernel
theorem dX7_speaker_63 : decode cX7_speaker 63 = .ok (.goto 4, 3) := by decide +kernel
theorem dX7_speaker_66 : decode cX7_speaker 66 = .ok (.iconst 0, 1) := by decide +kernel
theorem dX7_speaker_67 : decode cX7_speaker 67 = .ok (.istore_n 3, 1) := by decide +kernel
theorem dX7_speaker_68 : decode cX7_speaker 68 = .ok (.iinc 4 1, 3) := by decide +kernel
theorem dX7_speaker_71 : decode cX7_speaker 71 = .ok (.goto (-54), 3) := by decide +kernel
theorem dX7_speaker_74 : decode cX7_speaker 74 = .ok (.iload_n 1, 1) := by decide +kernel
theorem dX7_speaker_75 : decode cX7_speaker 75 = .ok (.iload_n 3, 1) := by decide +kernel
theorem dX7_speaker_76 : decode cX7_speaker 76 = .ok (.ifCond .eq 9, 3) := by decide +kernel
theorem dX7_speaker_79 : decode cX7_speaker 79 = .ok (.iconst 1, 1) := by decide +kernel
theorem dX7_speaker_80 : decode cX7_speaker 80 = .ok (.iload_n 2, 1) := by decide +kernel
theorem dX7_speaker_81 : decode cX7_speaker 81 = .ok (.ishl, 1) := by decide +kernel
theorem dX7_speaker_82 : decode cX7_speaker 82 = .ok (.goto 4, 3) := by decide +kernel
theorem dX7_speaker_85 : decode cX7_speaker 85 = .ok (.iconst 0, 1) := by decide +kernel
theorem dX7_speaker_86 : decode cX7_speaker 86 = .ok (.ior, 1) := by decide +kernel
theorem dX7_speaker_87 : decode cX7_speaker 87 = .ok (.istore_n 1, 1) := by decide +kernel
theorem dX7_speaker_88 : decode cX7_speaker 88 = .ok (.iinc 2 1, 3) := by decide +kernel
theorem dX7_speaker_91 : decode cX7_speaker 91 = .ok (.goto (-87), 3) := by decide +kernel
theorem dX7_speaker_94 : decode cX7_speaker 94 = .ok (.iload_n 1, 1) := by decide +kernel
theorem dX7_speaker_95 : decode cX7_speaker 95 = .ok (.ireturn, 1) := by decide +kernel
theorem dX7_greatestPart_0 : decode cX7_greatestPart 0 = .ok (.iconst 0, 1) := by decide +kernel
theorem dX7_greatestPart_1 : decode cX7_greatestPart 1 = .ok (.istore_n 3, 1) := by decide +kernel
theorem dX7_greatestPart_2 : decode cX7_greatestPart 2 = .ok (.iconst 0, 1) := by decide +kernel
theorem dX7_greatestPart_3 : decode cX7_greatestPart 3 = .ok (.istore 4, 2) := by decide +kernel
theorem dX7_greatestPart_5 : decode cX7_greatestPart 5 = .ok (.iload 4, 2) := by decide +kernel
theorem dX7_greatestPart_7 : decode cX7_greatestPart 7 = .ok (.aload_n 0, 1) := by decide +kernel
theorem dX7_greatestPart_8 : decode cX7_greatestPart 8 = .ok (.getfield 120, 3) := by decide +kernel
theorem dX7_greatestPart_11 : decode cX7_greatestPart 11 = .ok (.if_icmp .ge 79, 3) := by decide +kernel
theorem dX7_greatestPart_14 : decode cX7_greatestPart 14 = .ok (.iconst 0, 1) := by decide +kernel
theorem dX7_greatestPart_15 : decode cX7_greatestPart 15 = .ok (.istore 5, 2) := by decide +kernel
theorem dX7_greatestPart_17 : decode cX7_greatestPart 17 = .ok (.iconst 0, 1) := by decide +kernel
theorem dX7_greatestPart_18 : decode cX7_greatestPart 18 = .ok (.istore 6, 2) := by decide +kernel
theorem dX7_greatestPart_20 : decode cX7_greatestPart 20 = .ok (.iload 6, 2) := by decide +kernel
theorem dX7_greatestPart_22 : decode cX7_greatestPart 22 = .ok (.aload_n 0, 1) := by decide +kernel
theorem dX7_greatestPart_23 : decode cX7_greatestPart 23 = .ok (.getfield 123, 3) := by decide +kernel
theorem dX7_greatestPart_26 : decode cX7_greatestPart 26 = .ok (.if_icmp .ge 45, 3) := by decide +kernel
theorem dX7_greatestPart_29 : decode cX7_greatestPart 29 = .ok (.iload 5, 2) := by decide +kernel
theorem dX7_greatestPart_31 : decode cX7_greatestPart 31 = .ok (.iload_n 2, 1) := by decide +kernel
theorem dX7_greatestPart_32 : decode cX7_greatestPart 32 = .ok (.iload 6, 2) := by decide +kernel
theorem dX7_greatestPart_34 : decode cX7_greatestPart 34 = .ok (.ishr, 1) := by decide +kernel
theorem dX7_greatestPart_35 : decode cX7_greatestPart 35 = .ok (.iconst 1, 1) := by decide +kernel
theorem dX7_greatestPart_36 : decode cX7_greatestPart 36 = .ok (.iand, 1) := by decide +kernel
theorem dX7_greatestPart_37 : decode cX7_greatestPart 37 = .ok (.iconst 1, 1) := by decide +kernel
theorem dX7_greatestPart_38 : decode cX7_greatestPart 38 = .ok (.if_icmp .ne 23, 3) := by decide +kernel
theorem dX7_greatestPart_41 : decode cX7_greatestPart 41 = .ok (.aload_n 0, 1) := by decide +kernel
theorem dX7_greatestPart_42 : decode cX7_greatestPart 42 = .ok (.aload_n 0, 1) := by decide +kernel
theorem dX7_greatestPart_43 : decode cX7_greatestPart 43 = .ok (.iload_n 1, 1) := by decide +kernel
theorem dX7_greatestPart_44 : decode cX7_greatestPart 44 = .ok (.iload 6, 2) := by decide +kernel
theorem dX7_greatestPart_46 : decode cX7_greatestPart 46 = .ok (.invokevirtual 215, 3) := by decide +kernel
theorem dX7_greatestPart_49 : decode cX7_greatestPart 49 = .ok (.invokevirtual 161, 3) := by decide +kernel
theorem dX7_greatestPart_52 : decode cX7_greatestPart 52 = .ok (.iload 4, 2) := by decide +kernel
theorem dX7_greatestPart_54 : decode cX7_greatestPart 54 = .ok (.if_icmp .ne 7, 3) := by decide +kernel
theorem dX7_greatestPart_57 : decode cX7_greatestPart 57 = .ok (.iconst 1, 1) := by decide +kernel
theorem dX7_greatestPart_58 : decode cX7_greatestPart 58 = .ok (.goto 4, 3) := by decide +kernel
theorem dX7_greatestPart_61 : decode cX7_greatestPart 61 = .ok (.iconst 0, 1) := by decide +kernel
theorem dX7_greatestPart_62 : decode cX7_greatestPart 62 = .ok (.iadd, 1) := by decide +kernel
theorem dX7_greatestPart_63 : decode cX7_greatestPart 63 = .ok (.istore 5, 2) := by decide +kernel
theorem dX7_greatestPart_65 : decode cX7_greatestPart 65 = .ok (.iinc 6 1, 3) := by decide +kernel
theorem dX7_greatestPart_68 : decode cX7_greatestPart 68 = .ok (.goto (-48), 3) := by decide +kernel
theorem dX7_greatestPart_71 : decode cX7_greatestPart 71 = .ok (.iload 5, 2) := by decide +kernel
theorem dX7_greatestPart_73 : decode cX7_greatestPart 73 = .ok (.iload_n 3, 1) := by decide +kernel
theorem dX7_greatestPart_74 : decode cX7_greatestPart 74 = .ok (.if_icmp .le 8, 3) := by decide +kernel
theorem dX7_greatestPart_77 : decode cX7_greatestPart 77 = .ok (.iload 5, 2) := by decide +kernel
theorem dX7_greatestPart_79 : decode cX7_greatestPart 79 = .ok (.goto 4, 3) := by decide +kernel
theorem dX7_greatestPart_82 : decode cX7_greatestPart 82 = .ok (.iload_n 3, 1) := by decide +kernel
theorem dX7_greatestPart_83 : decode cX7_greatestPart 83 = .ok (.istore_n 3, 1) := by decide +kernel
theorem dX7_greatestPart_84 : decode cX7_greatestPart 84 = .ok (.iinc 4 1, 3) := by decide +kernel
theorem dX7_greatestPart_87 : decode cX7_greatestPart 87 = .ok (.goto (-82), 3) := by decide +kernel
theorem dX7_greatestPart_90 : decode cX7_greatestPart 90 = .ok (.iload_n 3, 1) := by decide +kernel
theorem dX7_greatestPart_91 : decode cX7_greatestPart 91 = .ok (.ireturn, 1) := by decide +kernel
theorem dX7_sayNext_0 : decode cX7_sayNext 0 = .ok (.aload_n 0, 1) := by decide +kernel
theorem dX7_sayNext_1 : decode cX7_sayNext 1 = .ok (.invokevirtual 228, 3) := by decide +kernel
theorem dX7_sayNext_4 : decode cX7_sayNext 4 = .ok (.istore_n 1, 1) := by decide +kernel
theorem dX7_sayNext_5 : decode cX7_sayNext 5 = .ok (.iconst (-1), 1) := by decide +kernel
theorem dX7_sayNext_6 : decode cX7_sayNext 6 = .ok (.istore_n 2, 1) := by decide +kernel
theorem dX7_sayNext_7 : decode cX7_sayNext 7 = .ok (.iload_n 1, 1) := by decide +kernel
theorem dX7_sayNext_8 : decode cX7_sayNext 8 = .ok (.invokestatic 231, 3) := by decide +kernel
theorem dX7_sayNext_11 : decode cX7_sayNext 11 = .ok (.istore_n 3, 1) := by decide +kernel
theorem dX7_sayNext_12 : decode cX7_sayNext 12 = .ok (.iconst 0, 1) := by decide +kernel
theorem dX7_sayNext_13 : decode cX7_sayNext 13 = .ok (.istore 4, 2) := by decide +kernel
theorem dX7_sayNext_15 : decode cX7_sayNext 15 = .ok (.iload 4, 2) := by decide +kernel
theorem dX7_sayNext_17 : decode cX7_sayNext 17 = .ok (.aload_n 0, 1) := by decide +kernel
theorem dX7_sayNext_18 : decode cX7_sayNext 18 = .ok (.getfield 120, 3) := by decide +kernel
theorem dX7_sayNext_21 : decode cX7_sayNext 21 = .ok (.if_icmp .ge 44, 3) := by decide +kernel
theorem dX7_sayNext_24 : decode cX7_sayNext 24 = .ok (.aload_n 0, 1) := by decide +kernel
theorem dX7_sayNext_25 : decode cX7_sayNext 25 = .ok (.iload 4, 2) := by decide +kernel
theorem dX7_sayNext_27 : decode cX7_sayNext 27 = .ok (.iload_n 1, 1) := by decide +kernel
theorem dX7_sayNext_28 : decode cX7_sayNext 28 = .ok (.invokevirtual 234, 3) := by decide +kernel
theorem dX7_sayNext_31 : decode cX7_sayNext 31 = .ok (.istore 5, 2) := by decide +kernel
theorem dX7_sayNext_33 : decode cX7_sayNext 33 = .ok (.iload 5, 2) := by decide +kernel
theorem dX7_sayNext_35 : decode cX7_sayNext 35 = .ok (.iload_n 3, 1) := by decide +kernel
theorem dX7_sayNext_36 : decode cX7_sayNext 36 = .ok (.if_icmp .ge 8, 3) := by decide +kernel
theorem dX7_sayNext_39 : decode cX7_sayNext 39 = .ok (.iload 4, 2) := by decide +kernel
theorem dX7_sayNext_41 : decode cX7_sayNext 41 = .ok (.goto 4, 3) := by decide +kernel
theorem dX7_sayNext_44 : decode cX7_sayNext 44 = .ok (.iload_n 2, 1) := by decide +kernel
theorem dX7_sayNext_45 : decode cX7_sayNext 45 = .ok (.istore_n 2, 1) := by decide +kernel
theorem dX7_sayNext_46 : decode cX7_sayNext 46 = .ok (.iload 5, 2) := by decide +kernel
theorem dX7_sayNext_48 : decode cX7_sayNext 48 = .ok (.iload_n 3, 1) := by decide +kernel
theorem dX7_sayNext_49 : decode cX7_sayNext 49 = .ok (.if_icmp .ge 8, 3) := by decide +kernel
theorem dX7_sayNext_52 : decode cX7_sayNext 52 = .ok (.iload 5, 2) := by decide +kernel
theorem dX7_sayNext_54 : decode cX7_sayNext 54 = .ok (.goto 4, 3) := by decide +kernel
theorem dX7_sayNext_57 : decode cX7_sayNext 57 = .ok (.iload_n 3, 1) := by decide +kernel
theorem dX7_sayNext_58 : decode cX7_sayNext 58 = .ok (.istore_n 3, 1) := by decide +kernel
theorem dX7_sayNext_59 : decode cX7_sayNext 59 = .ok (.iinc 4 1, 3) := by decide +kernel
theorem dX7_sayNext_62 : decode cX7_sayNext 62 = .ok (.goto (-47), 3) := by decide +kernel
theorem dX7_sayNext_65 : decode cX7_sayNext 65 = .ok (.iload_n 2, 1) := by decide +kernel
theorem dX7_sayNext_66 : decode cX7_sayNext 66 = .ok (.ireturn, 1) := by decide +kernel
theorem dX7_write_0 : decode cX7_write 0 = .ok (.aload_n 0, 1) := by decide +kernel
theorem dX7_write_1 : decode cX7_write 1 = .ok (.iload_n 1, 1) := by decide +kernel
theorem dX7_write_2 : decode cX7_write 2 = .ok (.invokevirtual 139, 3) := by decide +kernel
theorem dX7_write_5 : decode cX7_write 5 = .ok (.ifCond .ne 6, 3) := by decide +kernel
theorem dX7_write_8 : decode cX7_write 8 = .ok (.ldc 142, 2) := by decide +kernel
theorem dX7_write_10 : decode cX7_write 10 = .ok (.ireturn, 1) := by decide +kernel
theorem dX7_write_11 : decode cX7_write 11 = .ok (.iload_n 2, 1) := by decide +kernel
theorem dX7_write_12 : decode cX7_write 12 = .ok (.iconst 0, 1) := by decide +kernel
theorem dX7_write_13 : decode cX7_write 13 = .ok (.bipush 99, 2) := by decide +kernel
theorem dX7_write_15 : decode cX7_write 15 = .ok (.invokestatic 58, 3) := by decide +kernel
theorem dX7_write_18 : decode cX7_write 18 = .ok (.ifCond .ne 6, 3) := by decide +kernel
theorem dX7_write_21 : decode cX7_write 21 = .ok (.ldc 62, 2) := by decide +kernel
theorem dX7_write_23 : decode cX7_write 23 = .ok (.ireturn, 1) := by decide +kernel
theorem dX7_write_24 : decode cX7_write 24 = .ok (.aload_n 0, 1) := by decide +kernel
theorem dX7_write_25 : decode cX7_write 25 = .ok (.getfield 129, 3) := by decide +kernel
theorem dX7_write_28 : decode cX7_write 28 = .ok (.bipush 15, 2) := by decide +kernel
theorem dX7_write_30 : decode cX7_write 30 = .ok (.if_icmp .ne 6, 3) := by decide +kernel
theorem dX7_write_33 : decode cX7_write 33 = .ok (.ldc 66, 2) := by decide +kernel
theorem dX7_write_35 : decode cX7_write 35 = .ok (.ireturn, 1) := by decide +kernel
theorem dX7_write_36 : decode cX7_write 36 = .ok (.aload_n 0, 1) := by decide +kernel
theorem dX7_write_37 : decode cX7_write 37 = .ok (.getfield 44, 3) := by decide +kernel
theorem dX7_write_40 : decode cX7_write 40 = .ok (.iconst 2, 1) := by decide +kernel
theorem dX7_write_41 : decode cX7_write 41 = .ok (.aload_n 0, 1) := by decide +kernel
theorem dX7_write_42 : decode cX7_write 42 = .ok (.getfield 129, 3) := by decide +kernel
theorem dX7_write_45 : decode cX7_write 45 = .ok (.imul, 1) := by decide +kernel
theorem dX7_write_46 : decode cX7_write 46 = .ok (.iload_n 1, 1) := by decide +kernel
theorem dX7_write_47 : decode cX7_write 47 = .ok (.iastore, 1) := by decide +kernel
theorem dX7_write_48 : decode cX7_write 48 = .ok (.aload_n 0, 1) := by decide +kernel
theorem dX7_write_49 : decode cX7_write 49 = .ok (.getfield 44, 3) := by decide +kernel
theorem dX7_write_52 : decode cX7_write 52 = .ok (.iconst 2, 1) := by decide +kernel
theorem dX7_write_53 : decode cX7_write 53 = .ok (.aload_n 0, 1) := by decide +kernel
theorem dX7_write_54 : decode cX7_write 54 = .ok (.getfield 129, 3) := by decide +kernel
theorem dX7_write_57 : decode cX7_write 57 = .ok (.imul, 1) := by decide +kernel
theorem dX7_write_58 : decode cX7_write 58 = .ok (.iconst 1, 1) := by decide +kernel
theorem dX7_write_59 : decode cX7_write 59 = .ok (.iadd, 1) := by decide +kernel
theorem dX7_write_60 : decode cX7_write 60 = .ok (.iload_n 2, 1) := by decide +kernel
theorem dX7_write_61 : decode cX7_write 61 = .ok (.iastore, 1) := by decide +kernel
theorem dX7_write_62 : decode cX7_write 62 = .ok (.aload_n 0, 1) := by decide +kernel
theorem dX7_write_63 : decode cX7_write 63 = .ok (.dup, 1) := by decide +kernel
theorem dX7_write_64 : decode cX7_write 64 = .ok (.getfield 129, 3) := by decide +kernel
theorem dX7_write_67 : decode cX7_write 67 = .ok (.iconst 1, 1) := by decide +kernel
theorem dX7_write_68 : decode cX7_write 68 = .ok (.iadd, 1) := by decide +kernel
theorem dX7_write_69 : decode cX7_write 69 = .ok (.putfield 129, 3) := by decide +kernel
theorem dX7_write_72 : decode cX7_write 72 = .ok (.aload_n 0, 1) := by decide +kernel
theorem dX7_write_73 : decode cX7_write 73 = .ok (.getfield 129, 3) := by decide +kernel
theorem dX7_write_76 : decode cX7_write 76 = .ok (.ireturn, 1) := by decide +kernel
theorem dX7_tear_0 : decode cX7_tear 0 = .ok (.aload_n 0, 1) := by decide +kernel
theorem dX7_tear_1 : decode cX7_tear 1 = .ok (.getfield 126, 3) := by decide +kernel
theorem dX7_tear_4 : decode cX7_tear 4 = .ok (.aload_n 0, 1) := by decide +kernel
theorem dX7_tear_5 : decode cX7_tear 5 = .ok (.getfield 129, 3) := by decide +kernel
theorem dX7_tear_8 : decode cX7_tear 8 = .ok (.iadd, 1) := by decide +kernel
theorem dX7_tear_9 : decode cX7_tear 9 = .ok (.istore_n 1, 1) := by decide +kernel
theorem dX7_tear_10 : decode cX7_tear 10 = .ok (.aload_n 0, 1) := by decide +kernel
theorem dX7_tear_11 : decode cX7_tear 11 = .ok (.iconst 0, 1) := by decide +kernel
theorem dX7_tear_12 : decode cX7_tear 12 = .ok (.putfield 126, 3) := by decide +kernel
theorem dX7_tear_15 : decode cX7_tear 15 = .ok (.aload_n 0, 1) := by decide +kernel
theorem dX7_tear_16 : decode cX7_tear 16 = .ok (.iconst 0, 1) := by decide +kernel
theorem dX7_tear_17 : decode cX7_tear 17 = .ok (.putfield 129, 3) := by decide +kernel
theorem dX7_tear_20 : decode cX7_tear 20 = .ok (.iload_n 1, 1) := by decide +kernel
theorem dX7_tear_21 : decode cX7_tear 21 = .ok (.ireturn, 1) := by decide +kernel
theorem dX7_judge_0 : decode cX7_judge 0 = .ok (.iconst (-1), 1) := by decide +kernel
theorem dX7_judge_1 : decode cX7_judge 1 = .ok (.istore_n 1, 1) := by decide +kernel
theorem dX7_judge_2 : decode cX7_judge 2 = .ok (.aload_n 0, 1) := by decide +kernel
theorem dX7_judge_3 : decode cX7_judge 3 = .ok (.getfield 129, 3) := by decide +kernel
theorem dX7_judge_6 : decode cX7_judge 6 = .ok (.iconst 1, 1) := by decide +kernel
theorem dX7_judge_7 : decode cX7_judge 7 = .ok (.isub, 1) := by decide +kernel
theorem dX7_judge_8 : decode cX7_judge 8 = .ok (.istore_n 2, 1) := by decide +kernel
theorem dX7_judge_9 : decode cX7_judge 9 = .ok (.iload_n 2, 1) := by decide +kernel
theorem dX7_judge_10 : decode cX7_judge 10 = .ok (.ifCond .lt 44, 3) := by decide +kernel
theorem dX7_judge_13 : decode cX7_judge 13 = .ok (.aload_n 0, 1) := by decide +kernel
theorem dX7_judge_14 : decode cX7_judge 14 = .ok (.getfield 35, 3) := by decide +kernel
theorem dX7_judge_17 : decode cX7_judge 17 = .ok (.bipush 16, 2) := by decide +kernel
theorem dX7_judge_19 : decode cX7_judge 19 = .ok (.aload_n 0, 1) := by decide +kernel
theorem dX7_judge_20 : decode cX7_judge 20 = .ok (.getfield 44, 3) := by decide +kernel
theorem dX7_judge_23 : decode cX7_judge 23 = .ok (.iconst 2, 1) := by decide +kernel
theorem dX7_judge_24 : decode cX7_judge 24 = .ok (.iload_n 2, 1) := by decide +kernel
theorem dX7_judge_25 : decode cX7_judge 25 = .ok (.imul, 1) := by decide +kernel
theorem dX7_judge_26 : decode cX7_judge 26 = .ok (.iaload, 1) := by decide +kernel
theorem dX7_judge_27 : decode cX7_judge 27 = .ok (.iadd, 1) := by decide +kernel
theorem dX7_judge_28 : decode cX7_judge 28 = .ok (.iaload, 1) := by decide +kernel
theorem dX7_judge_29 : decode cX7_judge 29 = .ok (.aload_n 0, 1) := by decide +kernel
theorem dX7_judge_30 : decode cX7_judge 30 = .ok (.getfield 44, 3) := by decide +kernel
theorem dX7_judge_33 : decode cX7_judge 33 = .ok (.iconst 2, 1) := by decide +kernel
theorem dX7_judge_34 : decode cX7_judge 34 = .ok (.iload_n 2, 1) := by decide +kernel
theorem dX7_judge_35 : decode cX7_judge 35 = .ok (.imul, 1) := by decide +kernel
theorem dX7_judge_36 : decode cX7_judge 36 = .ok (.iconst 1, 1) := by decide +kernel
theorem dX7_judge_37 : decode cX7_judge 37 = .ok (.iadd, 1) := by decide +kernel
theorem dX7_judge_38 : decode cX7_judge 38 = .ok (.iaload, 1) := by decide +kernel
theorem dX7_judge_39 : decode cX7_judge 39 = .ok (.if_icmp .eq 7, 3) := by decide +kernel
theorem dX7_judge_42 : decode cX7_judge 42 = .ok (.iload_n 2, 1) := by decide +kernel
theorem dX7_judge_43 : decode cX7_judge 43 = .ok (.goto 4, 3) := by decide +kernel
theorem dX7_judge_46 : decode cX7_judge 46 = .ok (.iload_n 1, 1) := by decide +kernel
theorem dX7_judge_47 : decode cX7_judge 47 = .ok (.istore_n 1, 1) := by decide +kernel
theorem dX7_judge_48 : decode cX7_judge 48 = .ok (.iinc 2 (-1), 3) := by decide +kernel
theorem dX7_judge_51 : decode cX7_judge 51 = .ok (.goto (-42), 3) := by decide +kernel
theorem dX7_judge_54 : decode cX7_judge 54 = .ok (.iload_n 1, 1) := by decide +kernel
theorem dX7_judge_55 : decode cX7_judge 55 = .ok (.ireturn, 1) := by decide +kernel
theorem dX7_seed_0 : decode cX7_seed 0 = .ok (.iload_n 1, 1) := by decide +kernel
theorem dX7_seed_1 : decode cX7_seed 1 = .ok (.ifCond .ge 6, 3) := by decide +kernel
theorem dX7_seed_4 : decode cX7_seed 4 = .ok (.ldc 62, 2) := by decide +kernel
theorem dX7_seed_6 : decode cX7_seed 6 = .ok (.ireturn, 1) := by decide +kernel
theorem dX7_seed_7 : decode cX7_seed 7 = .ok (.aload_n 0, 1) := by decide +kernel
theorem dX7_seed_8 : decode cX7_seed 8 = .ok (.getfield 200, 3) := by decide +kernel
theorem dX7_seed_11 : decode cX7_seed 11 = .ok (.l2i, 1) := by decide +kernel
theorem dX7_seed_12 : decode cX7_seed 12 = .ok (.istore_n 2, 1) := by decide +kernel
theorem dX7_seed_13 : decode cX7_seed 13 = .ok (.aload_n 0, 1) := by decide +kernel
theorem dX7_seed_14 : decode cX7_seed 14 = .ok (.iload_n 1, 1) := by decide +kernel
theorem dX7_seed_15 : decode cX7_seed 15 = .ok (.i2l, 1) := by decide +kernel
theorem dX7_seed_16 : decode cX7_seed 16 = .ok (.putfield 200, 3) := by decide +kernel
theorem dX7_seed_19 : decode cX7_seed 19 = .ok (.iload_n 2, 1) := by decide +kernel
theorem dX7_seed_20 : decode cX7_seed 20 = .ok (.ireturn, 1) := by decide +kernel
theorem dX7_keep_0 : decode cX7_keep 0 = .ok (.iload_n 1, 1) := by decide +kernel
theorem dX7_keep_1 : decode cX7_keep 1 = .ok (.iconst 0, 1) := by decide +kernel
theorem dX7_keep_2 : decode cX7_keep 2 = .ok (.iconst 1, 1) := by decide +kernel
theorem dX7_keep_3 : decode cX7_keep 3 = .ok (.invokestatic 58, 3) := by decide +kernel
theorem dX7_keep_6 : decode cX7_keep 6 = .ok (.ifCond .ne 6, 3) := by decide +kernel
theorem dX7_keep_9 : decode cX7_keep 9 = .ok (.ldc 142, 2) := by decide +kernel
theorem dX7_keep_11 : decode cX7_keep 11 = .ok (.ireturn, 1) := by decide +kernel
theorem dX7_keep_12 : decode cX7_keep 12 = .ok (.aload_n 0, 1) := by decide +kernel
theorem dX7_keep_13 : decode cX7_keep 13 = .ok (.getfield 47, 3) := by decide +kernel
theorem dX7_keep_16 : decode cX7_keep 16 = .ok (.iload_n 1, 1) := by decide +kernel
theorem dX7_keep_17 : decode cX7_keep 17 = .ok (.iconst 1, 1) := by decide +kernel
theorem dX7_keep_18 : decode cX7_keep 18 = .ok (.bastore, 1) := by decide +kernel
theorem dX7_keep_19 : decode cX7_keep 19 = .ok (.aload_n 0, 1) := by decide +kernel
theorem dX7_keep_20 : decode cX7_keep 20 = .ok (.getfield 54, 3) := by decide +kernel
theorem dX7_keep_23 : decode cX7_keep 23 = .ok (.iload_n 1, 1) := by decide +kernel
theorem dX7_keep_24 : decode cX7_keep 24 = .ok (.aload_n 0, 1) := by decide +kernel
theorem dX7_keep_25 : decode cX7_keep 25 = .ok (.getfield 200, 3) := by decide +kernel
theorem dX7_keep_28 : decode cX7_keep 28 = .ok (.lastore, 1) := by decide +kernel
theorem dX7_keep_29 : decode cX7_keep 29 = .ok (.aload_n 0, 1) := by decide +kernel
theorem dX7_keep_30 : decode cX7_keep 30 = .ok (.iconst 0, 1) := by decide +kernel
theorem dX7_keep_31 : decode cX7_keep 31 = .ok (.putfield 132, 3) := by decide +kernel
theorem dX7_keep_34 : decode cX7_keep 34 = .ok (.iconst 0, 1) := by decide +kernel
theorem dX7_keep_35 : decode cX7_keep 35 = .ok (.istore_n 2, 1) := by decide +kernel
theorem dX7_keep_36 : decode cX7_keep 36 = .ok (.iload_n 2, 1) := by decide +kernel
theorem dX7_keep_37 : decode cX7_keep 37 = .ok (.bipush 27, 2) := by decide +kernel
theorem dX7_keep_39 : decode cX7_keep 39 = .ok (.if_icmp .ge 26, 3) := by decide +kernel
theorem dX7_keep_42 : decode cX7_keep 42 = .ok (.aload_n 0, 1) := by decide +kernel
theorem dX7_keep_43 : decode cX7_keep 43 = .ok (.getfield 51, 3) := by decide +kernel
theorem dX7_keep_46 : decode cX7_keep 46 = .ok (.bipush 27, 2) := by decide +kernel
theorem dX7_keep_48 : decode cX7_keep 48 = .ok (.iload_n 1, 1) := by decide +kernel
theorem dX7_keep_49 : decode cX7_keep 49 = .ok (.imul, 1) := by decide +kernel
theorem dX7_keep_50 : decode cX7_keep 50 = .ok (.iload_n 2, 1) := by decide +kernel
theorem dX7_keep_51 : decode cX7_keep 51 = .ok (.iadd, 1) := by decide +kernel
theorem dX7_keep_52 : decode cX7_keep 52 = .ok (.aload_n 0, 1) := by decide +kernel
theorem dX7_keep_53 : decode cX7_keep 53 = .ok (.getfield 35, 3) := by decide +kernel
theorem dX7_keep_56 : decode cX7_keep 56 = .ok (.iload_n 2, 1) := by decide +kernel
theorem dX7_keep_57 : decode cX7_keep 57 = .ok (.iaload, 1) := by decide +kernel
theorem dX7_keep_58 : decode cX7_keep 58 = .ok (.iastore, 1) := by decide +kernel
theorem dX7_keep_59 : decode cX7_keep 59 = .ok (.iinc 2 1, 3) := by decide +kernel
theorem dX7_keep_62 : decode cX7_keep 62 = .ok (.goto (-26), 3) := by decide +kernel
theorem dX7_keep_65 : decode cX7_keep 65 = .ok (.iconst 1, 1) := by decide +kernel
theorem dX7_keep_66 : decode cX7_keep 66 = .ok (.ireturn, 1) := by decide +kernel
theorem dX7_goBack_0 : decode cX7_goBack 0 = .ok (.iload_n 1, 1) := by decide +kernel
theorem dX7_goBack_1 : decode cX7_goBack 1 = .ok (.iconst 0, 1) := by decide +kernel
theorem dX7_goBack_2 : decode cX7_goBack 2 = .ok (.iconst 1, 1) := by decide +kernel
theorem dX7_goBack_3 : decode cX7_goBack 3 = .ok (.invokestatic 58, 3) := by decide +kernel
theorem dX7_goBack_6 : decode cX7_goBack 6 = .ok (.ifCond .ne 6, 3) := by decide +kernel
theorem dX7_goBack_9 : decode cX7_goBack 9 = .ok (.ldc 142, 2) := by decide +kernel
theorem dX7_goBack_11 : decode cX7_goBack 11 = .ok (.ireturn, 1) := by decide +kernel
theorem dX7_goBack_12 : decode cX7_goBack 12 = .ok (.aload_n 0, 1) := by decide +kernel
theorem dX7_goBack_13 : decode cX7_goBack 13 = .ok (.getfield 47, 3) := by decide +kernel
theorem dX7_goBack_16 : decode cX7_goBack 16 = .ok (.iload_n 1, 1) := by decide +kernel
theorem dX7_goBack_17 : decode cX7_goBack 17 = .ok (.baload, 1) := by decide +kernel
theorem dX7_goBack_18 : decode cX7_goBack 18 = .ok (.ifCond .ne 6, 3) := by decide +kernel
theorem dX7_goBack_21 : decode cX7_goBack 21 = .ok (.ldc 186, 2) := by decide +kernel
theorem dX7_goBack_23 : decode cX7_goBack 23 = .ok (.ireturn, 1) := by decide +kernel
theorem dX7_goBack_24 : decode cX7_goBack 24 = .ok (.aload_n 0, 1) := by decide +kernel
theorem dX7_goBack_25 : decode cX7_goBack 25 = .ok (.aload_n 0, 1) := by decide +kernel
theorem dX7_goBack_26 : decode cX7_goBack 26 = .ok (.getfield 54, 3) := by decide +kernel
theorem dX7_goBack_29 : decode cX7_goBack 29 = .ok (.iload_n 1, 1) := by decide +kernel
theorem dX7_goBack_30 : decode cX7_goBack 30 = .ok (.laload, 1) := by decide +kernel
theorem dX7_goBack_31 : decode cX7_goBack 31 = .ok (.putfield 200, 3) := by decide +kernel
theorem dX7_goBack_34 : decode cX7_goBack 34 = .ok (.aload_n 0, 1) := by decide +kernel
theorem dX7_goBack_35 : decode cX7_goBack 35 = .ok (.iconst 0, 1) := by decide +kernel
theorem dX7_goBack_36 : decode cX7_goBack 36 = .ok (.putfield 132, 3) := by decide +kernel
theorem dX7_goBack_39 : decode cX7_goBack 39 = .ok (.iconst 0, 1) := by decide +kernel
theorem dX7_goBack_40 : decode cX7_goBack 40 = .ok (.istore_n 2, 1) := by decide +kernel
theorem dX7_goBack_41 : decode cX7_goBack 41 = .ok (.iload_n 2, 1) := by decide +kernel
theorem dX7_goBack_42 : decode cX7_goBack 42 = .ok (.bipush 27, 2) := by decide +kernel
theorem dX7_goBack_44 : decode cX7_goBack 44 = .ok (.if_icmp .ge 26, 3) := by decide +kernel
theorem dX7_goBack_47 : decode cX7_goBack 47 = .ok (.aload_n 0, 1) := by decide +kernel
theorem dX7_goBack_48 : decode cX7_goBack 48 = .ok (.getfield 35, 3) := by decide +kernel
theorem dX7_goBack_51 : decode cX7_goBack 51 = .ok (.iload_n 2, 1) := by decide +kernel
theorem dX7_goBack_52 : decode cX7_goBack 52 = .ok (.aload_n 0, 1) := by decide +kernel
theorem dX7_goBack_53 : decode cX7_goBack 53 = .ok (.getfield 51, 3) := by decide +kernel
theorem dX7_goBack_56 : decode cX7_goBack 56 = .ok (.bipush 27, 2) := by decide +kernel
theorem dX7_goBack_58 : decode cX7_goBack 58 = .ok (.iload_n 1, 1) := by decide +kernel
theorem dX7_goBack_59 : decode cX7_goBack 59 = .ok (.imul, 1) := by decide +kernel
theorem dX7_goBack_60 : decode cX7_goBack 60 = .ok (.iload_n 2, 1) := by decide +kernel
theorem dX7_goBack_61 : decode cX7_goBack 61 = .ok (.iadd, 1) := by decide +kernel
theorem dX7_goBack_62 : decode cX7_goBack 62 = .ok (.iaload, 1) := by decide +kernel
theorem dX7_goBack_63 : decode cX7_goBack 63 = .ok (.iastore, 1) := by decide +kernel
theorem dX7_goBack_64 : decode cX7_goBack 64 = .ok (.iinc 2 1, 3) := by decide +kernel
theorem dX7_goBack_67 : decode cX7_goBack 67 = .ok (.goto (-26), 3) := by decide +kernel
theorem dX7_goBack_70 : decode cX7_goBack 70 = .ok (.iconst 1, 1) := by decide +kernel
theorem dX7_goBack_71 : decode cX7_goBack 71 = .ok (.ireturn, 1) := by decide +kernel
