theorem dX6_init_0 : decode cX6_init 0 = .ok (.aload_n 0, 1) := by decide +kernel
theorem dX6_init_1 : decode cX6_init 1 = .ok (.invokespecial 1, 3) := by decide +kernel
theorem dX6_init_4 : decode cX6_init 4 = .ok (.aload_n 0, 1) := by decide +kernel
theorem dX6_init_5 : decode cX6_init 5 = .ok (.new 7, 3) := by decide +kernel
theorem dX6_init_8 : decode cX6_init 8 = .ok (.dup, 1) := by decide +kernel
theorem dX6_init_9 : decode cX6_init 9 = .ok (.invokespecial 9, 3) := by decide +kernel
theorem dX6_init_12 : decode cX6_init 12 = .ok (.putfield 10, 3) := by decide +kernel
theorem dX6_init_15 : decode cX6_init 15 = .ok (.aload_n 0, 1) := by decide +kernel
theorem dX6_init_16 : decode cX6_init 16 = .ok (.iconst (-1), 1) := by decide +kernel
theorem dX6_init_17 : decode cX6_init 17 = .ok (.putfield 16, 3) := by decide +kernel
theorem dX6_init_20 : decode cX6_init 20 = .ok (.aload_n 0, 1) := by decide +kernel
theorem dX6_init_21 : decode cX6_init 21 = .ok (.new 20, 3) := by decide +kernel
theorem dX6_init_24 : decode cX6_init 24 = .ok (.dup, 1) := by decide +kernel
theorem dX6_init_25 : decode cX6_init 25 = .ok (.invokespecial 22, 3) := by decide +kernel
theorem dX6_init_28 : decode cX6_init 28 = .ok (.putfield 23, 3) := by decide +kernel
theorem dX6_init_31 : decode cX6_init 31 = .ok (.aload_n 0, 1) := by decide +kernel
theorem dX6_init_32 : decode cX6_init 32 = .ok (.new 20, 3) := by decide +kernel
theorem dX6_init_35 : decode cX6_init 35 = .ok (.dup, 1) := by decide +kernel
theorem dX6_init_36 : decode cX6_init 36 = .ok (.invokespecial 22, 3) := by decide +kernel
theorem dX6_init_39 : decode cX6_init 39 = .ok (.putfield 27, 3) := by decide +kernel
theorem dX6_init_42 : decode cX6_init 42 = .ok (.aload_n 0, 1) := by decide +kernel
theorem dX6_init_43 : decode cX6_init 43 = .ok (.new 30, 3) := by decide +kernel
theorem dX6_init_46 : decode cX6_init 46 = .ok (.dup, 1) := by decide +kernel
theorem dX6_init_47 : decode cX6_init 47 = .ok (.invokespecial 32, 3) := by decide +kernel
theorem dX6_init_50 : decode cX6_init 50 = .ok (.putfield 33, 3) := by decide +kernel
theorem dX6_init_53 : decode cX6_init 53 = .ok (.aload_n 0, 1) := by decide +kernel
theorem dX6_init_54 : decode cX6_init 54 = .ok (.new 30, 3) := by decide +kernel
theorem dX6_init_57 : decode cX6_init 57 = .ok (.dup, 1) := by decide +kernel
theorem dX6_init_58 : decode cX6_init 58 = .ok (.invokespecial 32, 3) := by decide +kernel
theorem dX6_init_61 : decode cX6_init 61 = .ok (.putfield 37, 3) := by decide +kernel
theorem dX6_init_64 : decode cX6_init 64 = .ok (.aload_n 0, 1) := by decide +kernel
theorem dX6_init_65 : decode cX6_init 65 = .ok (.new 40, 3) := by decide +kernel
theorem dX6_init_68 : decode cX6_init 68 = .ok (.dup, 1) := by decide +kernel
theorem dX6_init_69 : decode cX6_init 69 = .ok (.invokespecial 42, 3) := by decide +kernel
theorem dX6_init_72 : decode cX6_init 72 = .ok (.putfield 43, 3) := by decide +kernel
theorem dX6_init_75 : decode cX6_init 75 = .ok (.aload_n 0, 1) := by decide +kernel
theorem dX6_init_76 : decode cX6_init 76 = .ok (.iconst 2, 1) := by decide +kernel
theorem dX6_init_77 : decode cX6_init 77 = .ok (.anewarray 47, 3) := by decide +kernel
theorem dX6_init_80 : decode cX6_init 80 = .ok (.putfield 49, 3) := by decide +kernel
theorem dX6_init_83 : decode cX6_init 83 = .ok (.aload_n 0, 1) := by decide +kernel
theorem dX6_init_84 : decode cX6_init 84 = .ok (.iconst 0, 1) := by decide +kernel
theorem dX6_init_85 : decode cX6_init 85 = .ok (.putfield 53, 3) := by decide +kernel
theorem dX6_init_88 : decode cX6_init 88 = .ok (.aload_n 0, 1) := by decide +kernel
theorem dX6_init_89 : decode cX6_init 89 = .ok (.new 56, 3) := by decide +kernel
theorem dX6_init_92 : decode cX6_init 92 = .ok (.dup, 1) := by decide +kernel
theorem dX6_init_93 : decode cX6_init 93 = .ok (.bipush 6, 2) := by decide +kernel
theorem dX6_init_95 : decode cX6_init 95 = .ok (.invokespecial 58, 3) := by decide +kernel
theorem dX6_init_98 : decode cX6_init 98 = .ok (.putfield 61, 3) := by decide +kernel
theorem dX6_init_101 : decode cX6_init 101 = .ok (.aload_n 0, 1) := by decide +kernel
theorem dX6_init_102 : decode cX6_init 102 = .ok (.new 56, 3) := by decide +kernel
theorem dX6_init_105 : decode cX6_init 105 = .ok (.dup, 1) := by decide +kernel
theorem dX6_init_106 : decode cX6_init 106 = .ok (.bipush 15, 2) := by decide +kernel
theorem dX6_init_108 : decode cX6_init 108 = .ok (.invokespecial 58, 3) := by decide +kernel
theorem dX6_init_111 : decode cX6_init 111 = .ok (.putfield 65, 3) := by decide +kernel
theorem dX6_init_114 : decode cX6_init 114 = .ok (.iconst 0, 1) := by decide +kernel
theorem dX6_init_115 : decode cX6_init 115 = .ok (.istore_n 1, 1) := by decide +kernel
theorem dX6_init_116 : decode cX6_init 116 = .ok (.iload_n 1, 1) := by decide +kernel
theorem dX6_init_117 : decode cX6_init 117 = .ok (.iconst 2, 1) := by decide +kernel
theorem dX6_init_118 : decode cX6_init 118 = .ok (.if_icmp .ge 22, 3) := by decide +kernel
theorem dX6_init_121 : decode cX6_init 121 = .ok (.aload_n 0, 1) := by decide +kernel
theorem dX6_init_122 : decode cX6_init 122 = .ok (.getfield 49, 3) := by decide +kernel
theorem dX6_init_125 : decode cX6_init 125 = .ok (.iload_n 1, 1) := by decide +kernel
theorem dX6_init_126 : decode cX6_init 126 = .ok (.new 47, 3) := by decide +kernel
theorem dX6_init_129 : decode cX6_init 129 = .ok (.dup, 1) := by decide +kernel
theorem dX6_init_130 : decode cX6_init 130 = .ok (.invokespecial 68, 3) := by decide +kernel
theorem dX6_init_133 : decode cX6_init 133 = .ok (.aastore, 1) := by decide +kernel
theorem dX6_init_134 : decode cX6_init 134 = .ok (.iinc 1 1, 3) := by decide +kernel
theorem dX6_init_137 : decode cX6_init 137 = .ok (.goto (-21), 3) := by decide +kernel
theorem dX6_init_140 : decode cX6_init 140 = .ok (.return_, 1) := by decide +kernel
theorem dX6_feed_0 : decode cX6_feed 0 = .ok (.iload_n 1, 1) := by decide +kernel
theorem dX6_feed_1 : decode cX6_feed 1 = .ok (.ifCond .lt 10, 3) := by decide +kernel
theorem dX6_feed_4 : decode cX6_feed 4 = .ok (.iload_n 1, 1) := by decide +kernel
theorem dX6_feed_5 : decode cX6_feed 5 = .ok (.sipush 255, 3) := by decide +kernel
theorem dX6_feed_8 : decode cX6_feed 8 = .ok (.if_icmp .le 6, 3) := by decide +kernel
theorem dX6_feed_11 : decode cX6_feed 11 = .ok (.ldc 69, 2) := by decide +kernel
theorem dX6_feed_13 : decode cX6_feed 13 = .ok (.ireturn, 1) := by decide +kernel
theorem dX6_feed_14 : decode cX6_feed 14 = .ok (.aload_n 0, 1) := by decide +kernel
theorem dX6_feed_15 : decode cX6_feed 15 = .ok (.getfield 10, 3) := by decide +kernel
theorem dX6_feed_18 : decode cX6_feed 18 = .ok (.iload_n 1, 1) := by decide +kernel
theorem dX6_feed_19 : decode cX6_feed 19 = .ok (.invokevirtual 70, 3) := by decide +kernel
theorem dX6_feed_22 : decode cX6_feed 22 = .ok (.ifCond .eq 13, 3) := by decide +kernel
theorem dX6_feed_25 : decode cX6_feed 25 = .ok (.aload_n 0, 1) := by decide +kernel
theorem dX6_feed_26 : decode cX6_feed 26 = .ok (.getfield 10, 3) := by decide +kernel
theorem dX6_feed_29 : decode cX6_feed 29 = .ok (.getfield 74, 3) := by decide +kernel
theorem dX6_feed_32 : decode cX6_feed 32 = .ok (.goto 5, 3) := by decide +kernel
theorem dX6_feed_35 : decode cX6_feed 35 = .ok (.ldc 77, 2) := by decide +kernel
theorem dX6_feed_37 : decode cX6_feed 37 = .ok (.ireturn, 1) := by decide +kernel
theorem dX6_kitchen_0 : decode cX6_kitchen 0 = .ok (.aload_n 0, 1) := by decide +kernel
theorem dX6_kitchen_1 : decode cX6_kitchen 1 = .ok (.getfield 10, 3) := by decide +kernel
theorem dX6_kitchen_4 : decode cX6_kitchen 4 = .ok (.aload_n 0, 1) := by decide +kernel
theorem dX6_kitchen_5 : decode cX6_kitchen 5 = .ok (.getfield 27, 3) := by decide +kernel
theorem dX6_kitchen_8 : decode cX6_kitchen 8 = .ok (.invokevirtual 78, 3) := by decide +kernel
theorem dX6_kitchen_11 : decode cX6_kitchen 11 = .ok (.istore_n 1, 1) := by decide +kernel
theorem dX6_kitchen_12 : decode cX6_kitchen 12 = .ok (.aload_n 0, 1) := by decide +kernel
theorem dX6_kitchen_13 : decode cX6_kitchen 13 = .ok (.iload_n 1, 1) := by decide +kernel
theorem dX6_kitchen_14 : decode cX6_kitchen 14 = .ok (.ifCond .ne 7, 3) := by decide +kernel
theorem dX6_kitchen_17 : decode cX6_kitchen 17 = .ok (.iconst (-1), 1) := by decide +kernel
theorem dX6_kitchen_18 : decode cX6_kitchen 18 = .ok (.goto 10, 3) := by decide +kernel
theorem dX6_kitchen_21 : decode cX6_kitchen 21 = .ok (.aload_n 0, 1) := by decide +kernel
theorem dX6_kitchen_22 : decode cX6_kitchen 22 = .ok (.getfield 10, 3) := by decide +kernel
theorem dX6_kitchen_25 : decode cX6_kitchen 25 = .ok (.getfield 82, 3) := by decide +kernel
theorem dX6_kitchen_28 : decode cX6_kitchen 28 = .ok (.putfield 16, 3) := by decide +kernel
theorem dX6_kitchen_31 : decode cX6_kitchen 31 = .ok (.aload_n 0, 1) := by decide +kernel
theorem dX6_kitchen_32 : decode cX6_kitchen 32 = .ok (.getfield 10, 3) := by decide +kernel
theorem dX6_kitchen_35 : decode cX6_kitchen 35 = .ok (.invokevirtual 85, 3) := by decide +kernel
theorem dX6_kitchen_38 : decode cX6_kitchen 38 = .ok (.iload_n 1, 1) := by decide +kernel
theorem dX6_kitchen_39 : decode cX6_kitchen 39 = .ok (.ifCond .eq 8, 3) := by decide +kernel
theorem dX6_kitchen_42 : decode cX6_kitchen 42 = .ok (.bipush (-10), 2) := by decide +kernel
theorem dX6_kitchen_44 : decode cX6_kitchen 44 = .ok (.iload_n 1, 1) := by decide +kernel
theorem dX6_kitchen_45 : decode cX6_kitchen 45 = .ok (.isub, 1) := by decide +kernel
theorem dX6_kitchen_46 : decode cX6_kitchen 46 = .ok (.ireturn, 1) := by decide +kernel
theorem dX6_kitchen_47 : decode cX6_kitchen 47 = .ok (.aload_n 0, 1) := by decide +kernel
theorem dX6_kitchen_48 : decode cX6_kitchen 48 = .ok (.getfield 27, 3) := by decide +kernel
theorem dX6_kitchen_51 : decode cX6_kitchen 51 = .ok (.astore_n 2, 1) := by decide +kernel
theorem dX6_kitchen_52 : decode cX6_kitchen 52 = .ok (.aload_n 0, 1) := by decide +kernel
theorem dX6_kitchen_53 : decode cX6_kitchen 53 = .ok (.aload_n 0, 1) := by decide +kernel
theorem dX6_kitchen_54 : decode cX6_kitchen 54 = .ok (.getfield 23, 3) := by decide +kernel
theorem dX6_kitchen_57 : decode cX6_kitchen 57 = .ok (.putfield 27, 3) := by decide +kernel
theorem dX6_kitchen_60 : decode cX6_kitchen 60 = .ok (.aload_n 0, 1) := by decide +kernel
theorem dX6_kitchen_61 : decode cX6_kitchen 61 = .ok (.aload_n 2, 1) := by decide +kernel
theorem dX6_kitchen_62 : decode cX6_kitchen 62 = .ok (.putfield 23, 3) := by decide +kernel
theorem dX6_kitchen_65 : decode cX6_kitchen 65 = .ok (.aload_n 0, 1) := by decide +kernel
theorem dX6_kitchen_66 : decode cX6_kitchen 66 = .ok (.getfield 33, 3) := by decide +kernel
theorem dX6_kitchen_69 : decode cX6_kitchen 69 = .ok (.aload_n 0, 1) := by decide +kernel
theorem dX6_kitchen_70 : decode cX6_kitchen 70 = .ok (.getfield 23, 3) := by decide +kernel
theorem dX6_kitchen_73 : decode cX6_kitchen 73 = .ok (.invokevirtual 88, 3) := by decide +kernel
theorem dX6_kitchen_76 : decode cX6_kitchen 76 = .ok (.aload_n 0, 1) := by decide +kernel
theorem dX6_kitchen_77 : decode cX6_kitchen 77 = .ok (.getfield 43, 3) := by decide +kernel
theorem dX6_kitchen_80 : decode cX6_kitchen 80 = .ok (.invokevirtual 92, 3) := by decide +kernel
theorem dX6_kitchen_83 : decode cX6_kitchen 83 = .ok (.iconst 0, 1) := by decide +kernel
theorem dX6_kitchen_84 : decode cX6_kitchen 84 = .ok (.istore_n 3, 1) := by decide +kernel
theorem dX6_kitchen_85 : decode cX6_kitchen 85 = .ok (.iload_n 3, 1) := by decide +kernel
theorem dX6_kitchen_86 : decode cX6_kitchen 86 = .ok (.iconst 2, 1) := by decide +kernel
theorem dX6_kitchen_87 : decode cX6_kitchen 87 = .ok (.if_icmp .ge 19, 3) := by decide +kernel
theorem dX6_kitchen_90 : decode cX6_kitchen 90 = .ok (.aload_n 0, 1) := by decide +kernel
theorem dX6_kitchen_91 : decode cX6_kitchen 91 = .ok (.getfield 49, 3) := by decide +kernel
theorem dX6_kitchen_94 : decode cX6_kitchen 94 = .ok (.iload_n 3, 1) := by decide +kernel
theorem dX6_kitchen_95 : decode cX6_kitchen 95 = .ok (.aaload, 1) := by decide +kernel
theorem dX6_kitchen_96 : decode cX6_kitchen 96 = .ok (.iconst 0, 1) := by decide +kernel
theorem dX6_kitchen_97 : decode cX6_kitchen 97 = .ok (.putfield 95, 3) := by decide +kernel
theorem dX6_kitchen_100 : decode cX6_kitchen 100 = .ok (.iinc 3 1, 3) := by decide +kernel
theorem dX6_kitchen_103 : decode cX6_kitchen 103 = .ok (.goto (-18), 3) := by decide +kernel
theorem dX6_kitchen_106 : decode cX6_kitchen 106 = .ok (.aload_n 0, 1) := by decide +kernel
theorem dX6_kitchen_107 : decode cX6_kitchen 107 = .ok (.getfield 61, 3) := by decide +kernel
theorem dX6_kitchen_110 : decode cX6_kitchen 110 = .ok (.invokevirtual 99, 3) := by decide +kernel
theorem dX6_kitchen_113 : decode cX6_kitchen 113 = .ok (.aload_n 0, 1) := by decide +kernel
theorem dX6_kitchen_114 : decode cX6_kitchen 114 = .ok (.getfield 65, 3) := by decide +kernel
theorem dX6_kitchen_117 : decode cX6_kitchen 117 = .ok (.invokevirtual 99, 3) := by decide +kernel
theorem dX6_kitchen_120 : decode cX6_kitchen 120 = .ok (.aload_n 0, 1) := by decide +kernel
theorem dX6_kitchen_121 : decode cX6_kitchen 121 = .ok (.getfield 23, 3) := by decide +kernel
theorem dX6_kitchen_124 : decode cX6_kitchen 124 = .ok (.getfield 100, 3) := by decide +kernel
theorem dX6_kitchen_127 : decode cX6_kitchen 127 = .ok (.ireturn, 1) := by decide +kernel
theorem dX6_fault_0 : decode cX6_fault 0 = .ok (.aload_n 0, 1) := by decide +kernel
theorem dX6_fault_1 : decode cX6_fault 1 = .ok (.getfield 16, 3) := by decide +kernel
theorem dX6_fault_4 : decode cX6_fault 4 = .ok (.ireturn, 1) := by decide +kernel
theorem dX6_told_0 : decode cX6_told 0 = .ok (.iload_n 1, 1) := by decide +kernel
theorem dX6_told_1 : decode cX6_told 1 = .ok (.tableswitch 171 0 12 #[67, 75, 83, 91, 99, 107, 115, 123, 131, 139, 147, 155, 163], 67) := by decide +kernel
theorem dX6_told_68 : decode cX6_told 68 = .ok (.aload_n 0, 1) := by decide +kernel
theorem dX6_told_69 : decode cX6_told 69 = .ok (.getfield 23, 3) := by decide +kernel
theorem dX6_told_72 : decode cX6_told 72 = .ok (.getfield 103, 3) := by decide +kernel
theorem dX6_told_75 : decode cX6_told 75 = .ok (.ireturn, 1) := by decide +kernel
theorem dX6_told_76 : decode cX6_told 76 = .ok (.aload_n 0, 1) := by decide +kernel
theorem dX6_told_77 : decode cX6_told 77 = .ok (.getfield 23, 3) := by decide +kernel
theorem dX6_told_80 : decode cX6_told 80 = .ok (.getfield 106, 3) := by decide +kernel
theorem dX6_told_83 : decode cX6_told 83 = .ok (.ireturn, 1) := by decide +kernel
theorem dX6_told_84 : decode cX6_told 84 = .ok (.aload_n 0, 1) := by decide +kernel
theorem dX6_told_85 : decode cX6_told 85 = .ok (.getfield 23, 3) := by decide +kernel
theorem dX6_told_88 : decode cX6_told 88 = .ok (.getfield 109, 3) := by decide +kernel
theorem dX6_told_91 : decode cX6_told 91 = .ok (.ireturn, 1) := by decide +kernel
theorem dX6_told_92 : decode cX6_told 92 = .ok (.aload_n 0, 1) := by decide +kernel
theorem dX6_told_93 : decode cX6_told 93 = .ok (.getfield 23, 3) := by decide +kernel
theorem dX6_told_96 : decode cX6_told 96 = .ok (.getfield 100, 3) := by decide +kernel
theorem dX6_told_99 : decode cX6_told 99 = .ok (.ireturn, 1) := by decide +kernel
theorem dX6_told_100 : decode cX6_told 100 = .ok (.aload_n 0, 1) := by decide +kernel
theorem dX6_told_101 : decode cX6_told 101 = .ok (.getfield 23, 3) := by decide +kernel
theorem dX6_told_104 : decode cX6_told 104 = .ok (.getfield 112, 3) := by decide +kernel
theorem dX6_told_107 : decode cX6_told 107 = .ok (.ireturn, 1) := by decide +kernel
theorem dX6_told_108 : decode cX6_told 108 = .ok (.aload_n 0, 1) := by decide +kernel
theorem dX6_told_109 : decode cX6_told 109 = .ok (.getfield 10, 3) := by decide +kernel
theorem dX6_told_112 : decode cX6_told 112 = .ok (.getfield 74, 3) := by decide +kernel
theorem dX6_told_115 : decode cX6_told 115 = .ok (.ireturn, 1) := by decide +kernel
theorem dX6_told_116 : decode cX6_told 116 = .ok (.aload_n 0, 1) := by decide +kernel
theorem dX6_told_117 : decode cX6_told 117 = .ok (.getfield 33, 3) := by decide +kernel
theorem dX6_told_120 : decode cX6_told 120 = .ok (.getfield 115, 3) := by decide +kernel
theorem dX6_told_123 : decode cX6_told 123 = .ok (.ireturn, 1) := by decide +kernel
theorem dX6_told_124 : decode cX6_told 124 = .ok (.aload_n 0, 1) := by decide +kernel
theorem dX6_told_125 : decode cX6_told 125 = .ok (.getfield 33, 3) := by decide +kernel
theorem dX6_told_128 : decode cX6_told 128 = .ok (.getfield 118, 3) := by decide +kernel
theorem dX6_told_131 : decode cX6_told 131 = .ok (.ireturn, 1) := by decide +kernel
theorem dX6_told_132 : decode cX6_told 132 = .ok (.aload_n 0, 1) := by decide +kernel
theorem dX6_told_133 : decode cX6_told 133 = .ok (.getfield 33, 3) := by decide +kernel
theorem dX6_told_136 : decode cX6_told 136 = .ok (.getfield 121, 3) := by decide +kernel
theorem dX6_told_139 : decode cX6_told 139 = .ok (.ireturn, 1) := by decide +kernel
theorem dX6_told_140 : decode cX6_told 140 = .ok (.aload_n 0, 1) := by decide +kernel
theorem dX6_told_141 : decode cX6_told 141 = .ok (.getfield 33, 3) := by decide +kernel
theorem dX6_told_144 : decode cX6_told 144 = .ok (.invokevirtual 123, 3) := by decide +kernel
theorem dX6_told_147 : decode cX6_told 147 = .ok (.ireturn, 1) := by decide +kernel
theorem dX6_told_148 : decode cX6_told 148 = .ok (.aload_n 0, 1) := by decide +kernel
theorem dX6_told_149 : decode cX6_told 149 = .ok (.getfield 61, 3) := by decide +kernel
theorem dX6_told_152 : decode cX6_told 152 = .ok (.getfield 127, 3) := by decide +kernel
theorem dX6_told_155 : decode cX6_told 155 = .ok (.ireturn, 1) := by decide +kernel
theorem dX6_told_156 : decode cX6_told 156 = .ok (.aload_n 0, 1) := by decide +kernel
theorem dX6_told_157 : decode cX6_told 157 = .ok (.getfield 65, 3) := by decide +kernel
theorem dX6_told_160 : decode cX6_told 160 = .ok (.getfield 127, 3) := by decide +kernel
theorem dX6_told_163 : decode cX6_told 163 = .ok (.ireturn, 1) := by decide +kernel
theorem dX6_told_164 : decode cX6_told 164 = .ok (.aload_n 0, 1) := by decide +kernel
theorem dX6_told_165 : decode cX6_told 165 = .ok (.getfield 43, 3) := by decide +kernel
theorem dX6_told_168 : decode cX6_told 168 = .ok (.getfield 130, 3) := by decide +kernel
theorem dX6_told_171 : decode cX6_told 171 = .ok (.ireturn, 1) := by decide +kernel
theorem dX6_told_172 : decode cX6_told 172 = .ok (.ldc 69, 2) := by decide +kernel
theorem dX6_told_174 : decode cX6_told 174 = .ok (.ireturn, 1) := by decide +kernel
theorem dX6_word_0 : decode cX6_word 0 = .ok (.aload_n 0, 1) := by decide +kernel
theorem dX6_word_1 : decode cX6_word 1 = .ok (.iload_n 1, 1) := by decide +kernel
theorem dX6_word_2 : decode cX6_word 2 = .ok (.invokevirtual 131, 3) := by decide +kernel
theorem dX6_word_5 : decode cX6_word 5 = .ok (.ifCond .ne 6, 3) := by decide +kernel
theorem dX6_word_8 : decode cX6_word 8 = .ok (.ldc 134, 2) := by decide +kernel
theorem dX6_word_10 : decode cX6_word 10 = .ok (.ireturn, 1) := by decide +kernel
theorem dX6_word_11 : decode cX6_word 11 = .ok (.iload_n 2, 1) := by decide +kernel
theorem dX6_word_12 : decode cX6_word 12 = .ok (.tableswitch 72 0 3 #[32, 42, 52, 62], 32) := by decide +kernel
theorem dX6_word_44 : decode cX6_word 44 = .ok (.aload_n 0, 1) := by decide +kernel
theorem dX6_word_45 : decode cX6_word 45 = .ok (.getfield 33, 3) := by decide +kernel
theorem dX6_word_48 : decode cX6_word 48 = .ok (.getfield 135, 3) := by decide +kernel
theorem dX6_word_51 : decode cX6_word 51 = .ok (.iload_n 1, 1) := by decide +kernel
theorem dX6_word_52 : decode cX6_word 52 = .ok (.iaload, 1) := by decide +kernel
theorem dX6_word_53 : decode cX6_word 53 = .ok (.ireturn, 1) := by decide +kernel
theorem dX6_word_54 : decode cX6_word 54 = .ok (.aload_n 0, 1) := by decide +kernel
theorem dX6_word_55 : decode cX6_word 55 = .ok (.getfield 33, 3) := by decide +kernel
theorem dX6_word_58 : decode cX6_word 58 = .ok (.getfield 139, 3) := by decide +kernel
theorem dX6_word_61 : decode cX6_word 61 = .ok (.iload_n 1, 1) := by decide +kernel
theorem dX6_word_62 : decode cX6_word 62 = .ok (.iaload, 1) := by decide +kernel
theorem dX6_word_63 : decode cX6_word 63 = .ok (.ireturn, 1) := by decide +kernel
theorem dX6_word_64 : decode cX6_word 64 = .ok (.aload_n 0, 1) := by decide +kernel
theorem dX6_word_65 : decode cX6_word 65 = .ok (.getfield 23, 3) := by decide +kernel
theorem dX6_word_68 : decode cX6_word 68 = .ok (.getfield 142, 3) := by decide +kernel
theorem dX6_word_71 : decode cX6_word 71 = .ok (.iload_n 1, 1) := by decide +kernel
theorem dX6_word_72 : decode cX6_word 72 = .ok (.iaload, 1) := by decide +kernel
theorem dX6_word_73 : decode cX6_word 73 = .ok (.ireturn, 1) := by decide +kernel
theorem dX6_word_74 : decode cX6_word 74 = .ok (.aload_n 0, 1) := by decide +kernel
theorem dX6_word_75 : decode cX6_word 75 = .ok (.getfield 33, 3) := by decide +kernel
theorem dX6_word_78 : decode cX6_word 78 = .ok (.getfield 145, 3) := by decide +kernel
theorem dX6_word_81 : decode cX6_word 81 = .ok (.iload_n 1, 1) := by decide +kernel
theorem dX6_word_82 : decode cX6_word 82 = .ok (.iaload, 1) := by decide +kernel
theorem dX6_word_83 : decode cX6_word 83 = .ok (.ireturn, 1) := by decide +kernel
theorem dX6_word_84 : decode cX6_word 84 = .ok (.ldc 69, 2) := by decide +kernel
theorem dX6_word_86 : decode cX6_word 86 = .ok (.ireturn, 1) := by decide +kernel
theorem dX6_voice_0 : decode cX6_voice 0 = .ok (.aload_n 0, 1) := by decide +kernel
theorem dX6_voice_1 : decode cX6_voice 1 = .ok (.iload_n 1, 1) := by decide +kernel
theorem dX6_voice_2 : decode cX6_voice 2 = .ok (.invokevirtual 148, 3) := by decide +kernel
theorem dX6_voice_5 : decode cX6_voice 5 = .ok (.ifCond .eq 15, 3) := by decide +kernel
theorem dX6_voice_8 : decode cX6_voice 8 = .ok (.aload_n 0, 1) := by decide +kernel
theorem dX6_voice_9 : decode cX6_voice 9 = .ok (.getfield 23, 3) := by decide +kernel
theorem dX6_voice_12 : decode cX6_voice 12 = .ok (.getfield 151, 3) := by decide +kernel
theorem dX6_voice_15 : decode cX6_voice 15 = .ok (.iload_n 1, 1) := by decide +kernel
theorem dX6_voice_16 : decode cX6_voice 16 = .ok (.iaload, 1) := by decide +kernel
theorem dX6_voice_17 : decode cX6_voice 17 = .ok (.goto 5, 3) := by decide +kernel
theorem dX6_voice_20 : decode cX6_voice 20 = .ok (.ldc 134, 2) := by decide +kernel
theorem dX6_voice_22 : decode cX6_voice 22 = .ok (.ireturn, 1) := by decide +kernel
theorem dX6_hear_0 : decode cX6_hear 0 = .ok (.iload_n 1, 1) := by decide +kernel
theorem dX6_hear_1 : decode cX6_hear 1 = .ok (.invokestatic 154, 3) := by decide +kernel
theorem dX6_hear_4 : decode cX6_hear 4 = .ok (.ifCond .ne 6, 3) := by decide +kernel
theorem dX6_hear_7 : decode cX6_hear 7 = .ok (.ldc 69, 2) := by decide +kernel
theorem dX6_hear_9 : decode cX6_hear 9 = .ok (.ireturn, 1) := by decide +kernel
theorem dX6_hear_10 : decode cX6_hear 10 = .ok (.aload_n 0, 1) := by decide +kernel
theorem dX6_hear_11 : decode cX6_hear 11 = .ok (.getfield 23, 3) := by decide +kernel
theorem dX6_hear_14 : decode cX6_hear 14 = .ok (.getfield 100, 3) := by decide +kernel
theorem dX6_hear_17 : decode cX6_hear 17 = .ok (.ifCond .ne 6, 3) := by decide +kernel
theorem dX6_hear_20 : decode cX6_hear 20 = .ok (.ldc 157, 2) := by decide +kernel
theorem dX6_hear_22 : decode cX6_hear 22 = .ok (.ireturn, 1) := by decide +kernel
theorem dX6_hear_23 : decode cX6_hear 23 = .ok (.aload_n 0, 1) := by decide +kernel
theorem dX6_hear_24 : decode cX6_hear 24 = .ok (.getfield 33, 3) := by decide +kernel
theorem dX6_hear_27 : decode cX6_hear 27 = .ok (.getfield 115, 3) := by decide +kernel
theorem dX6_hear_30 : decode cX6_hear 30 = .ok (.sipush 9000, 3) := by decide +kernel
theorem dX6_hear_33 : decode cX6_hear 33 = .ok (.if_icmp .le 6, 3) := by decide +kernel
theorem dX6_hear_36 : decode cX6_hear 36 = .ok (.ldc 77, 2) := by decide +kernel
theorem dX6_hear_38 : decode cX6_hear 38 = .ok (.ireturn, 1) := by decide +kernel
theorem dX6_hear_39 : decode cX6_hear 39 = .ok (.aload_n 0, 1) := by decide +kernel
theorem dX6_hear_40 : decode cX6_hear 40 = .ok (.getfield 43, 3) := by decide +kernel
theorem dX6_hear_43 : decode cX6_hear 43 = .ok (.aload_n 0, 1) := by decide +kernel
theorem dX6_hear_44 : decode cX6_hear 44 = .ok (.getfield 33, 3) := by decide +kernel
theorem dX6_hear_47 : decode cX6_hear 47 = .ok (.invokevirtual 158, 3) := by decide +kernel
theorem dX6_hear_50 : decode cX6_hear 50 = .ok (.aload_n 0, 1) := by decide +kernel
theorem dX6_hear_51 : decode cX6_hear 51 = .ok (.iload_n 1, 1) := by decide +kernel
theorem dX6_hear_52 : decode cX6_hear 52 = .ok (.invokevirtual 162, 3) := by decide +kernel
theorem dX6_hear_55 : decode cX6_hear 55 = .ok (.ireturn, 1) := by decide +kernel
theorem dX6_takeBack_0 : decode cX6_takeBack 0 = .ok (.aload_n 0, 1) := by decide +kernel
theorem dX6_takeBack_1 : decode cX6_takeBack 1 = .ok (.iload_n 1, 1) := by decide +kernel
theorem dX6_takeBack_2 : decode cX6_takeBack 2 = .ok (.invokevirtual 131, 3) := by decide +kernel
theorem dX6_takeBack_5 : decode cX6_takeBack 5 = .ok (.ifCond .ne 6, 3) := by decide +kernel
theorem dX6_takeBack_8 : decode cX6_takeBack 8 = .ok (.ldc 134, 2) := by decide +kernel
theorem dX6_takeBack_10 : decode cX6_takeBack 10 = .ok (.ireturn, 1) := by decide +kernel
theorem dX6_takeBack_11 : decode cX6_takeBack 11 = .ok (.aload_n 0, 1) := by decide +kernel
theorem dX6_takeBack_12 : decode cX6_takeBack 12 = .ok (.getfield 33, 3) := by decide +kernel
theorem dX6_takeBack_15 : decode cX6_takeBack 15 = .ok (.getfield 121, 3) := by decide +kernel
theorem dX6_takeBack_18 : decode cX6_takeBack 18 = .ok (.iconst (-1), 1) := by decide +kernel
theorem dX6_takeBack_19 : decode cX6_takeBack 19 = .ok (.if_icmp .eq 14, 3) := by decide +kernel
theorem dX6_takeBack_22 : decode cX6_takeBack 22 = .ok (.aload_n 0, 1) := by decide +kernel
theorem dX6_takeBack_23 : decode cX6_takeBack 23 = .ok (.getfield 33, 3) := by decide +kernel
theorem dX6_takeBack_26 : decode cX6_takeBack 26 = .ok (.getfield 121, 3) := by decide +kernel
theorem dX6_takeBack_29 : decode cX6_takeBack 29 = .ok (.iload_n 1, 1) := by decide +kernel
theorem dX6_takeBack_30 : decode cX6_takeBack 30 = .ok (.if_icmp .ne 6, 3) := by decide +kernel
theorem dX6_takeBack_33 : decode cX6_takeBack 33 = .ok (.ldc 157, 2) := by decide +kernel
theorem dX6_takeBack_35 : decode cX6_takeBack 35 = .ok (.ireturn, 1) := by decide +kernel
theorem dX6_takeBack_36 : decode cX6_takeBack 36 = .ok (.aload_n 0, 1) := by decide +kernel
theorem dX6_takeBack_37 : decode cX6_takeBack 37 = .ok (.getfield 43, 3) := by decide +kernel
theorem dX6_takeBack_40 : decode cX6_takeBack 40 = .ok (.aload_n 0, 1) := by decide +kernel
theorem dX6_takeBack_41 : decode cX6_takeBack 41 = .ok (.getfield 33, 3) := by decide +kernel
theorem dX6_takeBack_44 : decode cX6_takeBack 44 = .ok (.invokevirtual 158, 3) := by decide +kernel
theorem dX6_takeBack_47 : decode cX6_takeBack 47 = .ok (.aload_n 0, 1) := by decide +kernel
theorem dX6_takeBack_48 : decode cX6_takeBack 48 = .ok (.getfield 33, 3) := by decide +kernel
theorem dX6_takeBack_51 : decode cX6_takeBack 51 = .ok (.iload_n 1, 1) := by decide +kernel
theorem dX6_takeBack_52 : decode cX6_takeBack 52 = .ok (.invokevirtual 166, 3) := by decide +kernel
theorem dX6_takeBack_55 : decode cX6_takeBack 55 = .ok (.aload_n 0, 1) := by decide +kernel
theorem dX6_takeBack_56 : decode cX6_takeBack 56 = .ok (.getfield 33, 3) := by decide +kernel
theorem dX6_takeBack_59 : decode cX6_takeBack 59 = .ok (.getfield 139, 3) := by decide +kernel
theorem dX6_takeBack_62 : decode cX6_takeBack 62 = .ok (.iload_n 1, 1) := by decide +kernel
theorem dX6_takeBack_63 : decode cX6_takeBack 63 = .ok (.iaload, 1) := by decide +kernel
theorem dX6_takeBack_64 : decode cX6_takeBack 64 = .ok (.ireturn, 1) := by decide +kernel
theorem dX6_letBe_0 : decode cX6_letBe 0 = .ok (.aload_n 0, 1) := by decide +kernel
theorem dX6_letBe_1 : decode cX6_letBe 1 = .ok (.getfield 33, 3) := by decide +kernel
theorem dX6_letBe_4 : decode cX6_letBe 4 = .ok (.getfield 121, 3) := by decide +kernel
theorem dX6_letBe_7 : decode cX6_letBe 7 = .ok (.istore_n 1, 1) := by decide +kernel
theorem dX6_letBe_8 : decode cX6_letBe 8 = .ok (.aload_n 0, 1) := by decide +kernel
theorem dX6_letBe_9 : decode cX6_letBe 9 = .ok (.iload_n 1, 1) := by decide +kernel
theorem dX6_letBe_10 : decode cX6_letBe 10 = .ok (.invokevirtual 131, 3) := by decide +kernel
theorem dX6_letBe_13 : decode cX6_letBe 13 = .ok (.ifCond .ne 6, 3) := by decide +kernel
theorem dX6_letBe_16 : decode cX6_letBe 16 = .ok (.ldc 157, 2) := by decide +kernel
theorem dX6_letBe_18 : decode cX6_letBe 18 = .ok (.ireturn, 1) := by decide +kernel
theorem dX6_letBe_19 : decode cX6_letBe 19 = .ok (.aload_n 0, 1) := by decide +kernel
theorem dX6_letBe_20 : decode cX6_letBe 20 = .ok (.getfield 43, 3) := by decide +kernel
theorem dX6_letBe_23 : decode cX6_letBe 23 = .ok (.aload_n 0, 1) := by decide +kernel
theorem dX6_letBe_24 : decode cX6_letBe 24 = .ok (.getfield 33, 3) := by decide +kernel
theorem dX6_letBe_27 : decode cX6_letBe 27 = .ok (.invokevirtual 158, 3) := by decide +kernel
theorem dX6_letBe_30 : decode cX6_letBe 30 = .ok (.aload_n 0, 1) := by decide +kernel
theorem dX6_letBe_31 : decode cX6_letBe 31 = .ok (.getfield 33, 3) := by decide +kernel
theorem dX6_letBe_34 : decode cX6_letBe 34 = .ok (.invokevirtual 169, 3) := by decide +kernel
theorem dX6_letBe_37 : decode cX6_letBe 37 = .ok (.aload_n 0, 1) := by decide +kernel
theorem dX6_letBe_38 : decode cX6_letBe 38 = .ok (.getfield 33, 3) := by decide +kernel
theorem dX6_letBe_41 : decode cX6_letBe 41 = .ok (.getfield 139, 3) := by decide +kernel
theorem dX6_letBe_44 : decode cX6_letBe 44 = .ok (.iload_n 1, 1) := by decide +kernel
theorem dX6_letBe_45 : decode cX6_letBe 45 = .ok (.iaload, 1) := by decide +kernel
theorem dX6_letBe_46 : decode cX6_letBe 46 = .ok (.ireturn, 1) := by decide +kernel
theorem dX6_call_0 : decode cX6_call 0 = .ok (.aload_n 0, 1) := by decide +kernel
theorem dX6_call_1 : decode cX6_call 1 = .ok (.iload_n 1, 1) := by decide +kernel
theorem dX6_call_2 : decode cX6_call 2 = .ok (.invokevirtual 131, 3) := by decide +kernel
theorem dX6_call_5 : decode cX6_call 5 = .ok (.ifCond .ne 6, 3) := by decide +kernel
theorem dX6_call_8 : decode cX6_call 8 = .ok (.ldc 134, 2) := by decide +kernel
theorem dX6_call_10 : decode cX6_call 10 = .ok (.ireturn, 1) := by decide +kernel
theorem dX6_call_11 : decode cX6_call 11 = .ok (.iload_n 2, 1) := by decide +kernel
theorem dX6_call_12 : decode cX6_call 12 = .ok (.invokestatic 154, 3) := by decide +kernel
theorem dX6_call_15 : decode cX6_call 15 = .ok (.ifCond .ne 6, 3) := by decide +kernel
theorem dX6_call_18 : decode cX6_call 18 = .ok (.ldc 69, 2) := by decide +kernel
theorem dX6_call_20 : decode cX6_call 20 = .ok (.ireturn, 1) := by decide +kernel
theorem dX6_call_21 : decode cX6_call 21 = .ok (.aload_n 0, 1) := by decide +kernel
theorem dX6_call_22 : decode cX6_call 22 = .ok (.getfield 43, 3) := by decide +kernel
theorem dX6_call_25 : decode cX6_call 25 = .ok (.aload_n 0, 1) := by decide +kernel
theorem dX6_call_26 : decode cX6_call 26 = .ok (.getfield 33, 3) := by decide +kernel
theorem dX6_call_29 : decode cX6_call 29 = .ok (.invokevirtual 158, 3) := by decide +kernel
theorem dX6_call_32 : decode cX6_call 32 = .ok (.aload_n 0, 1) := by decide +kernel
theorem dX6_call_33 : decode cX6_call 33 = .ok (.getfield 33, 3) := by decide +kernel
theorem dX6_call_36 : decode cX6_call 36 = .ok (.getfield 135, 3) := by decide +kernel
theorem dX6_call_39 : decode cX6_call 39 = .ok (.iload_n 1, 1) := by decide +kernel
theorem dX6_call_40 : decode cX6_call 40 = .ok (.iaload, 1) := by decide +kernel
theorem dX6_call_41 : decode cX6_call 41 = .ok (.iload_n 2, 1) := by decide +kernel
theorem dX6_call_42 : decode cX6_call 42 = .ok (.invokestatic 172, 3) := by decide +kernel
theorem dX6_call_45 : decode cX6_call 45 = .ok (.istore_n 3, 1) := by decide +kernel
theorem dX6_call_46 : decode cX6_call 46 = .ok (.aload_n 0, 1) := by decide +kernel
theorem dX6_call_47 : decode cX6_call 47 = .ok (.getfield 33, 3) := by decide +kernel
theorem dX6_call_50 : decode cX6_call 50 = .ok (.getfield 135, 3) := by decide +kernel
theorem dX6_call_53 : decode cX6_call 53 = .ok (.iload_n 1, 1) := by decide +kernel
theorem dX6_call_54 : decode cX6_call 54 = .ok (.iload_n 2, 1) := by decide +kernel
theorem dX6_call_55 : decode cX6_call 55 = .ok (.iastore, 1) := by decide +kernel
theorem dX6_call_56 : decode cX6_call 56 = .ok (.iload_n 3, 1) := by decide +kernel
theorem dX6_call_57 : decode cX6_call 57 = .ok (.ireturn, 1) := by decide +kernel
theorem dX6_drift_0 : decode cX6_drift 0 = .ok (.iload_n 1, 1) := by decide +kernel
theorem dX6_drift_1 : decode cX6_drift 1 = .ok (.iconst 1, 1) := by decide +kernel
theorem dX6_drift_2 : decode cX6_drift 2 = .ok (.if_icmp .lt 9, 3) := by decide +kernel
theorem dX6_drift_5 : decode cX6_drift 5 = .ok (.iload_n 1, 1) := by decide +kernel
theorem dX6_drift_6 : decode cX6_drift 6 = .ok (.bipush 60, 2) := by decide +kernel
theorem dX6_drift_8 : decode cX6_drift 8 = .ok (.if_icmp .le 6, 3) := by decide +kernel
theorem dX6_drift_11 : decode cX6_drift 11 = .ok (.ldc 69, 2) := by decide +kernel
theorem dX6_drift_13 : decode cX6_drift 13 = .ok (.ireturn, 1) := by decide +kernel
theorem dX6_drift_14 : decode cX6_drift 14 = .ok (.aload_n 0, 1) := by decide +kernel
theorem dX6_drift_15 : decode cX6_drift 15 = .ok (.getfield 23, 3) := by decide +kernel
theorem dX6_drift_18 : decode cX6_drift 18 = .ok (.getfield 176, 3) := by decide +kernel
theorem dX6_drift_21 : decode cX6_drift 21 = .ok (.ifCond .ne 6, 3) := by decide +kernel
theorem dX6_drift_24 : decode cX6_drift 24 = .ok (.ldc 157, 2) := by decide +kernel
theorem dX6_drift_26 : decode cX6_drift 26 = .ok (.ireturn, 1) := by decide +kernel
theorem dX6_drift_27 : decode cX6_drift 27 = .ok (.aload_n 0, 1) := by decide +kernel
theorem dX6_drift_28 : decode cX6_drift 28 = .ok (.getfield 33, 3) := by decide +kernel
theorem dX6_drift_31 : decode cX6_drift 31 = .ok (.getfield 115, 3) := by decide +kernel
theorem dX6_drift_34 : decode cX6_drift 34 = .ok (.sipush 9000, 3) := by decide +kernel
theorem dX6_drift_37 : decode cX6_drift 37 = .ok (.if_icmp .le 6, 3) := by decide +kernel
theorem dX6_drift_40 : decode cX6_drift 40 = .ok (.ldc 77, 2) := by decide +kernel
theorem dX6_drift_42 : decode cX6_drift 42 = .ok (.ireturn, 1) := by decide +kernel
theorem dX6_drift_43 : decode cX6_drift 43 = .ok (.aload_n 0, 1) := by decide +kernel
theorem dX6_drift_44 : decode cX6_drift 44 = .ok (.getfield 43, 3) := by decide +kernel
theorem dX6_drift_47 : decode cX6_drift 47 = .ok (.aload_n 0, 1) := by decide +kernel
theorem dX6_drift_48 : decode cX6_drift 48 = .ok (.getfield 33, 3) := by decide +kernel
theorem dX6_drift_51 : decode cX6_drift 51 = .ok (.invokevirtual 158, 3) := by decide +kernel
theorem dX6_drift_54 : decode cX6_drift 54 = .ok (.aload_n 0, 1) := by decide +kernel
theorem dX6_drift_55 : decode cX6_drift 55 = .ok (.getfield 23, 3) := by decide +kernel
theorem dX6_drift_58 : decode cX6_drift 58 = .ok (.getfield 100, 3) := by decide +kernel
theorem dX6_drift_61 : decode cX6_drift 61 = .ok (.ifCond .le 85, 3) := by decide +kernel
theorem dX6_drift_64 : decode cX6_drift 64 = .ok (.aload_n 0, 1) := by decide +kernel
theorem dX6_drift_65 : decode cX6_drift 65 = .ok (.getfield 23, 3) := by decide +kernel
theorem dX6_drift_68 : decode cX6_drift 68 = .ok (.getfield 112, 3) := by decide +kernel
theorem dX6_drift_71 : decode cX6_drift 71 = .ok (.ifCond .le 75, 3) := by decide +kernel
theorem dX6_drift_74 : decode cX6_drift 74 = .ok (.iconst 0, 1) := by decide +kernel
theorem dX6_drift_75 : decode cX6_drift 75 = .ok (.istore_n 2, 1) := by decide +kernel
theorem dX6_drift_76 : decode cX6_drift 76 = .ok (.iload_n 2, 1) := by decide +kernel
theorem dX6_drift_77 : decode cX6_drift 77 = .ok (.iload_n 1, 1) := by decide +kernel
theorem dX6_drift_78 : decode cX6_drift 78 = .ok (.if_icmp .ge 68, 3) := by decide +kernel
theorem dX6_drift_81 : decode cX6_drift 81 = .ok (.aload_n 0, 1) := by decide +kernel
theorem dX6_drift_82 : decode cX6_drift 82 = .ok (.aload_n 0, 1) := by decide +kernel
theorem dX6_drift_83 : decode cX6_drift 83 = .ok (.getfield 23, 3) := by decide +kernel
theorem dX6_drift_86 : decode cX6_drift 86 = .ok (.getfield 112, 3) := by decide +kernel
theorem dX6_drift_89 : decode cX6_drift 89 = .ok (.invokevirtual 179, 3) := by decide +kernel
theorem dX6_drift_92 : decode cX6_drift 92 = .ok (.istore_n 3, 1) := by decide +kernel
theorem dX6_drift_93 : decode cX6_drift 93 = .ok (.aload_n 0, 1) := by decide +kernel
theorem dX6_drift_94 : decode cX6_drift 94 = .ok (.aload_n 0, 1) := by decide +kernel
theorem dX6_drift_95 : decode cX6_drift 95 = .ok (.getfield 23, 3) := by decide +kernel
theorem dX6_drift_98 : decode cX6_drift 98 = .ok (.getfield 100, 3) := by decide +kernel
theorem dX6_drift_101 : decode cX6_drift 101 = .ok (.invokevirtual 179, 3) := by decide +kernel
theorem dX6_drift_104 : decode cX6_drift 104 = .ok (.istore 4, 2) := by decide +kernel
theorem dX6_drift_106 : decode cX6_drift 106 = .ok (.aload_n 0, 1) := by decide +kernel
theorem dX6_drift_107 : decode cX6_drift 107 = .ok (.aload_n 0, 1) := by decide +kernel
theorem dX6_drift_108 : decode cX6_drift 108 = .ok (.iload 4, 2) := by decide +kernel
theorem dX6_drift_110 : decode cX6_drift 110 = .ok (.iload_n 3, 1) := by decide +kernel
theorem dX6_drift_111 : decode cX6_drift 111 = .ok (.invokevirtual 182, 3) := by decide +kernel
theorem dX6_drift_114 : decode cX6_drift 114 = .ok (.invokevirtual 162, 3) := by decide +kernel
theorem dX6_drift_117 : decode cX6_drift 117 = .ok (.pop, 1) := by decide +kernel
theorem dX6_drift_118 : decode cX6_drift 118 = .ok (.aload_n 0, 1) := by decide +kernel
theorem dX6_drift_119 : decode cX6_drift 119 = .ok (.getfield 33, 3) := by decide +kernel
theorem dX6_drift_122 : decode cX6_drift 122 = .ok (.iload 4, 2) := by decide +kernel
theorem dX6_drift_124 : decode cX6_drift 124 = .ok (.aload_n 0, 1) := by decide +kernel
theorem dX6_drift_125 : decode cX6_drift 125 = .ok (.iconst 3, 1) := by decide +kernel
theorem dX6_drift_126 : decode cX6_drift 126 = .ok (.invokevirtual 179, 3) := by decide +kernel
theorem dX6_drift_129 : decode cX6_drift 129 = .ok (.ifCond .ne 7, 3) := by decide +kernel
theorem dX6_drift_132 : decode cX6_drift 132 = .ok (.iconst 1, 1) := by decide +kernel
theorem dX6_drift_133 : decode cX6_drift 133 = .ok (.goto 4, 3) := by decide +kernel
theorem dX6_drift_136 : decode cX6_drift 136 = .ok (.iconst 0, 1) := by decide +kernel
theorem dX6_drift_137 : decode cX6_drift 137 = .ok (.invokevirtual 185, 3) := by decide +kernel
theorem dX6_drift_140 : decode cX6_drift 140 = .ok (.iinc 2 1, 3) := by decide +kernel
theorem dX6_drift_143 : decode cX6_drift 143 = .ok (.goto (-67), 3) := by decide +kernel
theorem dX6_drift_146 : decode cX6_drift 146 = .ok (.aload_n 0, 1) := by decide +kernel
theorem dX6_drift_147 : decode cX6_drift 147 = .ok (.getfield 33, 3) := by decide +kernel
theorem dX6_drift_150 : decode cX6_drift 150 = .ok (.getfield 118, 3) := by decide +kernel
theorem dX6_drift_153 : decode cX6_drift 153 = .ok (.ireturn, 1) := by decide +kernel
theorem dX6_undo_0 : decode cX6_undo 0 = .ok (.aload_n 0, 1) := by decide +kernel
theorem dX6_undo_1 : decode cX6_undo 1 = .ok (.getfield 43, 3) := by decide +kernel
theorem dX6_undo_4 : decode cX6_undo 4 = .ok (.aload_n 0, 1) := by decide +kernel
theorem dX6_undo_5 : decode cX6_undo 5 = .ok (.getfield 33, 3) := by decide +kernel
theorem dX6_undo_8 : decode cX6_undo 8 = .ok (.invokevirtual 189, 3) := by decide +kernel
theorem dX6_undo_11 : decode cX6_undo 11 = .ok (.ifCond .eq 13, 3) := by decide +kernel
theorem dX6_undo_14 : decode cX6_undo 14 = .ok (.aload_n 0, 1) := by decide +kernel
theorem dX6_undo_15 : decode cX6_undo 15 = .ok (.getfield 43, 3) := by decide +kernel
theorem dX6_undo_18 : decode cX6_undo 18 = .ok (.getfield 130, 3) := by decide +kernel
theorem dX6_undo_21 : decode cX6_undo 21 = .ok (.goto 5, 3) := by decide +kernel
theorem dX6_undo_24 : decode cX6_undo 24 = .ok (.ldc 157, 2) := by decide +kernel
theorem dX6_undo_26 : decode cX6_undo 26 = .ok (.ireturn, 1) := by decide +kernel
theorem dX6_guess_0 : decode cX6_guess 0 = .ok (.iload_n 1, 1) := by decide +kernel
theorem dX6_guess_1 : decode cX6_guess 1 = .ok (.invokestatic 154, 3) := by decide +kernel
theorem dX6_guess_4 : decode cX6_guess 4 = .ok (.ifCond .eq 14, 3) := by decide +kernel
theorem dX6_guess_7 : decode cX6_guess 7 = .ok (.aload_n 0, 1) := by decide +kernel
theorem dX6_guess_8 : decode cX6_guess 8 = .ok (.getfield 33, 3) := by decide +kernel
theorem dX6_guess_11 : decode cX6_guess 11 = .ok (.iload_n 1, 1) := by decide +kernel
theorem dX6_guess_12 : decode cX6_guess 12 = .ok (.invokevirtual 193, 3) := by decide +kernel
theorem dX6_guess_15 : decode cX6_guess 15 = .ok (.goto 5, 3) := by decide +kernel
theorem dX6_guess_18 : decode cX6_guess 18 = .ok (.ldc 69, 2) := by decide +kernel
theorem dX6_guess_20 : decode cX6_guess 20 = .ok (.ireturn, 1) := by decide +kernel
theorem dX6_sure_0 : decode cX6_sure 0 = .ok (.aload_n 0, 1) := by decide +kernel
theorem dX6_sure_1 : decode cX6_sure 1 = .ok (.iload_n 1, 1) := by decide +kernel
theorem dX6_sure_2 : decode cX6_sure 2 = .ok (.invokevirtual 131, 3) := by decide +kernel
theorem dX6_sure_5 : decode cX6_sure 5 = .ok (.ifCond .ne 6, 3) := by decide +kernel
theorem dX6_sure_8 : decode cX6_sure 8 = .ok (.ldc 134, 2) := by decide +kernel
theorem dX6_sure_10 : decode cX6_sure 10 = .ok (.ireturn, 1) := by decide +kernel
theorem dX6_sure_11 : decode cX6_sure 11 = .ok (.iload_n 2, 1) := by decide +kernel
theorem dX6_sure_12 : decode cX6_sure 12 = .ok (.invokestatic 154, 3) := by decide +kernel
theorem dX6_sure_15 : decode cX6_sure 15 = .ok (.ifCond .eq 15, 3) := by decide +kernel
theorem dX6_sure_18 : decode cX6_sure 18 = .ok (.aload_n 0, 1) := by decide +kernel
theorem dX6_sure_19 : decode cX6_sure 19 = .ok (.getfield 33, 3) := by decide +kernel
theorem dX6_sure_22 : decode cX6_sure 22 = .ok (.iload_n 1, 1) := by decide +kernel
theorem dX6_sure_23 : decode cX6_sure 23 = .ok (.iload_n 2, 1) := by decide +kernel
theorem dX6_sure_24 : decode cX6_sure 24 = .ok (.invokevirtual 196, 3) := by decide +kernel
theorem dX6_sure_27 : decode cX6_sure 27 = .ok (.goto 5, 3) := by decide +kernel
theorem dX6_sure_30 : decode cX6_sure 30 = .ok (.ldc 69, 2) := by decide +kernel
theorem dX6_sure_32 : decode cX6_sure 32 = .ok (.ireturn, 1) := by decide +kernel
theorem dX6_rule_0 : decode cX6_rule 0 = .ok (.iload_n 1, 1) := by decide +kernel
theorem dX6_rule_1 : decode cX6_rule 1 = .ok (.invokestatic 154, 3) := by decide +kernel
theorem dX6_rule_4 : decode cX6_rule 4 = .ok (.ifCond .ne 6, 3) := by decide +kernel
theorem dX6_rule_7 : decode cX6_rule 7 = .ok (.ldc 69, 2) := by decide +kernel
theorem dX6_rule_9 : decode cX6_rule 9 = .ok (.ireturn, 1) := by decide +kernel
theorem dX6_rule_10 : decode cX6_rule 10 = .ok (.aload_n 0, 1) := by decide +kernel
theorem dX6_rule_11 : decode cX6_rule 11 = .ok (.getfield 23, 3) := by decide +kernel
theorem dX6_rule_14 : decode cX6_rule 14 = .ok (.getfield 100, 3) := by decide +kernel
theorem dX6_rule_17 : decode cX6_rule 17 = .ok (.ifCond .ne 8, 3) := by decide +kernel
theorem dX6_rule_20 : decode cX6_rule 20 = .ok (.ldc 157, 2) := by decide +kernel
theorem dX6_rule_22 : decode cX6_rule 22 = .ok (.goto 12, 3) := by decide +kernel
theorem dX6_rule_25 : decode cX6_rule 25 = .ok (.aload_n 0, 1) := by decide +kernel
theorem dX6_rule_26 : decode cX6_rule 26 = .ok (.aload_n 0, 1) := by decide +kernel
theorem dX6_rule_27 : decode cX6_rule 27 = .ok (.getfield 33, 3) := by decide +kernel
theorem dX6_rule_30 : decode cX6_rule 30 = .ok (.iload_n 1, 1) := by decide +kernel
theorem dX6_rule_31 : decode cX6_rule 31 = .ok (.invokevirtual 199, 3) := by decide +kernel
theorem dX6_rule_34 : decode cX6_rule 34 = .ok (.ireturn, 1) := by decide +kernel
theorem dX6_worth_0 : decode cX6_worth 0 = .ok (.iload_n 1, 1) := by decide +kernel
theorem dX6_worth_1 : decode cX6_worth 1 = .ok (.invokestatic 154, 3) := by decide +kernel
theorem dX6_worth_4 : decode cX6_worth 4 = .ok (.ifCond .eq 12, 3) := by decide +kernel
theorem dX6_worth_7 : decode cX6_worth 7 = .ok (.iload_n 2, 1) := by decide +kernel
theorem dX6_worth_8 : decode cX6_worth 8 = .ok (.ifCond .lt 8, 3) := by decide +kernel
theorem dX6_worth_11 : decode cX6_worth 11 = .ok (.iload_n 2, 1) := by decide +kernel
theorem dX6_worth_12 : decode cX6_worth 12 = .ok (.iconst 2, 1) := by decide +kernel
theorem dX6_worth_13 : decode cX6_worth 13 = .ok (.if_icmp .le 6, 3) := by decide +kernel
theorem dX6_worth_16 : decode cX6_worth 16 = .ok (.ldc 69, 2) := by decide +kernel
theorem dX6_worth_18 : decode cX6_worth 18 = .ok (.ireturn, 1) := by decide +kernel
theorem dX6_worth_19 : decode cX6_worth 19 = .ok (.aload_n 0, 1) := by decide +kernel
theorem dX6_worth_20 : decode cX6_worth 20 = .ok (.getfield 23, 3) := by decide +kernel
theorem dX6_worth_23 : decode cX6_worth 23 = .ok (.getfield 100, 3) := by decide +kernel
theorem dX6_worth_26 : decode cX6_worth 26 = .ok (.ifCond .ne 8, 3) := by decide +kernel
theorem dX6_worth_29 : decode cX6_worth 29 = .ok (.ldc 157, 2) := by decide +kernel
theorem dX6_worth_31 : decode cX6_worth 31 = .ok (.goto 13, 3) := by decide +kernel
theorem dX6_worth_34 : decode cX6_worth 34 = .ok (.aload_n 0, 1) := by decide +kernel
theorem dX6_worth_35 : decode cX6_worth 35 = .ok (.aload_n 0, 1) := by decide +kernel
theorem dX6_worth_36 : decode cX6_worth 36 = .ok (.getfield 33, 3) := by decide +kernel
theorem dX6_worth_39 : decode cX6_worth 39 = .ok (.iload_n 1, 1) := by decide +kernel
theorem dX6_worth_40 : decode cX6_worth 40 = .ok (.iload_n 2, 1) := by decide +kernel
theorem dX6_worth_41 : decode cX6_worth 41 = .ok (.invokevirtual 203, 3) := by decide +kernel
theorem dX6_worth_44 : decode cX6_worth 44 = .ok (.ireturn, 1) := by decide +kernel
theorem dX6_said_0 : decode cX6_said 0 = .ok (.aload_n 0, 1) := by decide +kernel
theorem dX6_said_1 : decode cX6_said 1 = .ok (.iload_n 1, 1) := by decide +kernel
theorem dX6_said_2 : decode cX6_said 2 = .ok (.invokevirtual 131, 3) := by decide +kernel
theorem dX6_said_5 : decode cX6_said 5 = .ok (.ifCond .eq 20, 3) := by decide +kernel
theorem dX6_said_8 : decode cX6_said 8 = .ok (.aload_n 0, 1) := by decide +kernel
theorem dX6_said_9 : decode cX6_said 9 = .ok (.iload_n 2, 1) := by decide +kernel
theorem dX6_said_10 : decode cX6_said 10 = .ok (.invokevirtual 148, 3) := by decide +kernel
theorem dX6_said_13 : decode cX6_said 13 = .ok (.ifCond .eq 12, 3) := by decide +kernel
theorem dX6_said_16 : decode cX6_said 16 = .ok (.aload_n 0, 1) := by decide +kernel
theorem dX6_said_17 : decode cX6_said 17 = .ok (.iload_n 1, 1) := by decide +kernel
theorem dX6_said_18 : decode cX6_said 18 = .ok (.iload_n 2, 1) := by decide +kernel
theorem dX6_said_19 : decode cX6_said 19 = .ok (.invokevirtual 182, 3) := by decide +kernel
theorem dX6_said_22 : decode cX6_said 22 = .ok (.goto 5, 3) := by decide +kernel
theorem dX6_said_25 : decode cX6_said 25 = .ok (.ldc 134, 2) := by decide +kernel
theorem dX6_said_27 : decode cX6_said 27 = .ok (.ireturn, 1) := by decide +kernel
theorem dX6_misheard_0 : decode cX6_misheard 0 = .ok (.iconst 0, 1) := by decide +kernel
theorem dX6_misheard_1 : decode cX6_misheard 1 = .ok (.istore_n 2, 1) := by decide +kernel
theorem dX6_misheard_2 : decode cX6_misheard 2 = .ok (.iconst 0, 1) := by decide +kernel
theorem dX6_misheard_3 : decode cX6_misheard 3 = .ok (.istore_n 3, 1) := by decide +kernel
theorem dX6_misheard_4 : decode cX6_misheard 4 = .ok (.iload_n 3, 1) := by decide +kernel
theorem dX6_misheard_5 : decode cX6_misheard 5 = .ok (.aload_n 0, 1) := by decide +kernel
theorem dX6_misheard_6 : decode cX6_misheard 6 = .ok (.getfield 23, 3) := by decide +kernel
theorem dX6_misheard_9 : decode cX6_misheard 9 = .ok (.getfield 112, 3) := by decide +kernel
theorem dX6_misheard_12 : decode cX6_misheard 12 = .ok (.if_icmp .ge 58, 3) := by decide +kernel
theorem dX6_misheard_15 : decode cX6_misheard 15 = .ok (.iconst 0, 1) := by decide +kernel
theorem dX6_misheard_16 : decode cX6_misheard 16 = .ok (.istore 4, 2) := by decide +kernel
theorem dX6_misheard_18 : decode cX6_misheard 18 = .ok (.iload 4, 2) := by decide +kernel
theorem dX6_misheard_20 : decode cX6_misheard 20 = .ok (.aload_n 0, 1) := by decide +kernel
theorem dX6_misheard_21 : decode cX6_misheard 21 = .ok (.getfield 23, 3) := by decide +kernel
theorem dX6_misheard_24 : decode cX6_misheard 24 = .ok (.getfield 100, 3) := by decide +kernel
theorem dX6_misheard_27 : decode cX6_misheard 27 = .ok (.if_icmp .ge 37, 3) := by decide +kernel
theorem dX6_misheard_30 : decode cX6_misheard 30 = .ok (.aload_n 0, 1) := by decide +kernel
theorem dX6_misheard_31 : decode cX6_misheard 31 = .ok (.iload 4, 2) := by decide +kernel
theorem dX6_misheard_33 : decode cX6_misheard 33 = .ok (.iload_n 3, 1) := by decide +kernel
theorem dX6_misheard_34 : decode cX6_misheard 34 = .ok (.invokevirtual 207, 3) := by decide +kernel
theorem dX6_misheard_37 : decode cX6_misheard 37 = .ok (.iload 4, 2) := by decide +kernel
theorem dX6_misheard_39 : decode cX6_misheard 39 = .ok (.if_icmp .eq 19, 3) := by decide +kernel
theorem dX6_misheard_42 : decode cX6_misheard 42 = .ok (.iload_n 2, 1) := by decide +kernel
theorem dX6_misheard_43 : decode cX6_misheard 43 = .ok (.iload_n 1, 1) := by decide +kernel
theorem dX6_misheard_44 : decode cX6_misheard 44 = .ok (.if_icmp .ne 11, 3) := by decide +kernel
theorem dX6_misheard_47 : decode cX6_misheard 47 = .ok (.bipush 10, 2) := by decide +kernel
theorem dX6_misheard_49 : decode cX6_misheard 49 = .ok (.iload_n 3, 1) := by decide +kernel
theorem dX6_misheard_50 : decode cX6_misheard 50 = .ok (.imul, 1) := by decide +kernel
theorem dX6_misheard_51 : decode cX6_misheard 51 = .ok (.iload 4, 2) := by decide +kernel
theorem dX6_misheard_53 : decode cX6_misheard 53 = .ok (.iadd, 1) := by decide +kernel
theorem dX6_misheard_54 : decode cX6_misheard 54 = .ok (.ireturn, 1) := by decide +kernel
theorem dX6_misheard_55 : decode cX6_misheard 55 = .ok (.iinc 2 1, 3) := by decide +kernel
theorem dX6_misheard_58 : decode cX6_misheard 58 = .ok (.iinc 4 1, 3) := by decide +kernel
theorem dX6_misheard_61 : decode cX6_misheard 61 = .ok (.goto (-43), 3) := by decide +kernel
theorem dX6_misheard_64 : decode cX6_misheard 64 = .ok (.iinc 3 1, 3) := by decide +kernel
theorem dX6_misheard_67 : decode cX6_misheard 67 = .ok (.goto (-63), 3) := by decide +kernel
theorem dX6_misheard_70 : decode cX6_misheard 70 = .ok (.iload_n 1, 1) := by decide +kernel
theorem dX6_misheard_71 : decode cX6_misheard 71 = .ok (.iconst (-1), 1) := by decide +kernel
theorem dX6_misheard_72 : decode cX6_misheard 72 = .ok (.if_icmp .ne 7, 3) := by decide +kernel
theorem dX6_misheard_75 : decode cX6_misheard 75 = .ok (.iload_n 2, 1) := by decide +kernel
theorem dX6_misheard_76 : decode cX6_misheard 76 = .ok (.goto 4, 3) := by decide +kernel
theorem dX6_misheard_79 : decode cX6_misheard 79 = .ok (.iconst (-1), 1) := by decide +kernel
theorem dX6_misheard_80 : decode cX6_misheard 80 = .ok (.ireturn, 1) := by decide +kernel
theorem dX6_who_0 : decode cX6_who 0 = .ok (.iload_n 1, 1) := by decide +kernel
theorem dX6_who_1 : decode cX6_who 1 = .ok (.invokestatic 154, 3) := by decide +kernel
theorem dX6_who_4 : decode cX6_who 4 = .ok (.ifCond .ne 6, 3) := by decide +kernel
theorem dX6_who_7 : decode cX6_who 7 = .ok (.ldc 69, 2) := by decide +kernel
theorem dX6_who_9 : decode cX6_who 9 = .ok (.ireturn, 1) := by decide +kernel
theorem dX6_who_10 : decode cX6_who 10 = .ok (.iconst 0, 1) := by decide +kernel
theorem dX6_who_11 : decode cX6_who 11 = .ok (.istore_n 2, 1) := by decide +kernel
theorem dX6_who_12 : decode cX6_who 12 = .ok (.iconst 0, 1) := by decide +kernel
theorem dX6_who_13 : decode cX6_who 13 = .ok (.istore_n 3, 1) := by decide +kernel
theorem dX6_who_14 : decode cX6_who 14 = .ok (.iload_n 3, 1) := by decide +kernel
theorem dX6_who_15 : decode cX6_who 15 = .ok (.aload_n 0, 1) := by decide +kernel
theorem dX6_who_16 : decode cX6_who 16 = .ok (.getfield 23, 3) := by decide +kernel
theorem dX6_who_19 : decode cX6_who 19 = .ok (.getfield 112, 3) := by decide +kernel
theorem dX6_who_22 : decode cX6_who 22 = .ok (.if_icmp .ge 24, 3) := by decide +kernel
theorem dX6_who_25 : decode cX6_who 25 = .ok (.aload_n 0, 1) := by decide +kernel
theorem dX6_who_26 : decode cX6_who 26 = .ok (.iload_n 3, 1) := by decide +kernel
theorem dX6_who_27 : decode cX6_who 27 = .ok (.iload_n 1, 1) := by decide +kernel
theorem dX6_who_28 : decode cX6_who 28 = .ok (.invokevirtual 210, 3) := by decide +kernel
theorem dX6_who_31 : decode cX6_who 31 = .ok (.ifCond .eq 9, 3) := by decide +kernel
theorem dX6_who_34 : decode cX6_who 34 = .ok (.iload_n 2, 1) := by decide +kernel
theorem dX6_who_35 : decode cX6_who 35 = .ok (.iconst 1, 1) := by decide +kernel
theorem dX6_who_36 : decode cX6_who 36 = .ok (.iload_n 3, 1) := by decide +kernel
theorem dX6_who_37 : decode cX6_who 37 = .ok (.ishl, 1) := by decide +kernel
theorem dX6_who_38 : decode cX6_who 38 = .ok (.ior, 1) := by decide +kernel
theorem dX6_who_39 : decode cX6_who 39 = .ok (.istore_n 2, 1) := by decide +kernel
theorem dX6_who_40 : decode cX6_who 40 = .ok (.iinc 3 1, 3) := by decide +kernel
theorem dX6_who_43 : decode cX6_who 43 = .ok (.goto (-29), 3) := by decide +kernel
theorem dX6_who_46 : decode cX6_who 46 = .ok (.iload_n 2, 1) := by decide +kernel
theorem dX6_who_47 : decode cX6_who 47 = .ok (.ireturn, 1) := by decide +kernel
theorem dX6_meant_0 : decode cX6_meant 0 = .ok (.aload_n 0, 1) := by decide +kernel
theorem dX6_meant_1 : decode cX6_meant 1 = .ok (.iload_n 1, 1) := by decide +kernel
theorem dX6_meant_2 : decode cX6_meant 2 = .ok (.invokevirtual 148, 3) := by decide +kernel
theorem dX6_meant_5 : decode cX6_meant 5 = .ok (.ifCond .ne 6, 3) := by decide +kernel
theorem dX6_meant_8 : decode cX6_meant 8 = .ok (.ldc 134, 2) := by decide +kernel
theorem dX6_meant_10 : decode cX6_meant 10 = .ok (.ireturn, 1) := by decide +kernel
theorem dX6_meant_11 : decode cX6_meant 11 = .ok (.iload_n 2, 1) := by decide +kernel
theorem dX6_meant_12 : decode cX6_meant 12 = .ok (.invokestatic 154, 3) := by decide +kernel
theorem dX6_meant_15 : decode cX6_meant 15 = .ok (.ifCond .eq 12, 3) := by decide +kernel
theorem dX6_meant_18 : decode cX6_meant 18 = .ok (.aload_n 0, 1) := by decide +kernel
theorem dX6_meant_19 : decode cX6_meant 19 = .ok (.iload_n 1, 1) := by decide +kernel
theorem dX6_meant_20 : decode cX6_meant 20 = .ok (.iload_n 2, 1) := by decide +kernel
theorem dX6_meant_21 : decode cX6_meant 21 = .ok (.invokevirtual 210, 3) := by decide +kernel
theorem dX6_meant_24 : decode cX6_meant 24 = .ok (.goto 5, 3) := by decide +kernel
theorem dX6_meant_27 : decode cX6_meant 27 = .ok (.ldc 69, 2) := by decide +kernel
theorem dX6_meant_29 : decode cX6_meant 29 = .ok (.ireturn, 1) := by decide +kernel
theorem dX6_alike_0 : decode cX6_alike 0 = .ok (.iload_n 1, 1) := by decide +kernel
theorem dX6_alike_1 : decode cX6_alike 1 = .ok (.invokestatic 213, 3) := by decide +kernel
theorem dX6_alike_4 : decode cX6_alike 4 = .ok (.ifCond .ne 6, 3) := by decide +kernel
theorem dX6_alike_7 : decode cX6_alike 7 = .ok (.ldc 69, 2) := by decide +kernel
theorem dX6_alike_9 : decode cX6_alike 9 = .ok (.ireturn, 1) := by decide +kernel
theorem dX6_alike_10 : decode cX6_alike 10 = .ok (.iconst 0, 1) := by decide +kernel
theorem dX6_alike_11 : decode cX6_alike 11 = .ok (.istore_n 3, 1) := by decide +kernel
theorem dX6_alike_12 : decode cX6_alike 12 = .ok (.iconst 0, 1) := by decide +kernel
theorem dX6_alike_13 : decode cX6_alike 13 = .ok (.istore 4, 2) := by decide +kernel
theorem dX6_alike_15 : decode cX6_alike 15 = .ok (.iload 4, 2) := by decide +kernel
theorem dX6_alike_17 : decode cX6_alike 17 = .ok (.aload_n 0, 1) := by decide +kernel
theorem dX6_alike_18 : decode cX6_alike 18 = .ok (.getfield 23, 3) := by decide +kernel
theorem dX6_alike_21 : decode cX6_alike 21 = .ok (.getfield 100, 3) := by decide +kernel
theorem dX6_alike_24 : decode cX6_alike 24 = .ok (.if_icmp .ge 77, 3) := by decide +kernel
theorem dX6_alike_27 : decode cX6_alike 27 = .ok (.iload 4, 2) := by decide +kernel
theorem dX6_alike_29 : decode cX6_alike 29 = .ok (.iconst 1, 1) := by decide +kernel
theorem dX6_alike_30 : decode cX6_alike 30 = .ok (.iadd, 1) := by decide +kernel
theorem dX6_alike_31 : decode cX6_alike 31 = .ok (.istore 5, 2) := by decide +kernel
theorem dX6_alike_33 : decode cX6_alike 33 = .ok (.iload 5, 2) := by decide +kernel
theorem dX6_alike_35 : decode cX6_alike 35 = .ok (.aload_n 0, 1) := by decide +kernel
theorem dX6_alike_36 : decode cX6_alike 36 = .ok (.getfield 23, 3) := by decide +kernel
theorem dX6_alike_39 : decode cX6_alike 39 = .ok (.getfield 100, 3) := by decide +kernel
theorem dX6_alike_42 : decode cX6_alike 42 = .ok (.if_icmp .ge 53, 3) := by decide +kernel
theorem dX6_alike_45 : decode cX6_alike 45 = .ok (.aload_n 0, 1) := by decide +kernel
theorem dX6_alike_46 : decode cX6_alike 46 = .ok (.getfield 33, 3) := by decide +kernel
theorem dX6_alike_49 : decode cX6_alike 49 = .ok (.getfield 135, 3) := by decide +kernel
theorem dX6_alike_52 : decode cX6_alike 52 = .ok (.iload 4, 2) := by decide +kernel
theorem dX6_alike_54 : decode cX6_alike 54 = .ok (.iaload, 1) := by decide +kernel
theorem dX6_alike_55 : decode cX6_alike 55 = .ok (.aload_n 0, 1) := by decide +kernel
theorem dX6_alike_56 : decode cX6_alike 56 = .ok (.getfield 33, 3) := by decide +kernel
theorem dX6_alike_59 : decode cX6_alike 59 = .ok (.getfield 135, 3) := by decide +kernel
theorem dX6_alike_62 : decode cX6_alike 62 = .ok (.iload 5, 2) := by decide +kernel
theorem dX6_alike_64 : decode cX6_alike 64 = .ok (.iaload, 1) := by decide +kernel
theorem dX6_alike_65 : decode cX6_alike 65 = .ok (.invokestatic 172, 3) := by decide +kernel
theorem dX6_alike_68 : decode cX6_alike 68 = .ok (.iload_n 1, 1) := by decide +kernel
theorem dX6_alike_69 : decode cX6_alike 69 = .ok (.if_icmp .gt 20, 3) := by decide +kernel
theorem dX6_alike_72 : decode cX6_alike 72 = .ok (.iload_n 3, 1) := by decide +kernel
theorem dX6_alike_73 : decode cX6_alike 73 = .ok (.iload_n 2, 1) := by decide +kernel
theorem dX6_alike_74 : decode cX6_alike 74 = .ok (.if_icmp .ne 12, 3) := by decide +kernel
theorem dX6_alike_77 : decode cX6_alike 77 = .ok (.bipush 10, 2) := by decide +kernel
theorem dX6_alike_79 : decode cX6_alike 79 = .ok (.iload 4, 2) := by decide +kernel
theorem dX6_alike_81 : decode cX6_alike 81 = .ok (.imul, 1) := by decide +kernel
theorem dX6_alike_82 : decode cX6_alike 82 = .ok (.iload 5, 2) := by decide +kernel
theorem dX6_alike_84 : decode cX6_alike 84 = .ok (.iadd, 1) := by decide +kernel
theorem dX6_alike_85 : decode cX6_alike 85 = .ok (.ireturn, 1) := by decide +kernel
theorem dX6_alike_86 : decode cX6_alike 86 = .ok (.iinc 3 1, 3) := by decide +kernel
theorem dX6_alike_89 : decode cX6_alike 89 = .ok (.iinc 5 1, 3) := by decide +kernel
theorem dX6_alike_92 : decode cX6_alike 92 = .ok (.goto (-59), 3) := by decide +kernel
theorem dX6_alike_95 : decode cX6_alike 95 = .ok (.iinc 4 1, 3) := by decide +kernel
theorem dX6_alike_98 : decode cX6_alike 98 = .ok (.goto (-83), 3) := by decide +kernel
theorem dX6_alike_101 : decode cX6_alike 101 = .ok (.iload_n 2, 1) := by decide +kernel
theorem dX6_alike_102 : decode cX6_alike 102 = .ok (.iconst (-1), 1) := by decide +kernel
theorem dX6_alike_103 : decode cX6_alike 103 = .ok (.if_icmp .ne 7, 3) := by decide +kernel
theorem dX6_alike_106 : decode cX6_alike 106 = .ok (.iload_n 3, 1) := by decide +kernel
theorem dX6_alike_107 : decode cX6_alike 107 = .ok (.goto 4, 3) := by decide +kernel
theorem dX6_alike_110 : decode cX6_alike 110 = .ok (.iconst (-1), 1) := by decide +kernel
theorem dX6_alike_111 : decode cX6_alike 111 = .ok (.ireturn, 1) := by decide +kernel
theorem dX6_wake_0 : decode cX6_wake 0 = .ok (.iload_n 1, 1) := by decide +kernel
theorem dX6_wake_1 : decode cX6_wake 1 = .ok (.ifCond .eq 11, 3) := by decide +kernel
theorem dX6_wake_4 : decode cX6_wake 4 = .ok (.iload_n 1, 1) := by decide +kernel
theorem dX6_wake_5 : decode cX6_wake 5 = .ok (.iconst 1, 1) := by decide +kernel
theorem dX6_wake_6 : decode cX6_wake 6 = .ok (.if_icmp .eq 6, 3) := by decide +kernel
theorem dX6_wake_9 : decode cX6_wake 9 = .ok (.ldc 69, 2) := by decide +kernel
theorem dX6_wake_11 : decode cX6_wake 11 = .ok (.ireturn, 1) := by decide +kernel
theorem dX6_wake_12 : decode cX6_wake 12 = .ok (.iconst 0, 1) := by decide +kernel
theorem dX6_wake_13 : decode cX6_wake 13 = .ok (.istore_n 2, 1) := by decide +kernel
theorem dX6_wake_14 : decode cX6_wake 14 = .ok (.aload_n 0, 1) := by decide +kernel
theorem dX6_wake_15 : decode cX6_wake 15 = .ok (.getfield 33, 3) := by decide +kernel
theorem dX6_wake_18 : decode cX6_wake 18 = .ok (.iconst 0, 1) := by decide +kernel
theorem dX6_wake_19 : decode cX6_wake 19 = .ok (.invokevirtual 216, 3) := by decide +kernel
theorem dX6_wake_22 : decode cX6_wake 22 = .ok (.istore_n 3, 1) := by decide +kernel
theorem dX6_wake_23 : decode cX6_wake 23 = .ok (.iconst 1, 1) := by decide +kernel
theorem dX6_wake_24 : decode cX6_wake 24 = .ok (.istore 4, 2) := by decide +kernel
theorem dX6_wake_26 : decode cX6_wake 26 = .ok (.iload 4, 2) := by decide +kernel
theorem dX6_wake_28 : decode cX6_wake 28 = .ok (.sipush 1000, 3) := by decide +kernel
theorem dX6_wake_31 : decode cX6_wake 31 = .ok (.if_icmp .ge 32, 3) := by decide +kernel
theorem dX6_wake_34 : decode cX6_wake 34 = .ok (.aload_n 0, 1) := by decide +kernel
theorem dX6_wake_35 : decode cX6_wake 35 = .ok (.getfield 33, 3) := by decide +kernel
theorem dX6_wake_38 : decode cX6_wake 38 = .ok (.iload 4, 2) := by decide +kernel
theorem dX6_wake_40 : decode cX6_wake 40 = .ok (.invokevirtual 216, 3) := by decide +kernel
theorem dX6_wake_43 : decode cX6_wake 43 = .ok (.istore 5, 2) := by decide +kernel
theorem dX6_wake_45 : decode cX6_wake 45 = .ok (.iload 5, 2) := by decide +kernel
theorem dX6_wake_47 : decode cX6_wake 47 = .ok (.iload_n 3, 1) := by decide +kernel
theorem dX6_wake_48 : decode cX6_wake 48 = .ok (.if_icmp .le 9, 3) := by decide +kernel
theorem dX6_wake_51 : decode cX6_wake 51 = .ok (.iload 4, 2) := by decide +kernel
theorem dX6_wake_53 : decode cX6_wake 53 = .ok (.istore_n 2, 1) := by decide +kernel
theorem dX6_wake_54 : decode cX6_wake 54 = .ok (.iload 5, 2) := by decide +kernel
theorem dX6_wake_56 : decode cX6_wake 56 = .ok (.istore_n 3, 1) := by decide +kernel
theorem dX6_wake_57 : decode cX6_wake 57 = .ok (.iinc 4 1, 3) := by decide +kernel
theorem dX6_wake_60 : decode cX6_wake 60 = .ok (.goto (-34), 3) := by decide +kernel
theorem dX6_wake_63 : decode cX6_wake 63 = .ok (.iload_n 1, 1) := by decide +kernel
theorem dX6_wake_64 : decode cX6_wake 64 = .ok (.ifCond .ne 7, 3) := by decide +kernel
theorem dX6_wake_67 : decode cX6_wake 67 = .ok (.iload_n 2, 1) := by decide +kernel
theorem dX6_wake_68 : decode cX6_wake 68 = .ok (.goto 4, 3) := by decide +kernel
theorem dX6_wake_71 : decode cX6_wake 71 = .ok (.iload_n 3, 1) := by decide +kernel
theorem dX6_wake_72 : decode cX6_wake 72 = .ok (.ireturn, 1) := by decide +kernel
theorem dX6_falsely_0 : decode cX6_falsely 0 = .ok (.aload_n 0, 1) := by decide +kernel
theorem dX6_falsely_1 : decode cX6_falsely 1 = .ok (.iload_n 1, 1) := by decide +kernel
theorem dX6_falsely_2 : decode cX6_falsely 2 = .ok (.invokevirtual 148, 3) := by decide +kernel
theorem dX6_falsely_5 : decode cX6_falsely 5 = .ok (.ifCond .ne 6, 3) := by decide +kernel
theorem dX6_falsely_8 : decode cX6_falsely 8 = .ok (.ldc 134, 2) := by decide +kernel
theorem dX6_falsely_10 : decode cX6_falsely 10 = .ok (.ireturn, 1) := by decide +kernel
theorem dX6_falsely_11 : decode cX6_falsely 11 = .ok (.iload_n 2, 1) := by decide +kernel
theorem dX6_falsely_12 : decode cX6_falsely 12 = .ok (.invokestatic 213, 3) := by decide +kernel
theorem dX6_falsely_15 : decode cX6_falsely 15 = .ok (.ifCond .ne 6, 3) := by decide +kernel
theorem dX6_falsely_18 : decode cX6_falsely 18 = .ok (.ldc 69, 2) := by decide +kernel
theorem dX6_falsely_20 : decode cX6_falsely 20 = .ok (.ireturn, 1) := by decide +kernel
theorem dX6_falsely_21 : decode cX6_falsely 21 = .ok (.iconst 0, 1) := by decide +kernel
theorem dX6_falsely_22 : decode cX6_falsely 22 = .ok (.istore_n 3, 1) := by decide +kernel
theorem dX6_falsely_23 : decode cX6_falsely 23 = .ok (.iconst 0, 1) := by decide +kernel
theorem dX6_falsely_24 : decode cX6_falsely 24 = .ok (.istore 4, 2) := by decide +kernel
theorem dX6_falsely_26 : decode cX6_falsely 26 = .ok (.iload 4, 2) := by decide +kernel
theorem dX6_falsely_28 : decode cX6_falsely 28 = .ok (.aload_n 0, 1) := by decide +kernel
theorem dX6_falsely_29 : decode cX6_falsely 29 = .ok (.getfield 23, 3) := by decide +kernel
theorem dX6_falsely_32 : decode cX6_falsely 32 = .ok (.getfield 100, 3) := by decide +kernel
theorem dX6_falsely_35 : decode cX6_falsely 35 = .ok (.if_icmp .ge 37, 3) := by decide +kernel
theorem dX6_falsely_38 : decode cX6_falsely 38 = .ok (.aload_n 0, 1) := by decide +kernel
theorem dX6_falsely_39 : decode cX6_falsely 39 = .ok (.iload 4, 2) := by decide +kernel
theorem dX6_falsely_41 : decode cX6_falsely 41 = .ok (.iload_n 1, 1) := by decide +kernel
theorem dX6_falsely_42 : decode cX6_falsely 42 = .ok (.invokevirtual 182, 3) := by decide +kernel
theorem dX6_falsely_45 : decode cX6_falsely 45 = .ok (.aload_n 0, 1) := by decide +kernel
theorem dX6_falsely_46 : decode cX6_falsely 46 = .ok (.getfield 23, 3) := by decide +kernel
theorem dX6_falsely_49 : decode cX6_falsely 49 = .ok (.getfield 109, 3) := by decide +kernel
theorem dX6_falsely_52 : decode cX6_falsely 52 = .ok (.invokestatic 172, 3) := by decide +kernel
theorem dX6_falsely_55 : decode cX6_falsely 55 = .ok (.iload_n 2, 1) := by decide +kernel
theorem dX6_falsely_56 : decode cX6_falsely 56 = .ok (.if_icmp .gt 10, 3) := by decide +kernel
theorem dX6_falsely_59 : decode cX6_falsely 59 = .ok (.iload_n 3, 1) := by decide +kernel
theorem dX6_falsely_60 : decode cX6_falsely 60 = .ok (.iconst 1, 1) := by decide +kernel
theorem dX6_falsely_61 : decode cX6_falsely 61 = .ok (.iload 4, 2) := by decide +kernel
theorem dX6_falsely_63 : decode cX6_falsely 63 = .ok (.ishl, 1) := by decide +kernel
theorem dX6_falsely_64 : decode cX6_falsely 64 = .ok (.ior, 1) := by decide +kernel
theorem dX6_falsely_65 : decode cX6_falsely 65 = .ok (.istore_n 3, 1) := by decide +kernel
theorem dX6_falsely_66 : decode cX6_falsely 66 = .ok (.iinc 4 1, 3) := by decide +kernel
theorem dX6_falsely_69 : decode cX6_falsely 69 = .ok (.goto (-43), 3) := by decide +kernel
theorem dX6_falsely_72 : decode cX6_falsely 72 = .ok (.iload_n 3, 1) := by decide +kernel
theorem dX6_falsely_73 : decode cX6_falsely 73 = .ok (.ireturn, 1) := by decide +kernel
theorem dX6_needs_0 : decode cX6_needs 0 = .ok (.aload_n 0, 1) := by decide +kernel
theorem dX6_needs_1 : decode cX6_needs 1 = .ok (.iload_n 1, 1) := by decide +kernel
theorem dX6_needs_2 : decode cX6_needs 2 = .ok (.invokevirtual 131, 3) := by decide +kernel
theorem dX6_needs_5 : decode cX6_needs 5 = .ok (.ifCond .eq 11, 3) := by decide +kernel
theorem dX6_needs_8 : decode cX6_needs 8 = .ok (.aload_n 0, 1) := by decide +kernel
theorem dX6_needs_9 : decode cX6_needs 9 = .ok (.iload_n 2, 1) := by decide +kernel
theorem dX6_needs_10 : decode cX6_needs 10 = .ok (.invokevirtual 148, 3) := by decide +kernel
theorem dX6_needs_13 : decode cX6_needs 13 = .ok (.ifCond .ne 6, 3) := by decide +kernel
theorem dX6_needs_16 : decode cX6_needs 16 = .ok (.ldc 134, 2) := by decide +kernel
theorem dX6_needs_18 : decode cX6_needs 18 = .ok (.ireturn, 1) := by decide +kernel
theorem dX6_needs_19 : decode cX6_needs 19 = .ok (.iload_n 3, 1) := by decide +kernel
theorem dX6_needs_20 : decode cX6_needs 20 = .ok (.ifCond .eq 11, 3) := by decide +kernel
theorem dX6_needs_23 : decode cX6_needs 23 = .ok (.iload_n 3, 1) := by decide +kernel
theorem dX6_needs_24 : decode cX6_needs 24 = .ok (.iconst 1, 1) := by decide +kernel
theorem dX6_needs_25 : decode cX6_needs 25 = .ok (.if_icmp .eq 6, 3) := by decide +kernel
theorem dX6_needs_28 : decode cX6_needs 28 = .ok (.ldc 69, 2) := by decide +kernel
theorem dX6_needs_30 : decode cX6_needs 30 = .ok (.ireturn, 1) := by decide +kernel
theorem dX6_needs_31 : decode cX6_needs 31 = .ok (.aload_n 0, 1) := by decide +kernel
theorem dX6_needs_32 : decode cX6_needs 32 = .ok (.iload_n 1, 1) := by decide +kernel
theorem dX6_needs_33 : decode cX6_needs 33 = .ok (.iload_n 2, 1) := by decide +kernel
theorem dX6_needs_34 : decode cX6_needs 34 = .ok (.invokevirtual 182, 3) := by decide +kernel
theorem dX6_needs_37 : decode cX6_needs 37 = .ok (.istore 4, 2) := by decide +kernel
theorem dX6_needs_39 : decode cX6_needs 39 = .ok (.aload_n 0, 1) := by decide +kernel
theorem dX6_needs_40 : decode cX6_needs 40 = .ok (.getfield 37, 3) := by decide +kernel
theorem dX6_needs_43 : decode cX6_needs 43 = .ok (.aload_n 0, 1) := by decide +kernel
theorem dX6_needs_44 : decode cX6_needs 44 = .ok (.getfield 33, 3) := by decide +kernel
theorem dX6_needs_47 : decode cX6_needs 47 = .ok (.invokevirtual 219, 3) := by decide +kernel
theorem dX6_needs_50 : decode cX6_needs 50 = .ok (.iconst 0, 1) := by decide +kernel
theorem dX6_needs_51 : decode cX6_needs 51 = .ok (.istore 5, 2) := by decide +kernel
theorem dX6_needs_53 : decode cX6_needs 53 = .ok (.iload 5, 2) := by decide +kernel
theorem dX6_needs_55 : decode cX6_needs 55 = .ok (.bipush 99, 2) := by decide +kernel
theorem dX6_needs_57 : decode cX6_needs 57 = .ok (.if_icmp .gt 53, 3) := by decide +kernel
theorem dX6_needs_60 : decode cX6_needs 60 = .ok (.aload_n 0, 1) := by decide +kernel
theorem dX6_needs_61 : decode cX6_needs 61 = .ok (.getfield 37, 3) := by decide +kernel
theorem dX6_needs_64 : decode cX6_needs 64 = .ok (.getfield 139, 3) := by decide +kernel
theorem dX6_needs_67 : decode cX6_needs 67 = .ok (.iload_n 1, 1) := by decide +kernel
theorem dX6_needs_68 : decode cX6_needs 68 = .ok (.iload 5, 2) := by decide +kernel
theorem dX6_needs_70 : decode cX6_needs 70 = .ok (.iastore, 1) := by decide +kernel
theorem dX6_needs_71 : decode cX6_needs 71 = .ok (.aload_n 0, 1) := by decide +kernel
theorem dX6_needs_72 : decode cX6_needs 72 = .ok (.getfield 37, 3) := by decide +kernel
theorem dX6_needs_75 : decode cX6_needs 75 = .ok (.iload 4, 2) := by decide +kernel
theorem dX6_needs_77 : decode cX6_needs 77 = .ok (.invokevirtual 193, 3) := by decide +kernel
theorem dX6_needs_80 : decode cX6_needs 80 = .ok (.iload_n 1, 1) := by decide +kernel
theorem dX6_needs_81 : decode cX6_needs 81 = .ok (.if_icmp .ne 23, 3) := by decide +kernel
theorem dX6_needs_84 : decode cX6_needs 84 = .ok (.iload_n 3, 1) := by decide +kernel
theorem dX6_needs_85 : decode cX6_needs 85 = .ok (.ifCond .eq 16, 3) := by decide +kernel
theorem dX6_needs_88 : decode cX6_needs 88 = .ok (.aload_n 0, 1) := by decide +kernel
theorem dX6_needs_89 : decode cX6_needs 89 = .ok (.aload_n 0, 1) := by decide +kernel
theorem dX6_needs_90 : decode cX6_needs 90 = .ok (.getfield 37, 3) := by decide +kernel
theorem dX6_needs_93 : decode cX6_needs 93 = .ok (.iload 4, 2) := by decide +kernel
theorem dX6_needs_95 : decode cX6_needs 95 = .ok (.invokevirtual 199, 3) := by decide +kernel
theorem dX6_needs_98 : decode cX6_needs 98 = .ok (.ifCond .ne 6, 3) := by decide +kernel
theorem dX6_needs_101 : decode cX6_needs 101 = .ok (.iload 5, 2) := by decide +kernel
theorem dX6_needs_103 : decode cX6_needs 103 = .ok (.ireturn, 1) := by decide +kernel
theorem dX6_needs_104 : decode cX6_needs 104 = .ok (.iinc 5 1, 3) := by decide +kernel
theorem dX6_needs_107 : decode cX6_needs 107 = .ok (.goto (-54), 3) := by decide +kernel
theorem dX6_needs_110 : decode cX6_needs 110 = .ok (.iconst (-1), 1) := by decide +kernel
theorem dX6_needs_111 : decode cX6_needs 111 = .ok (.ireturn, 1) := by decide +kernel
theorem dX6_bestCalled_0 : decode cX6_bestCalled 0 = .ok (.aload_n 0, 1) := by decide +kernel
theorem dX6_bestCalled_1 : decode cX6_bestCalled 1 = .ok (.iload_n 1, 1) := by decide +kernel
theorem dX6_bestCalled_2 : decode cX6_bestCalled 2 = .ok (.invokevirtual 131, 3) := by decide +kernel
theorem dX6_bestCalled_5 : decode cX6_bestCalled 5 = .ok (.ifCond .ne 6, 3) := by decide +kernel
theorem dX6_bestCalled_8 : decode cX6_bestCalled 8 = .ok (.ldc 134, 2) := by decide +kernel
theorem dX6_bestCalled_10 : decode cX6_bestCalled 10 = .ok (.ireturn, 1) := by decide +kernel
theorem dX6_bestCalled_11 : decode cX6_bestCalled 11 = .ok (.iload_n 2, 1) := by decide +kernel
theorem dX6_bestCalled_12 : decode cX6_bestCalled 12 = .ok (.ifCond .eq 11, 3) := by decide +kernel
theorem dX6_bestCalled_15 : decode cX6_bestCalled 15 = .ok (.iload_n 2, 1) := by decide +kernel
theorem dX6_bestCalled_16 : decode cX6_bestCalled 16 = .ok (.iconst 1, 1) := by decide +kernel
theorem dX6_bestCalled_17 : decode cX6_bestCalled 17 = .ok (.if_icmp .eq 6, 3) := by decide +kernel
theorem dX6_bestCalled_20 : decode cX6_bestCalled 20 = .ok (.ldc 69, 2) := by decide +kernel
theorem dX6_bestCalled_22 : decode cX6_bestCalled 22 = .ok (.ireturn, 1) := by decide +kernel
theorem dX6_bestCalled_23 : decode cX6_bestCalled 23 = .ok (.aload_n 0, 1) := by decide +kernel
theorem dX6_bestCalled_24 : decode cX6_bestCalled 24 = .ok (.getfield 37, 3) := by decide +kernel
theorem dX6_bestCalled_27 : decode cX6_bestCalled 27 = .ok (.aload_n 0, 1) := by decide +kernel
theorem dX6_bestCalled_28 : decode cX6_bestCalled 28 = .ok (.getfield 33, 3) := by decide +kernel
theorem dX6_bestCalled_31 : decode cX6_bestCalled 31 = .ok (.invokevirtual 219, 3) := by decide +kernel
theorem dX6_bestCalled_34 : decode cX6_bestCalled 34 = .ok (.aload_n 0, 1) := by decide +kernel
theorem dX6_bestCalled_35 : decode cX6_bestCalled 35 = .ok (.getfield 33, 3) := by decide +kernel
theorem dX6_bestCalled_38 : decode cX6_bestCalled 38 = .ok (.getfield 135, 3) := by decide +kernel
theorem dX6_bestCalled_41 : decode cX6_bestCalled 41 = .ok (.iload_n 1, 1) := by decide +kernel
theorem dX6_bestCalled_42 : decode cX6_bestCalled 42 = .ok (.iaload, 1) := by decide +kernel
theorem dX6_bestCalled_43 : decode cX6_bestCalled 43 = .ok (.istore_n 3, 1) := by decide +kernel
theorem dX6_bestCalled_44 : decode cX6_bestCalled 44 = .ok (.iload_n 3, 1) := by decide +kernel
theorem dX6_bestCalled_45 : decode cX6_bestCalled 45 = .ok (.istore 4, 2) := by decide +kernel
theorem dX6_bestCalled_47 : decode cX6_bestCalled 47 = .ok (.iconst 0, 1) := by decide +kernel
theorem dX6_bestCalled_48 : decode cX6_bestCalled 48 = .ok (.istore 5, 2) := by decide +kernel
theorem dX6_bestCalled_50 : decode cX6_bestCalled 50 = .ok (.aload_n 0, 1) := by decide +kernel
theorem dX6_bestCalled_51 : decode cX6_bestCalled 51 = .ok (.iload_n 1, 1) := by decide +kernel
theorem dX6_bestCalled_52 : decode cX6_bestCalled 52 = .ok (.iload_n 3, 1) := by decide +kernel
theorem dX6_bestCalled_53 : decode cX6_bestCalled 53 = .ok (.iconst 0, 1) := by decide +kernel
theorem dX6_bestCalled_54 : decode cX6_bestCalled 54 = .ok (.invokevirtual 222, 3) := by decide +kernel
theorem dX6_bestCalled_57 : decode cX6_bestCalled 57 = .ok (.istore 6, 2) := by decide +kernel
theorem dX6_bestCalled_59 : decode cX6_bestCalled 59 = .ok (.iconst 0, 1) := by decide +kernel
theorem dX6_bestCalled_60 : decode cX6_bestCalled 60 = .ok (.istore 7, 2) := by decide +kernel
theorem dX6_bestCalled_62 : decode cX6_bestCalled 62 = .ok (.iload 7, 2) := by decide +kernel
theorem dX6_bestCalled_64 : decode cX6_bestCalled 64 = .ok (.sipush 1000, 3) := by decide +kernel
theorem dX6_bestCalled_67 : decode cX6_bestCalled 67 = .ok (.if_icmp .ge 65, 3) := by decide +kernel
theorem dX6_bestCalled_70 : decode cX6_bestCalled 70 = .ok (.iload_n 3, 1) := by decide +kernel
theorem dX6_bestCalled_71 : decode cX6_bestCalled 71 = .ok (.iload 7, 2) := by decide +kernel
theorem dX6_bestCalled_73 : decode cX6_bestCalled 73 = .ok (.invokestatic 172, 3) := by decide +kernel
theorem dX6_bestCalled_76 : decode cX6_bestCalled 76 = .ok (.istore 8, 2) := by decide +kernel
theorem dX6_bestCalled_78 : decode cX6_bestCalled 78 = .ok (.iload 8, 2) := by decide +kernel
theorem dX6_bestCalled_80 : decode cX6_bestCalled 80 = .ok (.iload 5, 2) := by decide +kernel
theorem dX6_bestCalled_82 : decode cX6_bestCalled 82 = .ok (.if_icmp .ge 8, 3) := by decide +kernel
theorem dX6_bestCalled_85 : decode cX6_bestCalled 85 = .ok (.iload 6, 2) := by decide +kernel
theorem dX6_bestCalled_87 : decode cX6_bestCalled 87 = .ok (.goto 7, 3) := by decide +kernel
theorem dX6_bestCalled_90 : decode cX6_bestCalled 90 = .ok (.iload 6, 2) := by decide +kernel
theorem dX6_bestCalled_92 : decode cX6_bestCalled 92 = .ok (.iconst 1, 1) := by decide +kernel
theorem dX6_bestCalled_93 : decode cX6_bestCalled 93 = .ok (.iadd, 1) := by decide +kernel
theorem dX6_bestCalled_94 : decode cX6_bestCalled 94 = .ok (.istore 9, 2) := by decide +kernel
theorem dX6_bestCalled_96 : decode cX6_bestCalled 96 = .ok (.aload_n 0, 1) := by decide +kernel
theorem dX6_bestCalled_97 : decode cX6_bestCalled 97 = .ok (.iload_n 1, 1) := by decide +kernel
theorem dX6_bestCalled_98 : decode cX6_bestCalled 98 = .ok (.iload 7, 2) := by decide +kernel
theorem dX6_bestCalled_100 : decode cX6_bestCalled 100 = .ok (.iload 9, 2) := by decide +kernel
theorem dX6_bestCalled_102 : decode cX6_bestCalled 102 = .ok (.invokevirtual 222, 3) := by decide +kernel
theorem dX6_bestCalled_105 : decode cX6_bestCalled 105 = .ok (.istore 10, 2) := by decide +kernel
theorem dX6_bestCalled_107 : decode cX6_bestCalled 107 = .ok (.iload 10, 2) := by decide +kernel
theorem dX6_bestCalled_109 : decode cX6_bestCalled 109 = .ok (.iload 9, 2) := by decide +kernel
theorem dX6_bestCalled_111 : decode cX6_bestCalled 111 = .ok (.if_icmp .lt 15, 3) := by decide +kernel
theorem dX6_bestCalled_114 : decode cX6_bestCalled 114 = .ok (.iload 7, 2) := by decide +kernel
theorem dX6_bestCalled_116 : decode cX6_bestCalled 116 = .ok (.istore 4, 2) := by decide +kernel
theorem dX6_bestCalled_118 : decode cX6_bestCalled 118 = .ok (.iload 8, 2) := by decide +kernel
theorem dX6_bestCalled_120 : decode cX6_bestCalled 120 = .ok (.istore 5, 2) := by decide +kernel
theorem dX6_bestCalled_122 : decode cX6_bestCalled 122 = .ok (.iload 10, 2) := by decide +kernel
theorem dX6_bestCalled_124 : decode cX6_bestCalled 124 = .ok (.istore 6, 2) := by decide +kernel
theorem dX6_bestCalled_126 : decode cX6_bestCalled 126 = .ok (.iinc 7 1, 3) := by decide +kernel
theorem dX6_bestCalled_129 : decode cX6_bestCalled 129 = .ok (.goto (-67), 3) := by decide +kernel
theorem dX6_bestCalled_132 : decode cX6_bestCalled 132 = .ok (.iload_n 2, 1) := by decide +kernel
theorem dX6_bestCalled_133 : decode cX6_bestCalled 133 = .ok (.ifCond .ne 8, 3) := by decide +kernel
theorem dX6_bestCalled_136 : decode cX6_bestCalled 136 = .ok (.iload 4, 2) := by decide +kernel
theorem dX6_bestCalled_138 : decode cX6_bestCalled 138 = .ok (.goto 5, 3) := by decide +kernel
theorem dX6_bestCalled_141 : decode cX6_bestCalled 141 = .ok (.iload 6, 2) := by decide +kernel
theorem dX6_bestCalled_143 : decode cX6_bestCalled 143 = .ok (.ireturn, 1) := by decide +kernel
theorem dX6_asks_0 : decode cX6_asks 0 = .ok (.iload_n 1, 1) := by decide +kernel
theorem dX6_asks_1 : decode cX6_asks 1 = .ok (.ifCond .lt 10, 3) := by decide +kernel
theorem dX6_asks_4 : decode cX6_asks 4 = .ok (.iload_n 1, 1) := by decide +kernel
theorem dX6_asks_5 : decode cX6_asks 5 = .ok (.sipush 9999, 3) := by decide +kernel
theorem dX6_asks_8 : decode cX6_asks 8 = .ok (.if_icmp .le 6, 3) := by decide +kernel
theorem dX6_asks_11 : decode cX6_asks 11 = .ok (.ldc 69, 2) := by decide +kernel
theorem dX6_asks_13 : decode cX6_asks 13 = .ok (.ireturn, 1) := by decide +kernel
theorem dX6_asks_14 : decode cX6_asks 14 = .ok (.iconst 0, 1) := by decide +kernel
theorem dX6_asks_15 : decode cX6_asks 15 = .ok (.istore_n 2, 1) := by decide +kernel
theorem dX6_asks_16 : decode cX6_asks 16 = .ok (.iconst 0, 1) := by decide +kernel
theorem dX6_asks_17 : decode cX6_asks 17 = .ok (.istore_n 3, 1) := by decide +kernel
theorem dX6_asks_18 : decode cX6_asks 18 = .ok (.iload_n 3, 1) := by decide +kernel
theorem dX6_asks_19 : decode cX6_asks 19 = .ok (.bipush 99, 2) := by decide +kernel
theorem dX6_asks_21 : decode cX6_asks 21 = .ok (.if_icmp .ge 36, 3) := by decide +kernel
theorem dX6_asks_24 : decode cX6_asks 24 = .ok (.iload_n 2, 1) := by decide +kernel
theorem dX6_asks_25 : decode cX6_asks 25 = .ok (.aload_n 0, 1) := by decide +kernel
theorem dX6_asks_26 : decode cX6_asks 26 = .ok (.getfield 23, 3) := by decide +kernel
theorem dX6_asks_29 : decode cX6_asks 29 = .ok (.getfield 103, 3) := by decide +kernel
theorem dX6_asks_32 : decode cX6_asks 32 = .ok (.aload_n 0, 1) := by decide +kernel
theorem dX6_asks_33 : decode cX6_asks 33 = .ok (.getfield 33, 3) := by decide +kernel
theorem dX6_asks_36 : decode cX6_asks 36 = .ok (.getfield 118, 3) := by decide +kernel
theorem dX6_asks_39 : decode cX6_asks 39 = .ok (.iadd, 1) := by decide +kernel
theorem dX6_asks_40 : decode cX6_asks 40 = .ok (.iload_n 3, 1) := by decide +kernel
theorem dX6_asks_41 : decode cX6_asks 41 = .ok (.iadd, 1) := by decide +kernel
theorem dX6_asks_42 : decode cX6_asks 42 = .ok (.iadd, 1) := by decide +kernel
theorem dX6_asks_43 : decode cX6_asks 43 = .ok (.istore_n 2, 1) := by decide +kernel
theorem dX6_asks_44 : decode cX6_asks 44 = .ok (.iload_n 2, 1) := by decide +kernel
theorem dX6_asks_45 : decode cX6_asks 45 = .ok (.iload_n 1, 1) := by decide +kernel
theorem dX6_asks_46 : decode cX6_asks 46 = .ok (.if_icmp .le 5, 3) := by decide +kernel
theorem dX6_asks_49 : decode cX6_asks 49 = .ok (.iload_n 3, 1) := by decide +kernel
theorem dX6_asks_50 : decode cX6_asks 50 = .ok (.ireturn, 1) := by decide +kernel
theorem dX6_asks_51 : decode cX6_asks 51 = .ok (.iinc 3 1, 3) := by decide +kernel
theorem dX6_asks_54 : decode cX6_asks 54 = .ok (.goto (-36), 3) := by decide +kernel
theorem dX6_asks_57 : decode cX6_asks 57 = .ok (.bipush 99, 2) := by decide +kernel
theorem dX6_asks_59 : decode cX6_asks 59 = .ok (.ireturn, 1) := by decide +kernel
theorem dX6_waked_0 : decode cX6_waked 0 = .ok (.iload_n 1, 1) := by decide +kernel
theorem dX6_waked_1 : decode cX6_waked 1 = .ok (.ifCond .lt 19, 3) := by decide +kernel
theorem dX6_waked_4 : decode cX6_waked 4 = .ok (.iload_n 1, 1) := by decide +kernel
theorem dX6_waked_5 : decode cX6_waked 5 = .ok (.bipush 60, 2) := by decide +kernel
theorem dX6_waked_7 : decode cX6_waked 7 = .ok (.if_icmp .gt 13, 3) := by decide +kernel
theorem dX6_waked_10 : decode cX6_waked 10 = .ok (.iload_n 2, 1) := by decide +kernel
theorem dX6_waked_11 : decode cX6_waked 11 = .ok (.ifCond .lt 9, 3) := by decide +kernel
theorem dX6_waked_14 : decode cX6_waked 14 = .ok (.iload_n 2, 1) := by decide +kernel
theorem dX6_waked_15 : decode cX6_waked 15 = .ok (.bipush 100, 2) := by decide +kernel
theorem dX6_waked_17 : decode cX6_waked 17 = .ok (.if_icmp .le 6, 3) := by decide +kernel
theorem dX6_waked_20 : decode cX6_waked 20 = .ok (.ldc 69, 2) := by decide +kernel
theorem dX6_waked_22 : decode cX6_waked 22 = .ok (.ireturn, 1) := by decide +kernel
theorem dX6_waked_23 : decode cX6_waked 23 = .ok (.ldc2_w 226, 3) := by decide +kernel
theorem dX6_waked_26 : decode cX6_waked 26 = .ok (.lstore_n 3, 1) := by decide +kernel
theorem dX6_waked_27 : decode cX6_waked 27 = .ok (.iconst 0, 1) := by decide +kernel
theorem dX6_waked_28 : decode cX6_waked 28 = .ok (.istore 5, 2) := by decide +kernel
theorem dX6_waked_30 : decode cX6_waked 30 = .ok (.iload 5, 2) := by decide +kernel
theorem dX6_waked_32 : decode cX6_waked 32 = .ok (.iload_n 1, 1) := by decide +kernel
theorem dX6_waked_33 : decode cX6_waked 33 = .ok (.if_icmp .ge 21, 3) := by decide +kernel
theorem dX6_waked_36 : decode cX6_waked 36 = .ok (.lload_n 3, 1) := by decide +kernel
theorem dX6_waked_37 : decode cX6_waked 37 = .ok (.bipush 100, 2) := by decide +kernel
theorem dX6_waked_39 : decode cX6_waked 39 = .ok (.iload_n 2, 1) := by decide +kernel
theorem dX6_waked_40 : decode cX6_waked 40 = .ok (.isub, 1) := by decide +kernel
theorem dX6_waked_41 : decode cX6_waked 41 = .ok (.i2l, 1) := by decide +kernel
theorem dX6_waked_42 : decode cX6_waked 42 = .ok (.lmul, 1) := by decide +kernel
theorem dX6_waked_43 : decode cX6_waked 43 = .ok (.ldc2_w 228, 3) := by decide +kernel
theorem dX6_waked_46 : decode cX6_waked 46 = .ok (.ldiv, 1) := by decide +kernel
theorem dX6_waked_47 : decode cX6_waked 47 = .ok (.lstore_n 3, 1) := by decide +kernel
theorem dX6_waked_48 : decode cX6_waked 48 = .ok (.iinc 5 1, 3) := by decide +kernel
theorem dX6_waked_51 : decode cX6_waked 51 = .ok (.goto (-21), 3) := by decide +kernel
theorem dX6_waked_54 : decode cX6_waked 54 = .ok (.lload_n 3, 1) := by decide +kernel
theorem dX6_waked_55 : decode cX6_waked 55 = .ok (.l2i, 1) := by decide +kernel
theorem dX6_waked_56 : decode cX6_waked 56 = .ok (.ireturn, 1) := by decide +kernel
theorem dX6_see_0 : decode cX6_see 0 = .ok (.aload_n 0, 1) := by decide +kernel
theorem dX6_see_1 : decode cX6_see 1 = .ok (.iload_n 1, 1) := by decide +kernel
theorem dX6_see_2 : decode cX6_see 2 = .ok (.invokevirtual 131, 3) := by decide +kernel
theorem dX6_see_5 : decode cX6_see 5 = .ok (.ifCond .eq 11, 3) := by decide +kernel
theorem dX6_see_8 : decode cX6_see 8 = .ok (.aload_n 0, 1) := by decide +kernel
theorem dX6_see_9 : decode cX6_see 9 = .ok (.iload_n 2, 1) := by decide +kernel
theorem dX6_see_10 : decode cX6_see 10 = .ok (.invokevirtual 131, 3) := by decide +kernel
theorem dX6_see_13 : decode cX6_see 13 = .ok (.ifCond .ne 6, 3) := by decide +kernel
theorem dX6_see_16 : decode cX6_see 16 = .ok (.ldc 134, 2) := by decide +kernel
theorem dX6_see_18 : decode cX6_see 18 = .ok (.ireturn, 1) := by decide +kernel
theorem dX6_see_19 : decode cX6_see 19 = .ok (.aload_n 0, 1) := by decide +kernel
theorem dX6_see_20 : decode cX6_see 20 = .ok (.getfield 61, 3) := by decide +kernel
theorem dX6_see_23 : decode cX6_see 23 = .ok (.iload_n 1, 1) := by decide +kernel
theorem dX6_see_24 : decode cX6_see 24 = .ok (.iload_n 2, 1) := by decide +kernel
theorem dX6_see_25 : decode cX6_see 25 = .ok (.invokevirtual 230, 3) := by decide +kernel
theorem dX6_see_28 : decode cX6_see 28 = .ok (.ifCond .eq 13, 3) := by decide +kernel
theorem dX6_see_31 : decode cX6_see 31 = .ok (.aload_n 0, 1) := by decide +kernel
theorem dX6_see_32 : decode cX6_see 32 = .ok (.getfield 61, 3) := by decide +kernel
theorem dX6_see_35 : decode cX6_see 35 = .ok (.getfield 127, 3) := by decide +kernel
theorem dX6_see_38 : decode cX6_see 38 = .ok (.goto 5, 3) := by decide +kernel
theorem dX6_see_41 : decode cX6_see 41 = .ok (.ldc 77, 2) := by decide +kernel
theorem dX6_see_43 : decode cX6_see 43 = .ok (.ireturn, 1) := by decide +kernel
theorem dX6_speaker_0 : decode cX6_speaker 0 = .ok (.iconst 0, 1) := by decide +kernel
theorem dX6_speaker_1 : decode cX6_speaker 1 = .ok (.istore_n 1, 1) := by decide +kernel
theorem dX6_speaker_2 : decode cX6_speaker 2 = .ok (.iconst 0, 1) := by decide +kernel
theorem dX6_speaker_3 : decode cX6_speaker 3 = .ok (.istore_n 2, 1) := by decide +kernel
theorem dX6_speaker_4 : decode cX6_speaker 4 = .ok (.iload_n 2, 1) := by decide +kernel
theorem dX6_speaker_5 : decode cX6_speaker 5 = .ok (.aload_n 0, 1) := by decide +kernel
theorem dX6_speaker_6 : decode cX6_speaker 6 = .ok (.getfield 23, 3) := by decide +kernel
theorem dX6_speaker_9 : decode cX6_speaker 9 = .ok (.getfield 112, 3) := by decide +kernel
theorem dX6_speaker_12 : decode cX6_speaker 12 = .ok (.if_icmp .ge 23, 3) := by decide +kernel
theorem dX6_speaker_15 : decode cX6_speaker 15 = .ok (.aload_n 0, 1) := by decide +kernel
theorem dX6_speaker_16 : decode cX6_speaker 16 = .ok (.iload_n 2, 1) := by decide +kernel
theorem dX6_speaker_17 : decode cX6_speaker 17 = .ok (.invokevirtual 233, 3) := by decide +kernel
theorem dX6_speaker_20 : decode cX6_speaker 20 = .ok (.ifCond .eq 9, 3) := by decide +kernel
theorem dX6_speaker_23 : decode cX6_speaker 23 = .ok (.iload_n 1, 1) := by decide +kernel
theorem dX6_speaker_24 : decode cX6_speaker 24 = .ok (.iconst 1, 1) := by decide +kernel
theorem dX6_speaker_25 : decode cX6_speaker 25 = .ok (.iload_n 2, 1) := by decide +kernel
theorem dX6_speaker_26 : decode cX6_speaker 26 = .ok (.ishl, 1) := by decide +kernel
theorem dX6_speaker_27 : decode cX6_speaker 27 = .ok (.ior, 1) := by decide +kernel
theorem dX6_speaker_28 : decode cX6_speaker 28 = .ok (.istore_n 1, 1) := by decide +kernel
theorem dX6_speaker_29 : decode cX6_speaker 29 = .ok (.iinc 2 1, 3) := by decide +kernel
theorem dX6_speaker_32 : decode cX6_speaker 32 = .ok (.goto (-28), 3) := by decide +kernel
theorem dX6_speaker_35 : decode cX6_speaker 35 = .ok (.iload_n 1, 1) := by decide +kernel
theorem dX6_speaker_36 : decode cX6_speaker 36 = .ok (.ireturn, 1) := by decide +kernel
theorem dX6_sayNext_0 : decode cX6_sayNext 0 = .ok (.aload_n 0, 1) := by decide +kernel
theorem dX6_sayNext_1 : decode cX6_sayNext 1 = .ok (.invokevirtual 236, 3) := by decide +kernel
theorem dX6_sayNext_4 : decode cX6_sayNext 4 = .ok (.istore_n 1, 1) := by decide +kernel
theorem dX6_sayNext_5 : decode cX6_sayNext 5 = .ok (.iconst (-1), 1) := by decide +kernel
theorem dX6_sayNext_6 : decode cX6_sayNext 6 = .ok (.istore_n 2, 1) := by decide +kernel
theorem dX6_sayNext_7 : decode cX6_sayNext 7 = .ok (.iload_n 1, 1) := by decide +kernel
theorem dX6_sayNext_8 : decode cX6_sayNext 8 = .ok (.invokestatic 239, 3) := by decide +kernel
theorem dX6_sayNext_11 : decode cX6_sayNext 11 = .ok (.istore_n 3, 1) := by decide +kernel
theorem dX6_sayNext_12 : decode cX6_sayNext 12 = .ok (.iconst 0, 1) := by decide +kernel
theorem dX6_sayNext_13 : decode cX6_sayNext 13 = .ok (.istore 4, 2) := by decide +kernel
theorem dX6_sayNext_15 : decode cX6_sayNext 15 = .ok (.iload 4, 2) := by decide +kernel
theorem dX6_sayNext_17 : decode cX6_sayNext 17 = .ok (.aload_n 0, 1) := by decide +kernel
theorem dX6_sayNext_18 : decode cX6_sayNext 18 = .ok (.getfield 23, 3) := by decide +kernel
theorem dX6_sayNext_21 : decode cX6_sayNext 21 = .ok (.getfield 100, 3) := by decide +kernel
theorem dX6_sayNext_24 : decode cX6_sayNext 24 = .ok (.if_icmp .ge 30, 3) := by decide +kernel
theorem dX6_sayNext_27 : decode cX6_sayNext 27 = .ok (.aload_n 0, 1) := by decide +kernel
theorem dX6_sayNext_28 : decode cX6_sayNext 28 = .ok (.iload 4, 2) := by decide +kernel
theorem dX6_sayNext_30 : decode cX6_sayNext 30 = .ok (.iload_n 1, 1) := by decide +kernel
theorem dX6_sayNext_31 : decode cX6_sayNext 31 = .ok (.invokevirtual 244, 3) := by decide +kernel
theorem dX6_sayNext_34 : decode cX6_sayNext 34 = .ok (.istore 5, 2) := by decide +kernel
theorem dX6_sayNext_36 : decode cX6_sayNext 36 = .ok (.iload 5, 2) := by decide +kernel
theorem dX6_sayNext_38 : decode cX6_sayNext 38 = .ok (.iload_n 3, 1) := by decide +kernel
theorem dX6_sayNext_39 : decode cX6_sayNext 39 = .ok (.if_icmp .ge 9, 3) := by decide +kernel
theorem dX6_sayNext_42 : decode cX6_sayNext 42 = .ok (.iload 4, 2) := by decide +kernel
theorem dX6_sayNext_44 : decode cX6_sayNext 44 = .ok (.istore_n 2, 1) := by decide +kernel
theorem dX6_sayNext_45 : decode cX6_sayNext 45 = .ok (.iload 5, 2) := by decide +kernel
theorem dX6_sayNext_47 : decode cX6_sayNext 47 = .ok (.istore_n 3, 1) := by decide +kernel
theorem dX6_sayNext_48 : decode cX6_sayNext 48 = .ok (.iinc 4 1, 3) := by decide +kernel
theorem dX6_sayNext_51 : decode cX6_sayNext 51 = .ok (.goto (-36), 3) := by decide +kernel
theorem dX6_sayNext_54 : decode cX6_sayNext 54 = .ok (.iload_n 2, 1) := by decide +kernel
theorem dX6_sayNext_55 : decode cX6_sayNext 55 = .ok (.ireturn, 1) := by decide +kernel
theorem dX6_write_0 : decode cX6_write 0 = .ok (.aload_n 0, 1) := by decide +kernel
theorem dX6_write_1 : decode cX6_write 1 = .ok (.iload_n 1, 1) := by decide +kernel
theorem dX6_write_2 : decode cX6_write 2 = .ok (.invokevirtual 131, 3) := by decide +kernel
theorem dX6_write_5 : decode cX6_write 5 = .ok (.ifCond .ne 6, 3) := by decide +kernel
theorem dX6_write_8 : decode cX6_write 8 = .ok (.ldc 134, 2) := by decide +kernel
theorem dX6_write_10 : decode cX6_write 10 = .ok (.ireturn, 1) := by decide +kernel
theorem dX6_write_11 : decode cX6_write 11 = .ok (.iload_n 2, 1) := by decide +kernel
theorem dX6_write_12 : decode cX6_write 12 = .ok (.ifCond .lt 9, 3) := by decide +kernel
theorem dX6_write_15 : decode cX6_write 15 = .ok (.iload_n 2, 1) := by decide +kernel
theorem dX6_write_16 : decode cX6_write 16 = .ok (.bipush 99, 2) := by decide +kernel
theorem dX6_write_18 : decode cX6_write 18 = .ok (.if_icmp .le 6, 3) := by decide +kernel
theorem dX6_write_21 : decode cX6_write 21 = .ok (.ldc 69, 2) := by decide +kernel
theorem dX6_write_23 : decode cX6_write 23 = .ok (.ireturn, 1) := by decide +kernel
theorem dX6_write_24 : decode cX6_write 24 = .ok (.aload_n 0, 1) := by decide +kernel
theorem dX6_write_25 : decode cX6_write 25 = .ok (.getfield 65, 3) := by decide +kernel
theorem dX6_write_28 : decode cX6_write 28 = .ok (.iload_n 1, 1) := by decide +kernel
theorem dX6_write_29 : decode cX6_write 29 = .ok (.iload_n 2, 1) := by decide +kernel
theorem dX6_write_30 : decode cX6_write 30 = .ok (.invokevirtual 230, 3) := by decide +kernel
theorem dX6_write_33 : decode cX6_write 33 = .ok (.ifCond .eq 13, 3) := by decide +kernel
theorem dX6_write_36 : decode cX6_write 36 = .ok (.aload_n 0, 1) := by decide +kernel
theorem dX6_write_37 : decode cX6_write 37 = .ok (.getfield 65, 3) := by decide +kernel
theorem dX6_write_40 : decode cX6_write 40 = .ok (.getfield 127, 3) := by decide +kernel
theorem dX6_write_43 : decode cX6_write 43 = .ok (.goto 5, 3) := by decide +kernel
theorem dX6_write_46 : decode cX6_write 46 = .ok (.ldc 77, 2) := by decide +kernel
theorem dX6_write_48 : decode cX6_write 48 = .ok (.ireturn, 1) := by decide +kernel
theorem dX6_tear_0 : decode cX6_tear 0 = .ok (.aload_n 0, 1) := by decide +kernel
theorem dX6_tear_1 : decode cX6_tear 1 = .ok (.getfield 61, 3) := by decide +kernel
theorem dX6_tear_4 : decode cX6_tear 4 = .ok (.getfield 127, 3) := by decide +kernel
theorem dX6_tear_7 : decode cX6_tear 7 = .ok (.aload_n 0, 1) := by decide +kernel
theorem dX6_tear_8 : decode cX6_tear 8 = .ok (.getfield 65, 3) := by decide +kernel
theorem dX6_tear_11 : decode cX6_tear 11 = .ok (.getfield 127, 3) := by decide +kernel
theorem dX6_tear_14 : decode cX6_tear 14 = .ok (.iadd, 1) := by decide +kernel
theorem dX6_tear_15 : decode cX6_tear 15 = .ok (.istore_n 1, 1) := by decide +kernel
theorem dX6_tear_16 : decode cX6_tear 16 = .ok (.aload_n 0, 1) := by decide +kernel
theorem dX6_tear_17 : decode cX6_tear 17 = .ok (.getfield 61, 3) := by decide +kernel
theorem dX6_tear_20 : decode cX6_tear 20 = .ok (.invokevirtual 99, 3) := by decide +kernel
theorem dX6_tear_23 : decode cX6_tear 23 = .ok (.aload_n 0, 1) := by decide +kernel
theorem dX6_tear_24 : decode cX6_tear 24 = .ok (.getfield 65, 3) := by decide +kernel
theorem dX6_tear_27 : decode cX6_tear 27 = .ok (.invokevirtual 99, 3) := by decide +kernel
theorem dX6_tear_30 : decode cX6_tear 30 = .ok (.iload_n 1, 1) := by decide +kernel
theorem dX6_tear_31 : decode cX6_tear 31 = .ok (.ireturn, 1) := by decide +kernel
theorem dX6_judge_0 : decode cX6_judge 0 = .ok (.iconst 0, 1) := by decide +kernel
theorem dX6_judge_1 : decode cX6_judge 1 = .ok (.istore_n 1, 1) := by decide +kernel
theorem dX6_judge_2 : decode cX6_judge 2 = .ok (.iload_n 1, 1) := by decide +kernel
theorem dX6_judge_3 : decode cX6_judge 3 = .ok (.aload_n 0, 1) := by decide +kernel
theorem dX6_judge_4 : decode cX6_judge 4 = .ok (.getfield 65, 3) := by decide +kernel
theorem dX6_judge_7 : decode cX6_judge 7 = .ok (.getfield 127, 3) := by decide +kernel
theorem dX6_judge_10 : decode cX6_judge 10 = .ok (.if_icmp .ge 50, 3) := by decide +kernel
theorem dX6_judge_13 : decode cX6_judge 13 = .ok (.aload_n 0, 1) := by decide +kernel
theorem dX6_judge_14 : decode cX6_judge 14 = .ok (.getfield 65, 3) := by decide +kernel
theorem dX6_judge_17 : decode cX6_judge 17 = .ok (.getfield 247, 3) := by decide +kernel
theorem dX6_judge_20 : decode cX6_judge 20 = .ok (.iload_n 1, 1) := by decide +kernel
theorem dX6_judge_21 : decode cX6_judge 21 = .ok (.iaload, 1) := by decide +kernel
theorem dX6_judge_22 : decode cX6_judge 22 = .ok (.istore_n 2, 1) := by decide +kernel
theorem dX6_judge_23 : decode cX6_judge 23 = .ok (.aload_n 0, 1) := by decide +kernel
theorem dX6_judge_24 : decode cX6_judge 24 = .ok (.iload_n 2, 1) := by decide +kernel
theorem dX6_judge_25 : decode cX6_judge 25 = .ok (.invokevirtual 131, 3) := by decide +kernel
theorem dX6_judge_28 : decode cX6_judge 28 = .ok (.ifCond .eq 26, 3) := by decide +kernel
theorem dX6_judge_31 : decode cX6_judge 31 = .ok (.aload_n 0, 1) := by decide +kernel
theorem dX6_judge_32 : decode cX6_judge 32 = .ok (.getfield 33, 3) := by decide +kernel
theorem dX6_judge_35 : decode cX6_judge 35 = .ok (.getfield 145, 3) := by decide +kernel
theorem dX6_judge_38 : decode cX6_judge 38 = .ok (.iload_n 2, 1) := by decide +kernel
theorem dX6_judge_39 : decode cX6_judge 39 = .ok (.iaload, 1) := by decide +kernel
theorem dX6_judge_40 : decode cX6_judge 40 = .ok (.aload_n 0, 1) := by decide +kernel
theorem dX6_judge_41 : decode cX6_judge 41 = .ok (.getfield 65, 3) := by decide +kernel
theorem dX6_judge_44 : decode cX6_judge 44 = .ok (.getfield 250, 3) := by decide +kernel
theorem dX6_judge_47 : decode cX6_judge 47 = .ok (.iload_n 1, 1) := by decide +kernel
theorem dX6_judge_48 : decode cX6_judge 48 = .ok (.iaload, 1) := by decide +kernel
theorem dX6_judge_49 : decode cX6_judge 49 = .ok (.if_icmp .eq 5, 3) := by decide +kernel
theorem dX6_judge_52 : decode cX6_judge 52 = .ok (.iload_n 1, 1) := by decide +kernel
theorem dX6_judge_53 : decode cX6_judge 53 = .ok (.ireturn, 1) := by decide +kernel
theorem dX6_judge_54 : decode cX6_judge 54 = .ok (.iinc 1 1, 3) := by decide +kernel
theorem dX6_judge_57 : decode cX6_judge 57 = .ok (.goto (-55), 3) := by decide +kernel
theorem dX6_judge_60 : decode cX6_judge 60 = .ok (.iconst (-1), 1) := by decide +kernel
theorem dX6_judge_61 : decode cX6_judge 61 = .ok (.ireturn, 1) := by decide +kernel
theorem dX6_seed_0 : decode cX6_seed 0 = .ok (.iload_n 1, 1) := by decide +kernel
theorem dX6_seed_1 : decode cX6_seed 1 = .ok (.ifCond .ge 6, 3) := by decide +kernel
theorem dX6_seed_4 : decode cX6_seed 4 = .ok (.ldc 69, 2) := by decide +kernel
theorem dX6_seed_6 : decode cX6_seed 6 = .ok (.ireturn, 1) := by decide +kernel
theorem dX6_seed_7 : decode cX6_seed 7 = .ok (.aload_n 0, 1) := by decide +kernel
theorem dX6_seed_8 : decode cX6_seed 8 = .ok (.getfield 53, 3) := by decide +kernel
theorem dX6_seed_11 : decode cX6_seed 11 = .ok (.istore_n 2, 1) := by decide +kernel
theorem dX6_seed_12 : decode cX6_seed 12 = .ok (.aload_n 0, 1) := by decide +kernel
theorem dX6_seed_13 : decode cX6_seed 13 = .ok (.iload_n 1, 1) := by decide +kernel
theorem dX6_seed_14 : decode cX6_seed 14 = .ok (.putfield 53, 3) := by decide +kernel
theorem dX6_seed_17 : decode cX6_seed 17 = .ok (.iload_n 2, 1) := by decide +kernel
theorem dX6_seed_18 : decode cX6_seed 18 = .ok (.ireturn, 1) := by decide +kernel
theorem dX6_keep_0 : decode cX6_keep 0 = .ok (.iload_n 1, 1) := by decide +kernel
theorem dX6_keep_1 : decode cX6_keep 1 = .ok (.invokestatic 253, 3) := by decide +kernel
theorem dX6_keep_4 : decode cX6_keep 4 = .ok (.ifCond .ne 6, 3) := by decide +kernel
theorem dX6_keep_7 : decode cX6_keep 7 = .ok (.ldc 134, 2) := by decide +kernel
theorem dX6_keep_9 : decode cX6_keep 9 = .ok (.ireturn, 1) := by decide +kernel
theorem dX6_keep_10 : decode cX6_keep 10 = .ok (.aload_n 0, 1) := by decide +kernel
theorem dX6_keep_11 : decode cX6_keep 11 = .ok (.getfield 49, 3) := by decide +kernel
theorem dX6_keep_14 : decode cX6_keep 14 = .ok (.iload_n 1, 1) := by decide +kernel
theorem dX6_keep_15 : decode cX6_keep 15 = .ok (.aaload, 1) := by decide +kernel
theorem dX6_keep_16 : decode cX6_keep 16 = .ok (.getfield 256, 3) := by decide +kernel
theorem dX6_keep_19 : decode cX6_keep 19 = .ok (.aload_n 0, 1) := by decide +kernel
theorem dX6_keep_20 : decode cX6_keep 20 = .ok (.getfield 33, 3) := by decide +kernel
theorem dX6_keep_23 : decode cX6_keep 23 = .ok (.invokevirtual 219, 3) := by decide +kernel
theorem dX6_keep_26 : decode cX6_keep 26 = .ok (.aload_n 0, 1) := by decide +kernel
theorem dX6_keep_27 : decode cX6_keep 27 = .ok (.getfield 49, 3) := by decide +kernel
theorem dX6_keep_30 : decode cX6_keep 30 = .ok (.iload_n 1, 1) := by decide +kernel
theorem dX6_keep_31 : decode cX6_keep 31 = .ok (.aaload, 1) := by decide +kernel
theorem dX6_keep_32 : decode cX6_keep 32 = .ok (.aload_n 0, 1) := by decide +kernel
theorem dX6_keep_33 : decode cX6_keep 33 = .ok (.getfield 53, 3) := by decide +kernel
theorem dX6_keep_36 : decode cX6_keep 36 = .ok (.putfield 259, 3) := by decide +kernel
theorem dX6_keep_39 : decode cX6_keep 39 = .ok (.aload_n 0, 1) := by decide +kernel
theorem dX6_keep_40 : decode cX6_keep 40 = .ok (.getfield 49, 3) := by decide +kernel
theorem dX6_keep_43 : decode cX6_keep 43 = .ok (.iload_n 1, 1) := by decide +kernel
theorem dX6_keep_44 : decode cX6_keep 44 = .ok (.aaload, 1) := by decide +kernel
theorem dX6_keep_45 : decode cX6_keep 45 = .ok (.iconst 1, 1) := by decide +kernel
theorem dX6_keep_46 : decode cX6_keep 46 = .ok (.putfield 95, 3) := by decide +kernel
theorem dX6_keep_49 : decode cX6_keep 49 = .ok (.aload_n 0, 1) := by decide +kernel
theorem dX6_keep_50 : decode cX6_keep 50 = .ok (.getfield 43, 3) := by decide +kernel
theorem dX6_keep_53 : decode cX6_keep 53 = .ok (.invokevirtual 92, 3) := by decide +kernel
theorem dX6_keep_56 : decode cX6_keep 56 = .ok (.iconst 1, 1) := by decide +kernel
theorem dX6_keep_57 : decode cX6_keep 57 = .ok (.ireturn, 1) := by decide +kernel
theorem dX6_goBack_0 : decode cX6_goBack 0 = .ok (.iload_n 1, 1) := by decide +kernel
theorem dX6_goBack_1 : decode cX6_goBack 1 = .ok (.invokestatic 253, 3) := by decide +kernel
theorem dX6_goBack_4 : decode cX6_goBack 4 = .ok (.ifCond .ne 6, 3) := by decide +kernel
theorem dX6_goBack_7 : decode cX6_goBack 7 = .ok (.ldc 134, 2) := by decide +kernel
theorem dX6_goBack_9 : decode cX6_goBack 9 = .ok (.ireturn, 1) := by decide +kernel
theorem dX6_goBack_10 : decode cX6_goBack 10 = .ok (.aload_n 0, 1) := by decide +kernel
theorem dX6_goBack_11 : decode cX6_goBack 11 = .ok (.getfield 49, 3) := by decide +kernel
theorem dX6_goBack_14 : decode cX6_goBack 14 = .ok (.iload_n 1, 1) := by decide +kernel
theorem dX6_goBack_15 : decode cX6_goBack 15 = .ok (.aaload, 1) := by decide +kernel
theorem dX6_goBack_16 : decode cX6_goBack 16 = .ok (.getfield 95, 3) := by decide +kernel
theorem dX6_goBack_19 : decode cX6_goBack 19 = .ok (.ifCond .ne 6, 3) := by decide +kernel
theorem dX6_goBack_22 : decode cX6_goBack 22 = .ok (.ldc 157, 2) := by decide +kernel
theorem dX6_goBack_24 : decode cX6_goBack 24 = .ok (.ireturn, 1) := by decide +kernel
theorem dX6_goBack_25 : decode cX6_goBack 25 = .ok (.aload_n 0, 1) := by decide +kernel
theorem dX6_goBack_26 : decode cX6_goBack 26 = .ok (.getfield 33, 3) := by decide +kernel
theorem dX6_goBack_29 : decode cX6_goBack 29 = .ok (.aload_n 0, 1) := by decide +kernel
theorem dX6_goBack_30 : decode cX6_goBack 30 = .ok (.getfield 49, 3) := by decide +kernel
theorem dX6_goBack_33 : decode cX6_goBack 33 = .ok (.iload_n 1, 1) := by decide +kernel
theorem dX6_goBack_34 : decode cX6_goBack 34 = .ok (.aaload, 1) := by decide +kernel
theorem dX6_goBack_35 : decode cX6_goBack 35 = .ok (.getfield 256, 3) := by decide +kernel
theorem dX6_goBack_38 : decode cX6_goBack 38 = .ok (.invokevirtual 219, 3) := by decide +kernel
theorem dX6_goBack_41 : decode cX6_goBack 41 = .ok (.aload_n 0, 1) := by decide +kernel
theorem dX6_goBack_42 : decode cX6_goBack 42 = .ok (.aload_n 0, 1) := by decide +kernel
theorem dX6_goBack_43 : decode cX6_goBack 43 = .ok (.getfield 49, 3) := by decide +kernel
theorem dX6_goBack_46 : decode cX6_goBack 46 = .ok (.iload_n 1, 1) := by decide +kernel
theorem dX6_goBack_47 : decode cX6_goBack 47 = .ok (.aaload, 1) := by decide +kernel
theorem dX6_goBack_48 : decode cX6_goBack 48 = .ok (.getfield 259, 3) := by decide +kernel
theorem dX6_goBack_51 : decode cX6_goBack 51 = .ok (.putfield 53, 3) := by decide +kernel
theorem dX6_goBack_54 : decode cX6_goBack 54 = .ok (.aload_n 0, 1) := by decide +kernel
theorem dX6_goBack_55 : decode cX6_goBack 55 = .ok (.getfield 43, 3) := by decide +kernel
theorem dX6_goBack_58 : decode cX6_goBack 58 = .ok (.invokevirtual 92, 3) := by decide +kernel
theorem dX6_goBack_61 : decode cX6_goBack 61 = .ok (.iconst 1, 1) := by decide +kernel
theorem dX6_goBack_62 : decode cX6_goBack 62 = .ok (.ireturn, 1) := by decide +kernel
theorem dX6_isWord_0 : decode cX6_isWord 0 = .ok (.iload_n 1, 1) := by decide +kernel
theorem dX6_isWord_1 : decode cX6_isWord 1 = .ok (.ifCond .lt 18, 3) := by decide +kernel
theorem dX6_isWord_4 : decode cX6_isWord 4 = .ok (.iload_n 1, 1) := by decide +kernel
theorem dX6_isWord_5 : decode cX6_isWord 5 = .ok (.aload_n 0, 1) := by decide +kernel
theorem dX6_isWord_6 : decode cX6_isWord 6 = .ok (.getfield 23, 3) := by decide +kernel
theorem dX6_isWord_9 : decode cX6_isWord 9 = .ok (.getfield 100, 3) := by decide +kernel
theorem dX6_isWord_12 : decode cX6_isWord 12 = .ok (.if_icmp .ge 7, 3) := by decide +kernel
theorem dX6_isWord_15 : decode cX6_isWord 15 = .ok (.iconst 1, 1) := by decide +kernel
theorem dX6_isWord_16 : decode cX6_isWord 16 = .ok (.goto 4, 3) := by decide +kernel
theorem dX6_isWord_19 : decode cX6_isWord 19 = .ok (.iconst 0, 1) := by decide +kernel
theorem dX6_isWord_20 : decode cX6_isWord 20 = .ok (.ireturn, 1) := by decide +kernel
theorem dX6_isVoice_0 : decode cX6_isVoice 0 = .ok (.iload_n 1, 1) := by decide +kernel
theorem dX6_isVoice_1 : decode cX6_isVoice 1 = .ok (.ifCond .lt 18, 3) := by decide +kernel
theorem dX6_isVoice_4 : decode cX6_isVoice 4 = .ok (.iload_n 1, 1) := by decide +kernel
theorem dX6_isVoice_5 : decode cX6_isVoice 5 = .ok (.aload_n 0, 1) := by decide +kernel
theorem dX6_isVoice_6 : decode cX6_isVoice 6 = .ok (.getfield 23, 3) := by decide +kernel
theorem dX6_isVoice_9 : decode cX6_isVoice 9 = .ok (.getfield 112, 3) := by decide +kernel
theorem dX6_isVoice_12 : decode cX6_isVoice 12 = .ok (.if_icmp .ge 7, 3) := by decide +kernel
theorem dX6_isVoice_15 : decode cX6_isVoice 15 = .ok (.iconst 1, 1) := by decide +kernel
theorem dX6_isVoice_16 : decode cX6_isVoice 16 = .ok (.goto 4, 3) := by decide +kernel
theorem dX6_isVoice_19 : decode cX6_isVoice 19 = .ok (.iconst 0, 1) := by decide +kernel
theorem dX6_isVoice_20 : decode cX6_isVoice 20 = .ok (.ireturn, 1) := by decide +kernel
theorem dX6_isImage_0 : decode cX6_isImage 0 = .ok (.iload_n 0, 1) := by decide +kernel
theorem dX6_isImage_1 : decode cX6_isImage 1 = .ok (.ifCond .lt 12, 3) := by decide +kernel
theorem dX6_isImage_4 : decode cX6_isImage 4 = .ok (.iload_n 0, 1) := by decide +kernel
theorem dX6_isImage_5 : decode cX6_isImage 5 = .ok (.iconst 2, 1) := by decide +kernel
theorem dX6_isImage_6 : decode cX6_isImage 6 = .ok (.if_icmp .ge 7, 3) := by decide +kernel
theorem dX6_isImage_9 : decode cX6_isImage 9 = .ok (.iconst 1, 1) := by decide +kernel
theorem dX6_isImage_10 : decode cX6_isImage 10 = .ok (.goto 4, 3) := by decide +kernel
theorem dX6_isImage_13 : decode cX6_isImage 13 = .ok (.iconst 0, 1) := by decide +kernel
theorem dX6_isImage_14 : decode cX6_isImage 14 = .ok (.ireturn, 1) := by decide +kernel
theorem dX6_isSound_0 : decode cX6_isSound 0 = .ok (.iload_n 0, 1) := by decide +kernel
theorem dX6_isSound_1 : decode cX6_isSound 1 = .ok (.ifCond .lt 14, 3) := by decide +kernel
theorem dX6_isSound_4 : decode cX6_isSound 4 = .ok (.iload_n 0, 1) := by decide +kernel
theorem dX6_isSound_5 : decode cX6_isSound 5 = .ok (.sipush 1000, 3) := by decide +kernel
theorem dX6_isSound_8 : decode cX6_isSound 8 = .ok (.if_icmp .ge 7, 3) := by decide +kernel
theorem dX6_isSound_11 : decode cX6_isSound 11 = .ok (.iconst 1, 1) := by decide +kernel
theorem dX6_isSound_12 : decode cX6_isSound 12 = .ok (.goto 4, 3) := by decide +kernel
theorem dX6_isSound_15 : decode cX6_isSound 15 = .ok (.iconst 0, 1) := by decide +kernel
theorem dX6_isSound_16 : decode cX6_isSound 16 = .ok (.ireturn, 1) := by decide +kernel
theorem dX6_isDistance_0 : decode cX6_isDistance 0 = .ok (.iload_n 0, 1) := by decide +kernel
theorem dX6_isDistance_1 : decode cX6_isDistance 1 = .ok (.ifCond .lt 13, 3) := by decide +kernel
theorem dX6_isDistance_4 : decode cX6_isDistance 4 = .ok (.iload_n 0, 1) := by decide +kernel
theorem dX6_isDistance_5 : decode cX6_isDistance 5 = .ok (.bipush 27, 2) := by decide +kernel
theorem dX6_isDistance_7 : decode cX6_isDistance 7 = .ok (.if_icmp .gt 7, 3) := by decide +kernel
theorem dX6_isDistance_10 : decode cX6_isDistance 10 = .ok (.iconst 1, 1) := by decide +kernel
theorem dX6_isDistance_11 : decode cX6_isDistance 11 = .ok (.goto 4, 3) := by decide +kernel
theorem dX6_isDistance_14 : decode cX6_isDistance 14 = .ok (.iconst 0, 1) := by decide +kernel
theorem dX6_isDistance_15 : decode cX6_isDistance 15 = .ok (.ireturn, 1) := by decide +kernel
theorem dX6_apart_0 : decode cX6_apart 0 = .ok (.iload_n 0, 1) := by decide +kernel
theorem dX6_apart_1 : decode cX6_apart 1 = .ok (.bipush 100, 2) := by decide +kernel
theorem dX6_apart_3 : decode cX6_apart 3 = .ok (.idiv, 1) := by decide +kernel
theorem dX6_apart_4 : decode cX6_apart 4 = .ok (.iload_n 1, 1) := by decide +kernel
theorem dX6_apart_5 : decode cX6_apart 5 = .ok (.bipush 100, 2) := by decide +kernel
theorem dX6_apart_7 : decode cX6_apart 7 = .ok (.idiv, 1) := by decide +kernel
theorem dX6_apart_8 : decode cX6_apart 8 = .ok (.isub, 1) := by decide +kernel
theorem dX6_apart_9 : decode cX6_apart 9 = .ok (.invokestatic 260, 3) := by decide +kernel
theorem dX6_apart_12 : decode cX6_apart 12 = .ok (.iload_n 0, 1) := by decide +kernel
theorem dX6_apart_13 : decode cX6_apart 13 = .ok (.bipush 10, 2) := by decide +kernel
theorem dX6_apart_15 : decode cX6_apart 15 = .ok (.idiv, 1) := by decide +kernel
theorem dX6_apart_16 : decode cX6_apart 16 = .ok (.bipush 10, 2) := by decide +kernel
theorem dX6_apart_18 : decode cX6_apart 18 = .ok (.irem, 1) := by decide +kernel
theorem dX6_apart_19 : decode cX6_apart 19 = .ok (.iload_n 1, 1) := by decide +kernel
theorem dX6_apart_20 : decode cX6_apart 20 = .ok (.bipush 10, 2) := by decide +kernel
theorem dX6_apart_22 : decode cX6_apart 22 = .ok (.idiv, 1) := by decide +kernel
theorem dX6_apart_23 : decode cX6_apart 23 = .ok (.bipush 10, 2) := by decide +kernel
theorem dX6_apart_25 : decode cX6_apart 25 = .ok (.irem, 1) := by decide +kernel
theorem dX6_apart_26 : decode cX6_apart 26 = .ok (.isub, 1) := by decide +kernel
theorem dX6_apart_27 : decode cX6_apart 27 = .ok (.invokestatic 260, 3) := by decide +kernel
theorem dX6_apart_30 : decode cX6_apart 30 = .ok (.iadd, 1) := by decide +kernel
theorem dX6_apart_31 : decode cX6_apart 31 = .ok (.iload_n 0, 1) := by decide +kernel
theorem dX6_apart_32 : decode cX6_apart 32 = .ok (.bipush 10, 2) := by decide +kernel
theorem dX6_apart_34 : decode cX6_apart 34 = .ok (.irem, 1) := by decide +kernel
theorem dX6_apart_35 : decode cX6_apart 35 = .ok (.iload_n 1, 1) := by decide +kernel
theorem dX6_apart_36 : decode cX6_apart 36 = .ok (.bipush 10, 2) := by decide +kernel
theorem dX6_apart_38 : decode cX6_apart 38 = .ok (.irem, 1) := by decide +kernel
theorem dX6_apart_39 : decode cX6_apart 39 = .ok (.isub, 1) := by decide +kernel
theorem dX6_apart_40 : decode cX6_apart 40 = .ok (.invokestatic 260, 3) := by decide +kernel
theorem dX6_apart_43 : decode cX6_apart 43 = .ok (.iadd, 1) := by decide +kernel
theorem dX6_apart_44 : decode cX6_apart 44 = .ok (.ireturn, 1) := by decide +kernel
theorem dX6_shifted_0 : decode cX6_shifted 0 = .ok (.iload_n 0, 1) := by decide +kernel
theorem dX6_shifted_1 : decode cX6_shifted 1 = .ok (.bipush 100, 2) := by decide +kernel
theorem dX6_shifted_3 : decode cX6_shifted 3 = .ok (.idiv, 1) := by decide +kernel
theorem dX6_shifted_4 : decode cX6_shifted 4 = .ok (.iload_n 1, 1) := by decide +kernel
theorem dX6_shifted_5 : decode cX6_shifted 5 = .ok (.bipush 100, 2) := by decide +kernel
theorem dX6_shifted_7 : decode cX6_shifted 7 = .ok (.idiv, 1) := by decide +kernel
theorem dX6_shifted_8 : decode cX6_shifted 8 = .ok (.iadd, 1) := by decide +kernel
theorem dX6_shifted_9 : decode cX6_shifted 9 = .ok (.bipush 10, 2) := by decide +kernel
theorem dX6_shifted_11 : decode cX6_shifted 11 = .ok (.irem, 1) := by decide +kernel
theorem dX6_shifted_12 : decode cX6_shifted 12 = .ok (.istore_n 2, 1) := by decide +kernel
theorem dX6_shifted_13 : decode cX6_shifted 13 = .ok (.iload_n 0, 1) := by decide +kernel
theorem dX6_shifted_14 : decode cX6_shifted 14 = .ok (.bipush 10, 2) := by decide +kernel
theorem dX6_shifted_16 : decode cX6_shifted 16 = .ok (.idiv, 1) := by decide +kernel
theorem dX6_shifted_17 : decode cX6_shifted 17 = .ok (.iload_n 1, 1) := by decide +kernel
theorem dX6_shifted_18 : decode cX6_shifted 18 = .ok (.bipush 10, 2) := by decide +kernel
theorem dX6_shifted_20 : decode cX6_shifted 20 = .ok (.idiv, 1) := by decide +kernel
theorem dX6_shifted_21 : decode cX6_shifted 21 = .ok (.iadd, 1) := by decide +kernel
theorem dX6_shifted_22 : decode cX6_shifted 22 = .ok (.bipush 10, 2) := by decide +kernel
theorem dX6_shifted_24 : decode cX6_shifted 24 = .ok (.irem, 1) := by decide +kernel
theorem dX6_shifted_25 : decode cX6_shifted 25 = .ok (.istore_n 3, 1) := by decide +kernel
theorem dX6_shifted_26 : decode cX6_shifted 26 = .ok (.iload_n 0, 1) := by decide +kernel
theorem dX6_shifted_27 : decode cX6_shifted 27 = .ok (.iload_n 1, 1) := by decide +kernel
theorem dX6_shifted_28 : decode cX6_shifted 28 = .ok (.iadd, 1) := by decide +kernel
theorem dX6_shifted_29 : decode cX6_shifted 29 = .ok (.bipush 10, 2) := by decide +kernel
theorem dX6_shifted_31 : decode cX6_shifted 31 = .ok (.irem, 1) := by decide +kernel
theorem dX6_shifted_32 : decode cX6_shifted 32 = .ok (.istore 4, 2) := by decide +kernel
theorem dX6_shifted_34 : decode cX6_shifted 34 = .ok (.bipush 100, 2) := by decide +kernel
theorem dX6_shifted_36 : decode cX6_shifted 36 = .ok (.iload_n 2, 1) := by decide +kernel
theorem dX6_shifted_37 : decode cX6_shifted 37 = .ok (.imul, 1) := by decide +kernel
theorem dX6_shifted_38 : decode cX6_shifted 38 = .ok (.bipush 10, 2) := by decide +kernel
theorem dX6_shifted_40 : decode cX6_shifted 40 = .ok (.iload_n 3, 1) := by decide +kernel
theorem dX6_shifted_41 : decode cX6_shifted 41 = .ok (.imul, 1) := by decide +kernel
theorem dX6_shifted_42 : decode cX6_shifted 42 = .ok (.iadd, 1) := by decide +kernel
theorem dX6_shifted_43 : decode cX6_shifted 43 = .ok (.iload 4, 2) := by decide +kernel
theorem dX6_shifted_45 : decode cX6_shifted 45 = .ok (.iadd, 1) := by decide +kernel
theorem dX6_shifted_46 : decode cX6_shifted 46 = .ok (.ireturn, 1) := by decide +kernel
theorem dX6_spoken_0 : decode cX6_spoken 0 = .ok (.aload_n 0, 1) := by decide +kernel
theorem dX6_spoken_1 : decode cX6_spoken 1 = .ok (.getfield 33, 3) := by decide +kernel
theorem dX6_spoken_4 : decode cX6_spoken 4 = .ok (.getfield 135, 3) := by decide +kernel
theorem dX6_spoken_7 : decode cX6_spoken 7 = .ok (.iload_n 1, 1) := by decide +kernel
theorem dX6_spoken_8 : decode cX6_spoken 8 = .ok (.iaload, 1) := by decide +kernel
theorem dX6_spoken_9 : decode cX6_spoken 9 = .ok (.aload_n 0, 1) := by decide +kernel
theorem dX6_spoken_10 : decode cX6_spoken 10 = .ok (.getfield 23, 3) := by decide +kernel
theorem dX6_spoken_13 : decode cX6_spoken 13 = .ok (.getfield 151, 3) := by decide +kernel
theorem dX6_spoken_16 : decode cX6_spoken 16 = .ok (.iload_n 2, 1) := by decide +kernel
theorem dX6_spoken_17 : decode cX6_spoken 17 = .ok (.iaload, 1) := by decide +kernel
theorem dX6_spoken_18 : decode cX6_spoken 18 = .ok (.invokestatic 265, 3) := by decide +kernel
theorem dX6_spoken_21 : decode cX6_spoken 21 = .ok (.ireturn, 1) := by decide +kernel
theorem dX6_understood_0 : decode cX6_understood 0 = .ok (.aload_n 0, 1) := by decide +kernel
theorem dX6_understood_1 : decode cX6_understood 1 = .ok (.getfield 33, 3) := by decide +kernel
theorem dX6_understood_4 : decode cX6_understood 4 = .ok (.aload_n 0, 1) := by decide +kernel
theorem dX6_understood_5 : decode cX6_understood 5 = .ok (.iload_n 1, 1) := by decide +kernel
theorem dX6_understood_6 : decode cX6_understood 6 = .ok (.iload_n 2, 1) := by decide +kernel
theorem dX6_understood_7 : decode cX6_understood 7 = .ok (.invokevirtual 182, 3) := by decide +kernel
theorem dX6_understood_10 : decode cX6_understood 10 = .ok (.invokevirtual 193, 3) := by decide +kernel
theorem dX6_understood_13 : decode cX6_understood 13 = .ok (.ireturn, 1) := by decide +kernel
theorem dX6_wordsSpokenAs_0 : decode cX6_wordsSpokenAs 0 = .ok (.iconst 0, 1) := by decide +kernel
theorem dX6_wordsSpokenAs_1 : decode cX6_wordsSpokenAs 1 = .ok (.istore_n 3, 1) := by decide +kernel
theorem dX6_wordsSpokenAs_2 : decode cX6_wordsSpokenAs 2 = .ok (.iconst 0, 1) := by decide +kernel
theorem dX6_wordsSpokenAs_3 : decode cX6_wordsSpokenAs 3 = .ok (.istore 4, 2) := by decide +kernel
theorem dX6_wordsSpokenAs_5 : decode cX6_wordsSpokenAs 5 = .ok (.iload 4, 2) := by decide +kernel
theorem dX6_wordsSpokenAs_7 : decode cX6_wordsSpokenAs 7 = .ok (.aload_n 0, 1) := by decide +kernel
theorem dX6_wordsSpokenAs_8 : decode cX6_wordsSpokenAs 8 = .ok (.getfield 23, 3) := by decide +kernel
theorem dX6_wordsSpokenAs_11 : decode cX6_wordsSpokenAs 11 = .ok (.getfield 100, 3) := by decide +kernel
theorem dX6_wordsSpokenAs_14 : decode cX6_wordsSpokenAs 14 = .ok (.if_icmp .ge 27, 3) := by decide +kernel
theorem dX6_wordsSpokenAs_17 : decode cX6_wordsSpokenAs 17 = .ok (.aload_n 0, 1) := by decide +kernel
theorem dX6_wordsSpokenAs_18 : decode cX6_wordsSpokenAs 18 = .ok (.iload 4, 2) := by decide +kernel
theorem dX6_wordsSpokenAs_20 : decode cX6_wordsSpokenAs 20 = .ok (.iload_n 1, 1) := by decide +kernel
theorem dX6_wordsSpokenAs_21 : decode cX6_wordsSpokenAs 21 = .ok (.invokevirtual 182, 3) := by decide +kernel
theorem dX6_wordsSpokenAs_24 : decode cX6_wordsSpokenAs 24 = .ok (.iload_n 2, 1) := by decide +kernel
theorem dX6_wordsSpokenAs_25 : decode cX6_wordsSpokenAs 25 = .ok (.if_icmp .ne 10, 3) := by decide +kernel
theorem dX6_wordsSpokenAs_28 : decode cX6_wordsSpokenAs 28 = .ok (.iload_n 3, 1) := by decide +kernel
theorem dX6_wordsSpokenAs_29 : decode cX6_wordsSpokenAs 29 = .ok (.iconst 1, 1) := by decide +kernel
theorem dX6_wordsSpokenAs_30 : decode cX6_wordsSpokenAs 30 = .ok (.iload 4, 2) := by decide +kernel
theorem dX6_wordsSpokenAs_32 : decode cX6_wordsSpokenAs 32 = .ok (.ishl, 1) := by decide +kernel
theorem dX6_wordsSpokenAs_33 : decode cX6_wordsSpokenAs 33 = .ok (.ior, 1) := by decide +kernel
theorem dX6_wordsSpokenAs_34 : decode cX6_wordsSpokenAs 34 = .ok (.istore_n 3, 1) := by decide +kernel
theorem dX6_wordsSpokenAs_35 : decode cX6_wordsSpokenAs 35 = .ok (.iinc 4 1, 3) := by decide +kernel
theorem dX6_wordsSpokenAs_38 : decode cX6_wordsSpokenAs 38 = .ok (.goto (-33), 3) := by decide +kernel
theorem dX6_wordsSpokenAs_41 : decode cX6_wordsSpokenAs 41 = .ok (.iload_n 3, 1) := by decide +kernel
theorem dX6_wordsSpokenAs_42 : decode cX6_wordsSpokenAs 42 = .ok (.ireturn, 1) := by decide +kernel
theorem dX6_voicesHeardRight_0 : decode cX6_voicesHeardRight 0 = .ok (.aload_n 0, 1) := by decide +kernel
theorem dX6_voicesHeardRight_1 : decode cX6_voicesHeardRight 1 = .ok (.getfield 37, 3) := by decide +kernel
theorem dX6_voicesHeardRight_4 : decode cX6_voicesHeardRight 4 = .ok (.getfield 135, 3) := by decide +kernel
theorem dX6_voicesHeardRight_7 : decode cX6_voicesHeardRight 7 = .ok (.iload_n 1, 1) := by decide +kernel
theorem dX6_voicesHeardRight_8 : decode cX6_voicesHeardRight 8 = .ok (.iload_n 2, 1) := by decide +kernel
theorem dX6_voicesHeardRight_9 : decode cX6_voicesHeardRight 9 = .ok (.iastore, 1) := by decide +kernel
theorem dX6_voicesHeardRight_10 : decode cX6_voicesHeardRight 10 = .ok (.iconst 0, 1) := by decide +kernel
theorem dX6_voicesHeardRight_11 : decode cX6_voicesHeardRight 11 = .ok (.istore 4, 2) := by decide +kernel
theorem dX6_voicesHeardRight_13 : decode cX6_voicesHeardRight 13 = .ok (.iconst 0, 1) := by decide +kernel
theorem dX6_voicesHeardRight_14 : decode cX6_voicesHeardRight 14 = .ok (.istore 5, 2) := by decide +kernel
theorem dX6_voicesHeardRight_16 : decode cX6_voicesHeardRight 16 = .ok (.iload 5, 2) := by decide +kernel
theorem dX6_voicesHeardRight_18 : decode cX6_voicesHeardRight 18 = .ok (.aload_n 0, 1) := by decide +kernel
theorem dX6_voicesHeardRight_19 : decode cX6_voicesHeardRight 19 = .ok (.getfield 23, 3) := by decide +kernel
theorem dX6_voicesHeardRight_22 : decode cX6_voicesHeardRight 22 = .ok (.getfield 112, 3) := by decide +kernel
theorem dX6_voicesHeardRight_25 : decode cX6_voicesHeardRight 25 = .ok (.if_icmp .ge 54, 3) := by decide +kernel
theorem dX6_voicesHeardRight_28 : decode cX6_voicesHeardRight 28 = .ok (.iload 4, 2) := by decide +kernel
theorem dX6_voicesHeardRight_30 : decode cX6_voicesHeardRight 30 = .ok (.aload_n 0, 1) := by decide +kernel
theorem dX6_voicesHeardRight_31 : decode cX6_voicesHeardRight 31 = .ok (.getfield 23, 3) := by decide +kernel
theorem dX6_voicesHeardRight_34 : decode cX6_voicesHeardRight 34 = .ok (.getfield 112, 3) := by decide +kernel
theorem dX6_voicesHeardRight_37 : decode cX6_voicesHeardRight 37 = .ok (.iadd, 1) := by decide +kernel
theorem dX6_voicesHeardRight_38 : decode cX6_voicesHeardRight 38 = .ok (.iload 5, 2) := by decide +kernel
theorem dX6_voicesHeardRight_40 : decode cX6_voicesHeardRight 40 = .ok (.isub, 1) := by decide +kernel
theorem dX6_voicesHeardRight_41 : decode cX6_voicesHeardRight 41 = .ok (.iload_n 3, 1) := by decide +kernel
theorem dX6_voicesHeardRight_42 : decode cX6_voicesHeardRight 42 = .ok (.if_icmp .lt 37, 3) := by decide +kernel
theorem dX6_voicesHeardRight_45 : decode cX6_voicesHeardRight 45 = .ok (.aload_n 0, 1) := by decide +kernel
theorem dX6_voicesHeardRight_46 : decode cX6_voicesHeardRight 46 = .ok (.getfield 37, 3) := by decide +kernel
theorem dX6_voicesHeardRight_49 : decode cX6_voicesHeardRight 49 = .ok (.iload_n 2, 1) := by decide +kernel
theorem dX6_voicesHeardRight_50 : decode cX6_voicesHeardRight 50 = .ok (.aload_n 0, 1) := by decide +kernel
theorem dX6_voicesHeardRight_51 : decode cX6_voicesHeardRight 51 = .ok (.getfield 23, 3) := by decide +kernel
theorem dX6_voicesHeardRight_54 : decode cX6_voicesHeardRight 54 = .ok (.getfield 151, 3) := by decide +kernel
theorem dX6_voicesHeardRight_57 : decode cX6_voicesHeardRight 57 = .ok (.iload 5, 2) := by decide +kernel
theorem dX6_voicesHeardRight_59 : decode cX6_voicesHeardRight 59 = .ok (.iaload, 1) := by decide +kernel
theorem dX6_voicesHeardRight_60 : decode cX6_voicesHeardRight 60 = .ok (.invokestatic 265, 3) := by decide +kernel
theorem dX6_voicesHeardRight_63 : decode cX6_voicesHeardRight 63 = .ok (.invokevirtual 193, 3) := by decide +kernel
theorem dX6_voicesHeardRight_66 : decode cX6_voicesHeardRight 66 = .ok (.iload_n 1, 1) := by decide +kernel
theorem dX6_voicesHeardRight_67 : decode cX6_voicesHeardRight 67 = .ok (.if_icmp .ne 6, 3) := by decide +kernel
theorem dX6_voicesHeardRight_70 : decode cX6_voicesHeardRight 70 = .ok (.iinc 4 1, 3) := by decide +kernel
theorem dX6_voicesHeardRight_73 : decode cX6_voicesHeardRight 73 = .ok (.iinc 5 1, 3) := by decide +kernel
theorem dX6_voicesHeardRight_76 : decode cX6_voicesHeardRight 76 = .ok (.goto (-60), 3) := by decide +kernel
theorem dX6_voicesHeardRight_79 : decode cX6_voicesHeardRight 79 = .ok (.iload 4, 2) := by decide +kernel
theorem dX6_voicesHeardRight_81 : decode cX6_voicesHeardRight 81 = .ok (.ireturn, 1) := by decide +kernel
theorem dX6_cost_0 : decode cX6_cost 0 = .ok (.iload_n 3, 1) := by decide +kernel
theorem dX6_cost_1 : decode cX6_cost 1 = .ok (.iconst 1, 1) := by decide +kernel
theorem dX6_cost_2 : decode cX6_cost 2 = .ok (.if_icmp .ne 11, 3) := by decide +kernel
theorem dX6_cost_5 : decode cX6_cost 5 = .ok (.aload_n 0, 1) := by decide +kernel
theorem dX6_cost_6 : decode cX6_cost 6 = .ok (.getfield 23, 3) := by decide +kernel
theorem dX6_cost_9 : decode cX6_cost 9 = .ok (.getfield 103, 3) := by decide +kernel
theorem dX6_cost_12 : decode cX6_cost 12 = .ok (.ireturn, 1) := by decide +kernel
theorem dX6_cost_13 : decode cX6_cost 13 = .ok (.iload_n 3, 1) := by decide +kernel
theorem dX6_cost_14 : decode cX6_cost 14 = .ok (.iconst 2, 1) := by decide +kernel
theorem dX6_cost_15 : decode cX6_cost 15 = .ok (.if_icmp .ne 11, 3) := by decide +kernel
theorem dX6_cost_18 : decode cX6_cost 18 = .ok (.aload_n 0, 1) := by decide +kernel
theorem dX6_cost_19 : decode cX6_cost 19 = .ok (.getfield 23, 3) := by decide +kernel
theorem dX6_cost_22 : decode cX6_cost 22 = .ok (.getfield 106, 3) := by decide +kernel
theorem dX6_cost_25 : decode cX6_cost 25 = .ok (.ireturn, 1) := by decide +kernel
theorem dX6_cost_26 : decode cX6_cost 26 = .ok (.aload_n 1, 1) := by decide +kernel
theorem dX6_cost_27 : decode cX6_cost 27 = .ok (.iload_n 2, 1) := by decide +kernel
theorem dX6_cost_28 : decode cX6_cost 28 = .ok (.invokevirtual 193, 3) := by decide +kernel
theorem dX6_cost_31 : decode cX6_cost 31 = .ok (.istore 4, 2) := by decide +kernel
theorem dX6_cost_33 : decode cX6_cost 33 = .ok (.aload_n 0, 1) := by decide +kernel
theorem dX6_cost_34 : decode cX6_cost 34 = .ok (.iload 4, 2) := by decide +kernel
theorem dX6_cost_36 : decode cX6_cost 36 = .ok (.invokevirtual 131, 3) := by decide +kernel
theorem dX6_cost_39 : decode cX6_cost 39 = .ok (.ifCond .ne 5, 3) := by decide +kernel
theorem dX6_cost_42 : decode cX6_cost 42 = .ok (.iconst 0, 1) := by decide +kernel
theorem dX6_cost_43 : decode cX6_cost 43 = .ok (.ireturn, 1) := by decide +kernel
theorem dX6_cost_44 : decode cX6_cost 44 = .ok (.ldc_w 268, 3) := by decide +kernel
theorem dX6_cost_47 : decode cX6_cost 47 = .ok (.aload_n 1, 1) := by decide +kernel
theorem dX6_cost_48 : decode cX6_cost 48 = .ok (.iload 4, 2) := by decide +kernel
theorem dX6_cost_50 : decode cX6_cost 50 = .ok (.iload_n 2, 1) := by decide +kernel
theorem dX6_cost_51 : decode cX6_cost 51 = .ok (.invokevirtual 196, 3) := by decide +kernel
theorem dX6_cost_54 : decode cX6_cost 54 = .ok (.isub, 1) := by decide +kernel
theorem dX6_cost_55 : decode cX6_cost 55 = .ok (.aload_n 0, 1) := by decide +kernel
theorem dX6_cost_56 : decode cX6_cost 56 = .ok (.getfield 23, 3) := by decide +kernel
theorem dX6_cost_59 : decode cX6_cost 59 = .ok (.getfield 142, 3) := by decide +kernel
theorem dX6_cost_62 : decode cX6_cost 62 = .ok (.iload 4, 2) := by decide +kernel
theorem dX6_cost_64 : decode cX6_cost 64 = .ok (.iaload, 1) := by decide +kernel
theorem dX6_cost_65 : decode cX6_cost 65 = .ok (.imul, 1) := by decide +kernel
theorem dX6_cost_66 : decode cX6_cost 66 = .ok (.ldc_w 268, 3) := by decide +kernel
theorem dX6_cost_69 : decode cX6_cost 69 = .ok (.idiv, 1) := by decide +kernel
theorem dX6_cost_70 : decode cX6_cost 70 = .ok (.ireturn, 1) := by decide +kernel
theorem dX6_cheapest_0 : decode cX6_cheapest 0 = .ok (.iconst 0, 1) := by decide +kernel
theorem dX6_cheapest_1 : decode cX6_cheapest 1 = .ok (.istore_n 3, 1) := by decide +kernel
theorem dX6_cheapest_2 : decode cX6_cheapest 2 = .ok (.aload_n 0, 1) := by decide +kernel
theorem dX6_cheapest_3 : decode cX6_cheapest 3 = .ok (.aload_n 1, 1) := by decide +kernel
theorem dX6_cheapest_4 : decode cX6_cheapest 4 = .ok (.iload_n 2, 1) := by decide +kernel
theorem dX6_cheapest_5 : decode cX6_cheapest 5 = .ok (.iconst 0, 1) := by decide +kernel
theorem dX6_cheapest_6 : decode cX6_cheapest 6 = .ok (.invokevirtual 203, 3) := by decide +kernel
theorem dX6_cheapest_9 : decode cX6_cheapest 9 = .ok (.istore 4, 2) := by decide +kernel
theorem dX6_cheapest_11 : decode cX6_cheapest 11 = .ok (.iconst 1, 1) := by decide +kernel
theorem dX6_cheapest_12 : decode cX6_cheapest 12 = .ok (.istore 5, 2) := by decide +kernel
theorem dX6_cheapest_14 : decode cX6_cheapest 14 = .ok (.iload 5, 2) := by decide +kernel
theorem dX6_cheapest_16 : decode cX6_cheapest 16 = .ok (.iconst 2, 1) := by decide +kernel
theorem dX6_cheapest_17 : decode cX6_cheapest 17 = .ok (.if_icmp .gt 33, 3) := by decide +kernel
theorem dX6_cheapest_20 : decode cX6_cheapest 20 = .ok (.aload_n 0, 1) := by decide +kernel
theorem dX6_cheapest_21 : decode cX6_cheapest 21 = .ok (.aload_n 1, 1) := by decide +kernel
theorem dX6_cheapest_22 : decode cX6_cheapest 22 = .ok (.iload_n 2, 1) := by decide +kernel
theorem dX6_cheapest_23 : decode cX6_cheapest 23 = .ok (.iload 5, 2) := by decide +kernel
theorem dX6_cheapest_25 : decode cX6_cheapest 25 = .ok (.invokevirtual 203, 3) := by decide +kernel
theorem dX6_cheapest_28 : decode cX6_cheapest 28 = .ok (.istore 6, 2) := by decide +kernel
theorem dX6_cheapest_30 : decode cX6_cheapest 30 = .ok (.iload 6, 2) := by decide +kernel
theorem dX6_cheapest_32 : decode cX6_cheapest 32 = .ok (.iload 4, 2) := by decide +kernel
theorem dX6_cheapest_34 : decode cX6_cheapest 34 = .ok (.if_icmp .ge 10, 3) := by decide +kernel
theorem dX6_cheapest_37 : decode cX6_cheapest 37 = .ok (.iload 5, 2) := by decide +kernel
theorem dX6_cheapest_39 : decode cX6_cheapest 39 = .ok (.istore_n 3, 1) := by decide +kernel
theorem dX6_cheapest_40 : decode cX6_cheapest 40 = .ok (.iload 6, 2) := by decide +kernel
theorem dX6_cheapest_42 : decode cX6_cheapest 42 = .ok (.istore 4, 2) := by decide +kernel
theorem dX6_cheapest_44 : decode cX6_cheapest 44 = .ok (.iinc 5 1, 3) := by decide +kernel
theorem dX6_cheapest_47 : decode cX6_cheapest 47 = .ok (.goto (-33), 3) := by decide +kernel
theorem dX6_cheapest_50 : decode cX6_cheapest 50 = .ok (.iload_n 3, 1) := by decide +kernel
theorem dX6_cheapest_51 : decode cX6_cheapest 51 = .ok (.ireturn, 1) := by decide +kernel
theorem dX6_takeIn_0 : decode cX6_takeIn 0 = .ok (.aload_n 0, 1) := by decide +kernel
theorem dX6_takeIn_1 : decode cX6_takeIn 1 = .ok (.aload_n 0, 1) := by decide +kernel
theorem dX6_takeIn_2 : decode cX6_takeIn 2 = .ok (.getfield 33, 3) := by decide +kernel
theorem dX6_takeIn_5 : decode cX6_takeIn 5 = .ok (.iload_n 1, 1) := by decide +kernel
theorem dX6_takeIn_6 : decode cX6_takeIn 6 = .ok (.invokevirtual 199, 3) := by decide +kernel
theorem dX6_takeIn_9 : decode cX6_takeIn 9 = .ok (.istore_n 2, 1) := by decide +kernel
theorem dX6_takeIn_10 : decode cX6_takeIn 10 = .ok (.aload_n 0, 1) := by decide +kernel
theorem dX6_takeIn_11 : decode cX6_takeIn 11 = .ok (.getfield 33, 3) := by decide +kernel
theorem dX6_takeIn_14 : decode cX6_takeIn 14 = .ok (.aload_n 0, 1) := by decide +kernel
theorem dX6_takeIn_15 : decode cX6_takeIn 15 = .ok (.getfield 33, 3) := by decide +kernel
theorem dX6_takeIn_18 : decode cX6_takeIn 18 = .ok (.iload_n 1, 1) := by decide +kernel
theorem dX6_takeIn_19 : decode cX6_takeIn 19 = .ok (.invokevirtual 193, 3) := by decide +kernel
theorem dX6_takeIn_22 : decode cX6_takeIn 22 = .ok (.iload_n 2, 1) := by decide +kernel
theorem dX6_takeIn_23 : decode cX6_takeIn 23 = .ok (.invokevirtual 269, 3) := by decide +kernel
theorem dX6_takeIn_26 : decode cX6_takeIn 26 = .ok (.iload_n 2, 1) := by decide +kernel
theorem dX6_takeIn_27 : decode cX6_takeIn 27 = .ok (.ireturn, 1) := by decide +kernel
theorem dX6_draw_0 : decode cX6_draw 0 = .ok (.iload_n 1, 1) := by decide +kernel
theorem dX6_draw_1 : decode cX6_draw 1 = .ok (.ifCond .gt 5, 3) := by decide +kernel
theorem dX6_draw_4 : decode cX6_draw 4 = .ok (.iconst 0, 1) := by decide +kernel
theorem dX6_draw_5 : decode cX6_draw 5 = .ok (.ireturn, 1) := by decide +kernel
theorem dX6_draw_6 : decode cX6_draw 6 = .ok (.aload_n 0, 1) := by decide +kernel
theorem dX6_draw_7 : decode cX6_draw 7 = .ok (.aload_n 0, 1) := by decide +kernel
theorem dX6_draw_8 : decode cX6_draw 8 = .ok (.getfield 53, 3) := by decide +kernel
theorem dX6_draw_11 : decode cX6_draw 11 = .ok (.i2l, 1) := by decide +kernel
theorem dX6_draw_12 : decode cX6_draw 12 = .ok (.ldc2_w 273, 3) := by decide +kernel
theorem dX6_draw_15 : decode cX6_draw 15 = .ok (.lmul, 1) := by decide +kernel
theorem dX6_draw_16 : decode cX6_draw 16 = .ok (.ldc2_w 275, 3) := by decide +kernel
theorem dX6_draw_19 : decode cX6_draw 19 = .ok (.ladd, 1) := by decide +kernel
theorem dX6_draw_20 : decode cX6_draw 20 = .ok (.ldc2_w 277, 3) := by decide +kernel
theorem dX6_draw_23 : decode cX6_draw 23 = .ok (.lrem, 1) := by decide +kernel
theorem dX6_draw_24 : decode cX6_draw 24 = .ok (.l2i, 1) := by decide +kernel
theorem dX6_draw_25 : decode cX6_draw 25 = .ok (.putfield 53, 3) := by decide +kernel
theorem dX6_draw_28 : decode cX6_draw 28 = .ok (.aload_n 0, 1) := by decide +kernel
theorem dX6_draw_29 : decode cX6_draw 29 = .ok (.getfield 53, 3) := by decide +kernel
theorem dX6_draw_32 : decode cX6_draw 32 = .ok (.ldc_w 279, 3) := by decide +kernel
theorem dX6_draw_35 : decode cX6_draw 35 = .ok (.idiv, 1) := by decide +kernel
theorem dX6_draw_36 : decode cX6_draw 36 = .ok (.iload_n 1, 1) := by decide +kernel
theorem dX6_draw_37 : decode cX6_draw 37 = .ok (.irem, 1) := by decide +kernel
theorem dX6_draw_38 : decode cX6_draw 38 = .ok (.ireturn, 1) := by decide +kernel
theorem dX6_couldHaveSpoken_0 : decode cX6_couldHaveSpoken 0 = .ok (.iconst 0, 1) := by decide +kernel
theorem dX6_couldHaveSpoken_1 : decode cX6_couldHaveSpoken 1 = .ok (.istore_n 2, 1) := by decide +kernel
theorem dX6_couldHaveSpoken_2 : decode cX6_couldHaveSpoken 2 = .ok (.iload_n 2, 1) := by decide +kernel
theorem dX6_couldHaveSpoken_3 : decode cX6_couldHaveSpoken 3 = .ok (.aload_n 0, 1) := by decide +kernel
theorem dX6_couldHaveSpoken_4 : decode cX6_couldHaveSpoken 4 = .ok (.getfield 61, 3) := by decide +kernel
theorem dX6_couldHaveSpoken_7 : decode cX6_couldHaveSpoken 7 = .ok (.getfield 127, 3) := by decide +kernel
theorem dX6_couldHaveSpoken_10 : decode cX6_couldHaveSpoken 10 = .ok (.if_icmp .ge 47, 3) := by decide +kernel
theorem dX6_couldHaveSpoken_13 : decode cX6_couldHaveSpoken 13 = .ok (.aload_n 0, 1) := by decide +kernel
theorem dX6_couldHaveSpoken_14 : decode cX6_couldHaveSpoken 14 = .ok (.getfield 61, 3) := by decide +kernel
theorem dX6_couldHaveSpoken_17 : decode cX6_couldHaveSpoken 17 = .ok (.getfield 247, 3) := by decide +kernel
theorem dX6_couldHaveSpoken_20 : decode cX6_couldHaveSpoken 20 = .ok (.iload_n 2, 1) := by decide +kernel
theorem dX6_couldHaveSpoken_21 : decode cX6_couldHaveSpoken 21 = .ok (.iaload, 1) := by decide +kernel
theorem dX6_couldHaveSpoken_22 : decode cX6_couldHaveSpoken 22 = .ok (.istore_n 3, 1) := by decide +kernel
theorem dX6_couldHaveSpoken_23 : decode cX6_couldHaveSpoken 23 = .ok (.aload_n 0, 1) := by decide +kernel
theorem dX6_couldHaveSpoken_24 : decode cX6_couldHaveSpoken 24 = .ok (.iload_n 3, 1) := by decide +kernel
theorem dX6_couldHaveSpoken_25 : decode cX6_couldHaveSpoken 25 = .ok (.invokevirtual 131, 3) := by decide +kernel
theorem dX6_couldHaveSpoken_28 : decode cX6_couldHaveSpoken 28 = .ok (.ifCond .eq 23, 3) := by decide +kernel
theorem dX6_couldHaveSpoken_31 : decode cX6_couldHaveSpoken 31 = .ok (.aload_n 0, 1) := by decide +kernel
theorem dX6_couldHaveSpoken_32 : decode cX6_couldHaveSpoken 32 = .ok (.iload_n 3, 1) := by decide +kernel
theorem dX6_couldHaveSpoken_33 : decode cX6_couldHaveSpoken 33 = .ok (.iload_n 1, 1) := by decide +kernel
theorem dX6_couldHaveSpoken_34 : decode cX6_couldHaveSpoken 34 = .ok (.invokevirtual 207, 3) := by decide +kernel
theorem dX6_couldHaveSpoken_37 : decode cX6_couldHaveSpoken 37 = .ok (.aload_n 0, 1) := by decide +kernel
theorem dX6_couldHaveSpoken_38 : decode cX6_couldHaveSpoken 38 = .ok (.getfield 61, 3) := by decide +kernel
theorem dX6_couldHaveSpoken_41 : decode cX6_couldHaveSpoken 41 = .ok (.getfield 250, 3) := by decide +kernel
theorem dX6_couldHaveSpoken_44 : decode cX6_couldHaveSpoken 44 = .ok (.iload_n 2, 1) := by decide +kernel
theorem dX6_couldHaveSpoken_45 : decode cX6_couldHaveSpoken 45 = .ok (.iaload, 1) := by decide +kernel
theorem dX6_couldHaveSpoken_46 : decode cX6_couldHaveSpoken 46 = .ok (.if_icmp .eq 5, 3) := by decide +kernel
theorem dX6_couldHaveSpoken_49 : decode cX6_couldHaveSpoken 49 = .ok (.iconst 0, 1) := by decide +kernel
theorem dX6_couldHaveSpoken_50 : decode cX6_couldHaveSpoken 50 = .ok (.ireturn, 1) := by decide +kernel
theorem dX6_couldHaveSpoken_51 : decode cX6_couldHaveSpoken 51 = .ok (.iinc 2 1, 3) := by decide +kernel
theorem dX6_couldHaveSpoken_54 : decode cX6_couldHaveSpoken 54 = .ok (.goto (-52), 3) := by decide +kernel
theorem dX6_couldHaveSpoken_57 : decode cX6_couldHaveSpoken 57 = .ok (.iconst 1, 1) := by decide +kernel
theorem dX6_couldHaveSpoken_58 : decode cX6_couldHaveSpoken 58 = .ok (.ireturn, 1) := by decide +kernel
theorem dX6_greatestPart_0 : decode cX6_greatestPart 0 = .ok (.iconst 0, 1) := by decide +kernel
theorem dX6_greatestPart_1 : decode cX6_greatestPart 1 = .ok (.istore_n 3, 1) := by decide +kernel
theorem dX6_greatestPart_2 : decode cX6_greatestPart 2 = .ok (.iconst 0, 1) := by decide +kernel
theorem dX6_greatestPart_3 : decode cX6_greatestPart 3 = .ok (.istore 4, 2) := by decide +kernel
theorem dX6_greatestPart_5 : decode cX6_greatestPart 5 = .ok (.iload 4, 2) := by decide +kernel
theorem dX6_greatestPart_7 : decode cX6_greatestPart 7 = .ok (.aload_n 0, 1) := by decide +kernel
theorem dX6_greatestPart_8 : decode cX6_greatestPart 8 = .ok (.getfield 23, 3) := by decide +kernel
theorem dX6_greatestPart_11 : decode cX6_greatestPart 11 = .ok (.getfield 100, 3) := by decide +kernel
theorem dX6_greatestPart_14 : decode cX6_greatestPart 14 = .ok (.if_icmp .ge 65, 3) := by decide +kernel
theorem dX6_greatestPart_17 : decode cX6_greatestPart 17 = .ok (.iconst 0, 1) := by decide +kernel
theorem dX6_greatestPart_18 : decode cX6_greatestPart 18 = .ok (.istore 5, 2) := by decide +kernel
theorem dX6_greatestPart_20 : decode cX6_greatestPart 20 = .ok (.iconst 0, 1) := by decide +kernel
theorem dX6_greatestPart_21 : decode cX6_greatestPart 21 = .ok (.istore 6, 2) := by decide +kernel
theorem dX6_greatestPart_23 : decode cX6_greatestPart 23 = .ok (.iload 6, 2) := by decide +kernel
theorem dX6_greatestPart_25 : decode cX6_greatestPart 25 = .ok (.aload_n 0, 1) := by decide +kernel
theorem dX6_greatestPart_26 : decode cX6_greatestPart 26 = .ok (.getfield 23, 3) := by decide +kernel
theorem dX6_greatestPart_29 : decode cX6_greatestPart 29 = .ok (.getfield 112, 3) := by decide +kernel
theorem dX6_greatestPart_32 : decode cX6_greatestPart 32 = .ok (.if_icmp .ge 34, 3) := by decide +kernel
theorem dX6_greatestPart_35 : decode cX6_greatestPart 35 = .ok (.iload_n 2, 1) := by decide +kernel
theorem dX6_greatestPart_36 : decode cX6_greatestPart 36 = .ok (.iload 6, 2) := by decide +kernel
theorem dX6_greatestPart_38 : decode cX6_greatestPart 38 = .ok (.ishr, 1) := by decide +kernel
theorem dX6_greatestPart_39 : decode cX6_greatestPart 39 = .ok (.iconst 1, 1) := by decide +kernel
theorem dX6_greatestPart_40 : decode cX6_greatestPart 40 = .ok (.iand, 1) := by decide +kernel
theorem dX6_greatestPart_41 : decode cX6_greatestPart 41 = .ok (.iconst 1, 1) := by decide +kernel
theorem dX6_greatestPart_42 : decode cX6_greatestPart 42 = .ok (.if_icmp .ne 18, 3) := by decide +kernel
theorem dX6_greatestPart_45 : decode cX6_greatestPart 45 = .ok (.aload_n 0, 1) := by decide +kernel
theorem dX6_greatestPart_46 : decode cX6_greatestPart 46 = .ok (.iload_n 1, 1) := by decide +kernel
theorem dX6_greatestPart_47 : decode cX6_greatestPart 47 = .ok (.iload 6, 2) := by decide +kernel
theorem dX6_greatestPart_49 : decode cX6_greatestPart 49 = .ok (.invokevirtual 207, 3) := by decide +kernel
theorem dX6_greatestPart_52 : decode cX6_greatestPart 52 = .ok (.iload 4, 2) := by decide +kernel
theorem dX6_greatestPart_54 : decode cX6_greatestPart 54 = .ok (.if_icmp .ne 6, 3) := by decide +kernel
theorem dX6_greatestPart_57 : decode cX6_greatestPart 57 = .ok (.iinc 5 1, 3) := by decide +kernel
theorem dX6_greatestPart_60 : decode cX6_greatestPart 60 = .ok (.iinc 6 1, 3) := by decide +kernel
theorem dX6_greatestPart_63 : decode cX6_greatestPart 63 = .ok (.goto (-40), 3) := by decide +kernel
theorem dX6_greatestPart_66 : decode cX6_greatestPart 66 = .ok (.iload_n 3, 1) := by decide +kernel
theorem dX6_greatestPart_67 : decode cX6_greatestPart 67 = .ok (.iload 5, 2) := by decide +kernel
theorem dX6_greatestPart_69 : decode cX6_greatestPart 69 = .ok (.invokestatic 280, 3) := by decide +kernel
theorem dX6_greatestPart_72 : decode cX6_greatestPart 72 = .ok (.istore_n 3, 1) := by decide +kernel
theorem dX6_greatestPart_73 : decode cX6_greatestPart 73 = .ok (.iinc 4 1, 3) := by decide +kernel
theorem dX6_greatestPart_76 : decode cX6_greatestPart 76 = .ok (.goto (-71), 3) := by decide +kernel
theorem dX6_greatestPart_79 : decode cX6_greatestPart 79 = .ok (.iload_n 3, 1) := by decide +kernel
theorem dX6_greatestPart_80 : decode cX6_greatestPart 80 = .ok (.ireturn, 1) := by decide +kernel
theorem dJ6_bitCount_0f7a4_0 : decode cJ6_bitCount_0f7a4 0 = .ok (.iload_n 0, 1) := by decide +kernel
theorem dJ6_bitCount_0f7a4_1 : decode cJ6_bitCount_0f7a4 1 = .ok (.iload_n 0, 1) := by decide +kernel
theorem dJ6_bitCount_0f7a4_2 : decode cJ6_bitCount_0f7a4 2 = .ok (.iconst 1, 1) := by decide +kernel
theorem dJ6_bitCount_0f7a4_3 : decode cJ6_bitCount_0f7a4 3 = .ok (.iushr, 1) := by decide +kernel
theorem dJ6_bitCount_0f7a4_4 : decode cJ6_bitCount_0f7a4 4 = .ok (.ldc_w 265, 3) := by decide +kernel
theorem dJ6_bitCount_0f7a4_7 : decode cJ6_bitCount_0f7a4 7 = .ok (.iand, 1) := by decide +kernel
theorem dJ6_bitCount_0f7a4_8 : decode cJ6_bitCount_0f7a4 8 = .ok (.isub, 1) := by decide +kernel
theorem dJ6_bitCount_0f7a4_9 : decode cJ6_bitCount_0f7a4 9 = .ok (.istore_n 0, 1) := by decide +kernel
theorem dJ6_bitCount_0f7a4_10 : decode cJ6_bitCount_0f7a4 10 = .ok (.iload_n 0, 1) := by decide +kernel
theorem dJ6_bitCount_0f7a4_11 : decode cJ6_bitCount_0f7a4 11 = .ok (.ldc_w 266, 3) := by decide +kernel
theorem dJ6_bitCount_0f7a4_14 : decode cJ6_bitCount_0f7a4 14 = .ok (.iand, 1) := by decide +kernel
theorem dJ6_bitCount_0f7a4_15 : decode cJ6_bitCount_0f7a4 15 = .ok (.iload_n 0, 1) := by decide +kernel
theorem dJ6_bitCount_0f7a4_16 : decode cJ6_bitCount_0f7a4 16 = .ok (.iconst 2, 1) := by decide +kernel
theorem dJ6_bitCount_0f7a4_17 : decode cJ6_bitCount_0f7a4 17 = .ok (.iushr, 1) := by decide +kernel
theorem dJ6_bitCount_0f7a4_18 : decode cJ6_bitCount_0f7a4 18 = .ok (.ldc_w 266, 3) := by decide +kernel
theorem dJ6_bitCount_0f7a4_21 : decode cJ6_bitCount_0f7a4 21 = .ok (.iand, 1) := by decide +kernel
theorem dJ6_bitCount_0f7a4_22 : decode cJ6_bitCount_0f7a4 22 = .ok (.iadd, 1) := by decide +kernel
theorem dJ6_bitCount_0f7a4_23 : decode cJ6_bitCount_0f7a4 23 = .ok (.istore_n 0, 1) := by decide +kernel
theorem dJ6_bitCount_0f7a4_24 : decode cJ6_bitCount_0f7a4 24 = .ok (.iload_n 0, 1) := by decide +kernel
theorem dJ6_bitCount_0f7a4_25 : decode cJ6_bitCount_0f7a4 25 = .ok (.iload_n 0, 1) := by decide +kernel
theorem dJ6_bitCount_0f7a4_26 : decode cJ6_bitCount_0f7a4 26 = .ok (.iconst 4, 1) := by decide +kernel
theorem dJ6_bitCount_0f7a4_27 : decode cJ6_bitCount_0f7a4 27 = .ok (.iushr, 1) := by decide +kernel
theorem dJ6_bitCount_0f7a4_28 : decode cJ6_bitCount_0f7a4 28 = .ok (.iadd, 1) := by decide +kernel
theorem dJ6_bitCount_0f7a4_29 : decode cJ6_bitCount_0f7a4 29 = .ok (.ldc_w 267, 3) := by decide +kernel
theorem dJ6_bitCount_0f7a4_32 : decode cJ6_bitCount_0f7a4 32 = .ok (.iand, 1) := by decide +kernel
theorem dJ6_bitCount_0f7a4_33 : decode cJ6_bitCount_0f7a4 33 = .ok (.istore_n 0, 1) := by decide +kernel
theorem dJ6_bitCount_0f7a4_34 : decode cJ6_bitCount_0f7a4 34 = .ok (.iload_n 0, 1) := by decide +kernel
theorem dJ6_bitCount_0f7a4_35 : decode cJ6_bitCount_0f7a4 35 = .ok (.iload_n 0, 1) := by decide +kernel
theorem dJ6_bitCount_0f7a4_36 : decode cJ6_bitCount_0f7a4 36 = .ok (.bipush 8, 2) := by decide +kernel
theorem dJ6_bitCount_0f7a4_38 : decode cJ6_bitCount_0f7a4 38 = .ok (.iushr, 1) := by decide +kernel
theorem dJ6_bitCount_0f7a4_39 : decode cJ6_bitCount_0f7a4 39 = .ok (.iadd, 1) := by decide +kernel
theorem dJ6_bitCount_0f7a4_40 : decode cJ6_bitCount_0f7a4 40 = .ok (.istore_n 0, 1) := by decide +kernel
theorem dJ6_bitCount_0f7a4_41 : decode cJ6_bitCount_0f7a4 41 = .ok (.iload_n 0, 1) := by decide +kernel
theorem dJ6_bitCount_0f7a4_42 : decode cJ6_bitCount_0f7a4 42 = .ok (.iload_n 0, 1) := by decide +kernel
theorem dJ6_bitCount_0f7a4_43 : decode cJ6_bitCount_0f7a4 43 = .ok (.bipush 16, 2) := by decide +kernel
theorem dJ6_bitCount_0f7a4_45 : decode cJ6_bitCount_0f7a4 45 = .ok (.iushr, 1) := by decide +kernel
theorem dJ6_bitCount_0f7a4_46 : decode cJ6_bitCount_0f7a4 46 = .ok (.iadd, 1) := by decide +kernel
theorem dJ6_bitCount_0f7a4_47 : decode cJ6_bitCount_0f7a4 47 = .ok (.istore_n 0, 1) := by decide +kernel
theorem dJ6_bitCount_0f7a4_48 : decode cJ6_bitCount_0f7a4 48 = .ok (.iload_n 0, 1) := by decide +kernel
theorem dJ6_bitCount_0f7a4_49 : decode cJ6_bitCount_0f7a4 49 = .ok (.bipush 63, 2) := by decide +kernel
theorem dJ6_bitCount_0f7a4_51 : decode cJ6_bitCount_0f7a4 51 = .ok (.iand, 1) := by decide +kernel
theorem dJ6_bitCount_0f7a4_52 : decode cJ6_bitCount_0f7a4 52 = .ok (.ireturn, 1) := by decide +kernel
theorem dJ9_abs_0f7a4_0 : decode cJ9_abs_0f7a4 0 = .ok (.iload_n 0, 1) := by decide +kernel
theorem dJ9_abs_0f7a4_1 : decode cJ9_abs_0f7a4 1 = .ok (.ifCond .ge 8, 3) := by decide +kernel
theorem dJ9_abs_0f7a4_4 : decode cJ9_abs_0f7a4 4 = .ok (.iload_n 0, 1) := by decide +kernel
theorem dJ9_abs_0f7a4_5 : decode cJ9_abs_0f7a4 5 = .ok (.ineg, 1) := by decide +kernel
theorem dJ9_abs_0f7a4_6 : decode cJ9_abs_0f7a4 6 = .ok (.goto 4, 3) := by decide +kernel
theorem dJ9_abs_0f7a4_9 : decode cJ9_abs_0f7a4 9 = .ok (.iload_n 0, 1) := by decide +kernel
theorem dJ9_abs_0f7a4_10 : decode cJ9_abs_0f7a4 10 = .ok (.ireturn, 1) := by decide +kernel
theorem dJ9_max_7cf53_0 : decode cJ9_max_7cf53 0 = .ok (.iload_n 0, 1) := by decide +kernel
theorem dJ9_max_7cf53_1 : decode cJ9_max_7cf53 1 = .ok (.iload_n 1, 1) := by decide +kernel
theorem dJ9_max_7cf53_2 : decode cJ9_max_7cf53 2 = .ok (.if_icmp .lt 7, 3) := by decide +kernel
theorem dJ9_max_7cf53_5 : decode cJ9_max_7cf53 5 = .ok (.iload_n 0, 1) := by decide +kernel
theorem dJ9_max_7cf53_6 : decode cJ9_max_7cf53 6 = .ok (.goto 4, 3) := by decide +kernel
theorem dJ9_max_7cf53_9 : decode cJ9_max_7cf53 9 = .ok (.iload_n 1, 1) := by decide +kernel
theorem dJ9_max_7cf53_10 : decode cJ9_max_7cf53 10 = .ok (.ireturn, 1) := by decide +kernel
theorem dJ9_min_7cf53_0 : decode cJ9_min_7cf53 0 = .ok (.iload_n 0, 1) := by decide +kernel
theorem dJ9_min_7cf53_1 : decode cJ9_min_7cf53 1 = .ok (.iload_n 1, 1) := by decide +kernel
theorem dJ9_min_7cf53_2 : decode cJ9_min_7cf53 2 = .ok (.if_icmp .gt 7, 3) := by decide +kernel
theorem dJ9_min_7cf53_5 : decode cJ9_min_7cf53 5 = .ok (.iload_n 0, 1) := by decide +kernel
theorem dJ9_min_7cf53_6 : decode cJ9_min_7cf53 6 = .ok (.goto 4, 3) := by decide +kernel
theorem dJ9_min_7cf53_9 : decode cJ9_min_7cf53 9 = .ok (.iload_n 1, 1) := by decide +kernel
theorem dJ9_min_7cf53_10 : decode cJ9_min_7cf53 10 = .ok (.ireturn, 1) := by decide +kernel
