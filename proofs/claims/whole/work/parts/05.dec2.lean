theorem dX10_init_0 : decode cX10_init 0 = .ok (.aload_n 0, 1) := by decide +kernel
theorem dX10_init_1 : decode cX10_init 1 = .ok (.invokespecial 1, 3) := by decide +kernel
theorem dX10_init_4 : decode cX10_init 4 = .ok (.aload_n 0, 1) := by decide +kernel
theorem dX10_init_5 : decode cX10_init 5 = .ok (.bipush 6, 2) := by decide +kernel
theorem dX10_init_7 : decode cX10_init 7 = .ok (.newarray .int, 2) := by decide +kernel
theorem dX10_init_9 : decode cX10_init 9 = .ok (.putfield 7, 3) := by decide +kernel
theorem dX10_init_12 : decode cX10_init 12 = .ok (.aload_n 0, 1) := by decide +kernel
theorem dX10_init_13 : decode cX10_init 13 = .ok (.bipush 20, 2) := by decide +kernel
theorem dX10_init_15 : decode cX10_init 15 = .ok (.newarray .int, 2) := by decide +kernel
theorem dX10_init_17 : decode cX10_init 17 = .ok (.putfield 13, 3) := by decide +kernel
theorem dX10_init_20 : decode cX10_init 20 = .ok (.aload_n 0, 1) := by decide +kernel
theorem dX10_init_21 : decode cX10_init 21 = .ok (.bipush 20, 2) := by decide +kernel
theorem dX10_init_23 : decode cX10_init 23 = .ok (.newarray .int, 2) := by decide +kernel
theorem dX10_init_25 : decode cX10_init 25 = .ok (.putfield 16, 3) := by decide +kernel
theorem dX10_init_28 : decode cX10_init 28 = .ok (.aload_n 0, 1) := by decide +kernel
theorem dX10_init_29 : decode cX10_init 29 = .ok (.bipush 20, 2) := by decide +kernel
theorem dX10_init_31 : decode cX10_init 31 = .ok (.newarray .int, 2) := by decide +kernel
theorem dX10_init_33 : decode cX10_init 33 = .ok (.putfield 19, 3) := by decide +kernel
theorem dX10_init_36 : decode cX10_init 36 = .ok (.aload_n 0, 1) := by decide +kernel
theorem dX10_init_37 : decode cX10_init 37 = .ok (.bipush 20, 2) := by decide +kernel
theorem dX10_init_39 : decode cX10_init 39 = .ok (.newarray .int, 2) := by decide +kernel
theorem dX10_init_41 : decode cX10_init 41 = .ok (.putfield 22, 3) := by decide +kernel
theorem dX10_init_44 : decode cX10_init 44 = .ok (.aload_n 0, 1) := by decide +kernel
theorem dX10_init_45 : decode cX10_init 45 = .ok (.bipush 20, 2) := by decide +kernel
theorem dX10_init_47 : decode cX10_init 47 = .ok (.newarray .int, 2) := by decide +kernel
theorem dX10_init_49 : decode cX10_init 49 = .ok (.putfield 25, 3) := by decide +kernel
theorem dX10_init_52 : decode cX10_init 52 = .ok (.aload_n 0, 1) := by decide +kernel
theorem dX10_init_53 : decode cX10_init 53 = .ok (.bipush 30, 2) := by decide +kernel
theorem dX10_init_55 : decode cX10_init 55 = .ok (.newarray .int, 2) := by decide +kernel
theorem dX10_init_57 : decode cX10_init 57 = .ok (.putfield 28, 3) := by decide +kernel
theorem dX10_init_60 : decode cX10_init 60 = .ok (.aload_n 0, 1) := by decide +kernel
theorem dX10_init_61 : decode cX10_init 61 = .ok (.bipush 10, 2) := by decide +kernel
theorem dX10_init_63 : decode cX10_init 63 = .ok (.newarray .int, 2) := by decide +kernel
theorem dX10_init_65 : decode cX10_init 65 = .ok (.putfield 31, 3) := by decide +kernel
theorem dX10_init_68 : decode cX10_init 68 = .ok (.aload_n 0, 1) := by decide +kernel
theorem dX10_init_69 : decode cX10_init 69 = .ok (.bipush 10, 2) := by decide +kernel
theorem dX10_init_71 : decode cX10_init 71 = .ok (.newarray .int, 2) := by decide +kernel
theorem dX10_init_73 : decode cX10_init 73 = .ok (.putfield 34, 3) := by decide +kernel
theorem dX10_init_76 : decode cX10_init 76 = .ok (.aload_n 0, 1) := by decide +kernel
theorem dX10_init_77 : decode cX10_init 77 = .ok (.bipush 10, 2) := by decide +kernel
theorem dX10_init_79 : decode cX10_init 79 = .ok (.newarray .int, 2) := by decide +kernel
theorem dX10_init_81 : decode cX10_init 81 = .ok (.putfield 37, 3) := by decide +kernel
theorem dX10_init_84 : decode cX10_init 84 = .ok (.aload_n 0, 1) := by decide +kernel
theorem dX10_init_85 : decode cX10_init 85 = .ok (.bipush 10, 2) := by decide +kernel
theorem dX10_init_87 : decode cX10_init 87 = .ok (.newarray .int, 2) := by decide +kernel
theorem dX10_init_89 : decode cX10_init 89 = .ok (.putfield 40, 3) := by decide +kernel
theorem dX10_init_92 : decode cX10_init 92 = .ok (.aload_n 0, 1) := by decide +kernel
theorem dX10_init_93 : decode cX10_init 93 = .ok (.bipush 10, 2) := by decide +kernel
theorem dX10_init_95 : decode cX10_init 95 = .ok (.newarray .int, 2) := by decide +kernel
theorem dX10_init_97 : decode cX10_init 97 = .ok (.putfield 43, 3) := by decide +kernel
theorem dX10_init_100 : decode cX10_init 100 = .ok (.aload_n 0, 1) := by decide +kernel
theorem dX10_init_101 : decode cX10_init 101 = .ok (.bipush 12, 2) := by decide +kernel
theorem dX10_init_103 : decode cX10_init 103 = .ok (.newarray .int, 2) := by decide +kernel
theorem dX10_init_105 : decode cX10_init 105 = .ok (.putfield 46, 3) := by decide +kernel
theorem dX10_init_108 : decode cX10_init 108 = .ok (.aload_n 0, 1) := by decide +kernel
theorem dX10_init_109 : decode cX10_init 109 = .ok (.bipush 12, 2) := by decide +kernel
theorem dX10_init_111 : decode cX10_init 111 = .ok (.newarray .int, 2) := by decide +kernel
theorem dX10_init_113 : decode cX10_init 113 = .ok (.putfield 49, 3) := by decide +kernel
theorem dX10_init_116 : decode cX10_init 116 = .ok (.aload_n 0, 1) := by decide +kernel
theorem dX10_init_117 : decode cX10_init 117 = .ok (.bipush 6, 2) := by decide +kernel
theorem dX10_init_119 : decode cX10_init 119 = .ok (.newarray .int, 2) := by decide +kernel
theorem dX10_init_121 : decode cX10_init 121 = .ok (.putfield 52, 3) := by decide +kernel
theorem dX10_init_124 : decode cX10_init 124 = .ok (.aload_n 0, 1) := by decide +kernel
theorem dX10_init_125 : decode cX10_init 125 = .ok (.bipush 6, 2) := by decide +kernel
theorem dX10_init_127 : decode cX10_init 127 = .ok (.newarray .int, 2) := by decide +kernel
theorem dX10_init_129 : decode cX10_init 129 = .ok (.putfield 55, 3) := by decide +kernel
theorem dX10_init_132 : decode cX10_init 132 = .ok (.aload_n 0, 1) := by decide +kernel
theorem dX10_init_133 : decode cX10_init 133 = .ok (.bipush 6, 2) := by decide +kernel
theorem dX10_init_135 : decode cX10_init 135 = .ok (.newarray .int, 2) := by decide +kernel
theorem dX10_init_137 : decode cX10_init 137 = .ok (.putfield 58, 3) := by decide +kernel
theorem dX10_init_140 : decode cX10_init 140 = .ok (.aload_n 0, 1) := by decide +kernel
theorem dX10_init_141 : decode cX10_init 141 = .ok (.bipush 6, 2) := by decide +kernel
theorem dX10_init_143 : decode cX10_init 143 = .ok (.newarray .int, 2) := by decide +kernel
theorem dX10_init_145 : decode cX10_init 145 = .ok (.putfield 61, 3) := by decide +kernel
theorem dX10_init_148 : decode cX10_init 148 = .ok (.aload_n 0, 1) := by decide +kernel
theorem dX10_init_149 : decode cX10_init 149 = .ok (.sipush 700, 3) := by decide +kernel
theorem dX10_init_152 : decode cX10_init 152 = .ok (.newarray .int, 2) := by decide +kernel
theorem dX10_init_154 : decode cX10_init 154 = .ok (.putfield 64, 3) := by decide +kernel
theorem dX10_init_157 : decode cX10_init 157 = .ok (.aload_n 0, 1) := by decide +kernel
theorem dX10_init_158 : decode cX10_init 158 = .ok (.sipush 700, 3) := by decide +kernel
theorem dX10_init_161 : decode cX10_init 161 = .ok (.newarray .int, 2) := by decide +kernel
theorem dX10_init_163 : decode cX10_init 163 = .ok (.putfield 67, 3) := by decide +kernel
theorem dX10_init_166 : decode cX10_init 166 = .ok (.return_, 1) := by decide +kernel
theorem dX10_thrown_0 : decode cX10_thrown 0 = .ok (.aload_n 0, 1) := by decide +kernel
theorem dX10_thrown_1 : decode cX10_thrown 1 = .ok (.getfield 70, 3) := by decide +kernel
theorem dX10_thrown_4 : decode cX10_thrown 4 = .ok (.ireturn, 1) := by decide +kernel
theorem dX10_in_0 : decode cX10_in 0 = .ok (.iload_n 0, 1) := by decide +kernel
theorem dX10_in_1 : decode cX10_in 1 = .ok (.iload_n 1, 1) := by decide +kernel
theorem dX10_in_2 : decode cX10_in 2 = .ok (.if_icmp .lt 12, 3) := by decide +kernel
theorem dX10_in_5 : decode cX10_in 5 = .ok (.iload_n 0, 1) := by decide +kernel
theorem dX10_in_6 : decode cX10_in 6 = .ok (.iload_n 2, 1) := by decide +kernel
theorem dX10_in_7 : decode cX10_in 7 = .ok (.if_icmp .gt 7, 3) := by decide +kernel
theorem dX10_in_10 : decode cX10_in 10 = .ok (.iconst 1, 1) := by decide +kernel
theorem dX10_in_11 : decode cX10_in 11 = .ok (.goto 4, 3) := by decide +kernel
theorem dX10_in_14 : decode cX10_in 14 = .ok (.iconst 0, 1) := by decide +kernel
theorem dX10_in_15 : decode cX10_in 15 = .ok (.ireturn, 1) := by decide +kernel
theorem dX10_isFeature_0 : decode cX10_isFeature 0 = .ok (.iload_n 1, 1) := by decide +kernel
theorem dX10_isFeature_1 : decode cX10_isFeature 1 = .ok (.iconst 0, 1) := by decide +kernel
theorem dX10_isFeature_2 : decode cX10_isFeature 2 = .ok (.aload_n 0, 1) := by decide +kernel
theorem dX10_isFeature_3 : decode cX10_isFeature 3 = .ok (.getfield 74, 3) := by decide +kernel
theorem dX10_isFeature_6 : decode cX10_isFeature 6 = .ok (.iconst 1, 1) := by decide +kernel
theorem dX10_isFeature_7 : decode cX10_isFeature 7 = .ok (.isub, 1) := by decide +kernel
theorem dX10_isFeature_8 : decode cX10_isFeature 8 = .ok (.invokestatic 77, 3) := by decide +kernel
theorem dX10_isFeature_11 : decode cX10_isFeature 11 = .ok (.ireturn, 1) := by decide +kernel
theorem dX10_isOption_0 : decode cX10_isOption 0 = .ok (.aload_n 0, 1) := by decide +kernel
theorem dX10_isOption_1 : decode cX10_isOption 1 = .ok (.iload_n 1, 1) := by decide +kernel
theorem dX10_isOption_2 : decode cX10_isOption 2 = .ok (.invokevirtual 81, 3) := by decide +kernel
theorem dX10_isOption_5 : decode cX10_isOption 5 = .ok (.ifCond .eq 23, 3) := by decide +kernel
theorem dX10_isOption_8 : decode cX10_isOption 8 = .ok (.iload_n 2, 1) := by decide +kernel
theorem dX10_isOption_9 : decode cX10_isOption 9 = .ok (.iconst 0, 1) := by decide +kernel
theorem dX10_isOption_10 : decode cX10_isOption 10 = .ok (.aload_n 0, 1) := by decide +kernel
theorem dX10_isOption_11 : decode cX10_isOption 11 = .ok (.getfield 7, 3) := by decide +kernel
theorem dX10_isOption_14 : decode cX10_isOption 14 = .ok (.iload_n 1, 1) := by decide +kernel
theorem dX10_isOption_15 : decode cX10_isOption 15 = .ok (.iaload, 1) := by decide +kernel
theorem dX10_isOption_16 : decode cX10_isOption 16 = .ok (.iconst 1, 1) := by decide +kernel
theorem dX10_isOption_17 : decode cX10_isOption 17 = .ok (.isub, 1) := by decide +kernel
theorem dX10_isOption_18 : decode cX10_isOption 18 = .ok (.invokestatic 77, 3) := by decide +kernel
theorem dX10_isOption_21 : decode cX10_isOption 21 = .ok (.ifCond .eq 7, 3) := by decide +kernel
theorem dX10_isOption_24 : decode cX10_isOption 24 = .ok (.iconst 1, 1) := by decide +kernel
theorem dX10_isOption_25 : decode cX10_isOption 25 = .ok (.goto 4, 3) := by decide +kernel
theorem dX10_isOption_28 : decode cX10_isOption 28 = .ok (.iconst 0, 1) := by decide +kernel
theorem dX10_isOption_29 : decode cX10_isOption 29 = .ok (.ireturn, 1) := by decide +kernel
theorem dX10_keeps_0 : decode cX10_keeps 0 = .ok (.iload_n 2, 1) := by decide +kernel
theorem dX10_keeps_1 : decode cX10_keeps 1 = .ok (.aload_n 0, 1) := by decide +kernel
theorem dX10_keeps_2 : decode cX10_keeps 2 = .ok (.getfield 19, 3) := by decide +kernel
theorem dX10_keeps_5 : decode cX10_keeps 5 = .ok (.iload_n 1, 1) := by decide +kernel
theorem dX10_keeps_6 : decode cX10_keeps 6 = .ok (.iaload, 1) := by decide +kernel
theorem dX10_keeps_7 : decode cX10_keeps 7 = .ok (.if_icmp .ne 7, 3) := by decide +kernel
theorem dX10_keeps_10 : decode cX10_keeps 10 = .ok (.iconst 1, 1) := by decide +kernel
theorem dX10_keeps_11 : decode cX10_keeps 11 = .ok (.goto 4, 3) := by decide +kernel
theorem dX10_keeps_14 : decode cX10_keeps 14 = .ok (.iconst 0, 1) := by decide +kernel
theorem dX10_keeps_15 : decode cX10_keeps 15 = .ok (.istore 4, 2) := by decide +kernel
theorem dX10_keeps_17 : decode cX10_keeps 17 = .ok (.iload_n 3, 1) := by decide +kernel
theorem dX10_keeps_18 : decode cX10_keeps 18 = .ok (.aload_n 0, 1) := by decide +kernel
theorem dX10_keeps_19 : decode cX10_keeps 19 = .ok (.getfield 25, 3) := by decide +kernel
theorem dX10_keeps_22 : decode cX10_keeps 22 = .ok (.iload_n 1, 1) := by decide +kernel
theorem dX10_keeps_23 : decode cX10_keeps 23 = .ok (.iaload, 1) := by decide +kernel
theorem dX10_keeps_24 : decode cX10_keeps 24 = .ok (.if_icmp .ne 7, 3) := by decide +kernel
theorem dX10_keeps_27 : decode cX10_keeps 27 = .ok (.iconst 1, 1) := by decide +kernel
theorem dX10_keeps_28 : decode cX10_keeps 28 = .ok (.goto 4, 3) := by decide +kernel
theorem dX10_keeps_31 : decode cX10_keeps 31 = .ok (.iconst 0, 1) := by decide +kernel
theorem dX10_keeps_32 : decode cX10_keeps 32 = .ok (.istore 5, 2) := by decide +kernel
theorem dX10_keeps_34 : decode cX10_keeps 34 = .ok (.aload_n 0, 1) := by decide +kernel
theorem dX10_keeps_35 : decode cX10_keeps 35 = .ok (.getfield 13, 3) := by decide +kernel
theorem dX10_keeps_38 : decode cX10_keeps 38 = .ok (.iload_n 1, 1) := by decide +kernel
theorem dX10_keeps_39 : decode cX10_keeps 39 = .ok (.iaload, 1) := by decide +kernel
theorem dX10_keeps_40 : decode cX10_keeps 40 = .ok (.ifCond .ne 21, 3) := by decide +kernel
theorem dX10_keeps_43 : decode cX10_keeps 43 = .ok (.iload 4, 2) := by decide +kernel
theorem dX10_keeps_45 : decode cX10_keeps 45 = .ok (.ifCond .eq 8, 3) := by decide +kernel
theorem dX10_keeps_48 : decode cX10_keeps 48 = .ok (.iload 5, 2) := by decide +kernel
theorem dX10_keeps_50 : decode cX10_keeps 50 = .ok (.ifCond .ne 7, 3) := by decide +kernel
theorem dX10_keeps_53 : decode cX10_keeps 53 = .ok (.iconst 1, 1) := by decide +kernel
theorem dX10_keeps_54 : decode cX10_keeps 54 = .ok (.goto 47, 3) := by decide +kernel
theorem dX10_keeps_57 : decode cX10_keeps 57 = .ok (.iconst 0, 1) := by decide +kernel
theorem dX10_keeps_58 : decode cX10_keeps 58 = .ok (.goto 43, 3) := by decide +kernel
theorem dX10_keeps_61 : decode cX10_keeps 61 = .ok (.aload_n 0, 1) := by decide +kernel
theorem dX10_keeps_62 : decode cX10_keeps 62 = .ok (.getfield 13, 3) := by decide +kernel
theorem dX10_keeps_65 : decode cX10_keeps 65 = .ok (.iload_n 1, 1) := by decide +kernel
theorem dX10_keeps_66 : decode cX10_keeps 66 = .ok (.iaload, 1) := by decide +kernel
theorem dX10_keeps_67 : decode cX10_keeps 67 = .ok (.iconst 1, 1) := by decide +kernel
theorem dX10_keeps_68 : decode cX10_keeps 68 = .ok (.if_icmp .ne 21, 3) := by decide +kernel
theorem dX10_keeps_71 : decode cX10_keeps 71 = .ok (.iload 4, 2) := by decide +kernel
theorem dX10_keeps_73 : decode cX10_keeps 73 = .ok (.ifCond .eq 8, 3) := by decide +kernel
theorem dX10_keeps_76 : decode cX10_keeps 76 = .ok (.iload 5, 2) := by decide +kernel
theorem dX10_keeps_78 : decode cX10_keeps 78 = .ok (.ifCond .eq 7, 3) := by decide +kernel
theorem dX10_keeps_81 : decode cX10_keeps 81 = .ok (.iconst 1, 1) := by decide +kernel
theorem dX10_keeps_82 : decode cX10_keeps 82 = .ok (.goto 19, 3) := by decide +kernel
theorem dX10_keeps_85 : decode cX10_keeps 85 = .ok (.iconst 0, 1) := by decide +kernel
theorem dX10_keeps_86 : decode cX10_keeps 86 = .ok (.goto 15, 3) := by decide +kernel
theorem dX10_keeps_89 : decode cX10_keeps 89 = .ok (.iload 4, 2) := by decide +kernel
theorem dX10_keeps_91 : decode cX10_keeps 91 = .ok (.iload 5, 2) := by decide +kernel
theorem dX10_keeps_93 : decode cX10_keeps 93 = .ok (.if_icmp .ne 7, 3) := by decide +kernel
theorem dX10_keeps_96 : decode cX10_keeps 96 = .ok (.iconst 1, 1) := by decide +kernel
theorem dX10_keeps_97 : decode cX10_keeps 97 = .ok (.goto 4, 3) := by decide +kernel
theorem dX10_keeps_100 : decode cX10_keeps 100 = .ok (.iconst 0, 1) := by decide +kernel
theorem dX10_keeps_101 : decode cX10_keeps 101 = .ok (.ireturn, 1) := by decide +kernel
theorem dX10_together_0 : decode cX10_together 0 = .ok (.iconst 1, 1) := by decide +kernel
theorem dX10_together_1 : decode cX10_together 1 = .ok (.istore 6, 2) := by decide +kernel
theorem dX10_together_3 : decode cX10_together 3 = .ok (.iconst 0, 1) := by decide +kernel
theorem dX10_together_4 : decode cX10_together 4 = .ok (.istore 7, 2) := by decide +kernel
theorem dX10_together_6 : decode cX10_together 6 = .ok (.iload 7, 2) := by decide +kernel
theorem dX10_together_8 : decode cX10_together 8 = .ok (.aload_n 0, 1) := by decide +kernel
theorem dX10_together_9 : decode cX10_together 9 = .ok (.getfield 85, 3) := by decide +kernel
theorem dX10_together_12 : decode cX10_together 12 = .ok (.if_icmp .ge 101, 3) := by decide +kernel
theorem dX10_together_15 : decode cX10_together 15 = .ok (.iload_n 1, 1) := by decide +kernel
theorem dX10_together_16 : decode cX10_together 16 = .ok (.iload 7, 2) := by decide +kernel
theorem dX10_together_18 : decode cX10_together 18 = .ok (.ishr, 1) := by decide +kernel
theorem dX10_together_19 : decode cX10_together 19 = .ok (.iconst 1, 1) := by decide +kernel
theorem dX10_together_20 : decode cX10_together 20 = .ok (.iand, 1) := by decide +kernel
theorem dX10_together_21 : decode cX10_together 21 = .ok (.iconst 1, 1) := by decide +kernel
theorem dX10_together_22 : decode cX10_together 22 = .ok (.if_icmp .ne 85, 3) := by decide +kernel
theorem dX10_together_25 : decode cX10_together 25 = .ok (.iload 6, 2) := by decide +kernel
theorem dX10_together_27 : decode cX10_together 27 = .ok (.ifCond .eq 77, 3) := by decide +kernel
theorem dX10_together_30 : decode cX10_together 30 = .ok (.aload_n 0, 1) := by decide +kernel
theorem dX10_together_31 : decode cX10_together 31 = .ok (.getfield 16, 3) := by decide +kernel
theorem dX10_together_34 : decode cX10_together 34 = .ok (.iload 7, 2) := by decide +kernel
theorem dX10_together_36 : decode cX10_together 36 = .ok (.iaload, 1) := by decide +kernel
theorem dX10_together_37 : decode cX10_together 37 = .ok (.iload_n 2, 1) := by decide +kernel
theorem dX10_together_38 : decode cX10_together 38 = .ok (.if_icmp .ne 27, 3) := by decide +kernel
theorem dX10_together_41 : decode cX10_together 41 = .ok (.aload_n 0, 1) := by decide +kernel
theorem dX10_together_42 : decode cX10_together 42 = .ok (.getfield 22, 3) := by decide +kernel
theorem dX10_together_45 : decode cX10_together 45 = .ok (.iload 7, 2) := by decide +kernel
theorem dX10_together_47 : decode cX10_together 47 = .ok (.iaload, 1) := by decide +kernel
theorem dX10_together_48 : decode cX10_together 48 = .ok (.iload 4, 2) := by decide +kernel
theorem dX10_together_50 : decode cX10_together 50 = .ok (.if_icmp .ne 15, 3) := by decide +kernel
theorem dX10_together_53 : decode cX10_together 53 = .ok (.aload_n 0, 1) := by decide +kernel
theorem dX10_together_54 : decode cX10_together 54 = .ok (.iload 7, 2) := by decide +kernel
theorem dX10_together_56 : decode cX10_together 56 = .ok (.iload_n 3, 1) := by decide +kernel
theorem dX10_together_57 : decode cX10_together 57 = .ok (.iload 5, 2) := by decide +kernel
theorem dX10_together_59 : decode cX10_together 59 = .ok (.invokevirtual 88, 3) := by decide +kernel
theorem dX10_together_62 : decode cX10_together 62 = .ok (.ifCond .eq 42, 3) := by decide +kernel
theorem dX10_together_65 : decode cX10_together 65 = .ok (.aload_n 0, 1) := by decide +kernel
theorem dX10_together_66 : decode cX10_together 66 = .ok (.getfield 16, 3) := by decide +kernel
theorem dX10_together_69 : decode cX10_together 69 = .ok (.iload 7, 2) := by decide +kernel
theorem dX10_together_71 : decode cX10_together 71 = .ok (.iaload, 1) := by decide +kernel
theorem dX10_together_72 : decode cX10_together 72 = .ok (.iload 4, 2) := by decide +kernel
theorem dX10_together_74 : decode cX10_together 74 = .ok (.if_icmp .ne 26, 3) := by decide +kernel
theorem dX10_together_77 : decode cX10_together 77 = .ok (.aload_n 0, 1) := by decide +kernel
theorem dX10_together_78 : decode cX10_together 78 = .ok (.getfield 22, 3) := by decide +kernel
theorem dX10_together_81 : decode cX10_together 81 = .ok (.iload 7, 2) := by decide +kernel
theorem dX10_together_83 : decode cX10_together 83 = .ok (.iaload, 1) := by decide +kernel
theorem dX10_together_84 : decode cX10_together 84 = .ok (.iload_n 2, 1) := by decide +kernel
theorem dX10_together_85 : decode cX10_together 85 = .ok (.if_icmp .ne 15, 3) := by decide +kernel
theorem dX10_together_88 : decode cX10_together 88 = .ok (.aload_n 0, 1) := by decide +kernel
theorem dX10_together_89 : decode cX10_together 89 = .ok (.iload 7, 2) := by decide +kernel
theorem dX10_together_91 : decode cX10_together 91 = .ok (.iload 5, 2) := by decide +kernel
theorem dX10_together_93 : decode cX10_together 93 = .ok (.iload_n 3, 1) := by decide +kernel
theorem dX10_together_94 : decode cX10_together 94 = .ok (.invokevirtual 88, 3) := by decide +kernel
theorem dX10_together_97 : decode cX10_together 97 = .ok (.ifCond .eq 7, 3) := by decide +kernel
theorem dX10_together_100 : decode cX10_together 100 = .ok (.iconst 1, 1) := by decide +kernel
theorem dX10_together_101 : decode cX10_together 101 = .ok (.goto 4, 3) := by decide +kernel
theorem dX10_together_104 : decode cX10_together 104 = .ok (.iconst 0, 1) := by decide +kernel
theorem dX10_together_105 : decode cX10_together 105 = .ok (.istore 6, 2) := by decide +kernel
theorem dX10_together_107 : decode cX10_together 107 = .ok (.iinc 7 1, 3) := by decide +kernel
theorem dX10_together_110 : decode cX10_together 110 = .ok (.goto (-104), 3) := by decide +kernel
theorem dX10_together_113 : decode cX10_together 113 = .ok (.iload 6, 2) := by decide +kernel
theorem dX10_together_115 : decode cX10_together 115 = .ok (.ireturn, 1) := by decide +kernel
theorem dX10_fits_0 : decode cX10_fits 0 = .ok (.aload_n 0, 1) := by decide +kernel
theorem dX10_fits_1 : decode cX10_fits 1 = .ok (.getfield 58, 3) := by decide +kernel
theorem dX10_fits_4 : decode cX10_fits 4 = .ok (.iload_n 2, 1) := by decide +kernel
theorem dX10_fits_5 : decode cX10_fits 5 = .ok (.iaload, 1) := by decide +kernel
theorem dX10_fits_6 : decode cX10_fits 6 = .ok (.aload_n 0, 1) := by decide +kernel
theorem dX10_fits_7 : decode cX10_fits 7 = .ok (.getfield 61, 3) := by decide +kernel
theorem dX10_fits_10 : decode cX10_fits 10 = .ok (.iload_n 2, 1) := by decide +kernel
theorem dX10_fits_11 : decode cX10_fits 11 = .ok (.iaload, 1) := by decide +kernel
theorem dX10_fits_12 : decode cX10_fits 12 = .ok (.ishr, 1) := by decide +kernel
theorem dX10_fits_13 : decode cX10_fits 13 = .ok (.iconst 1, 1) := by decide +kernel
theorem dX10_fits_14 : decode cX10_fits 14 = .ok (.iand, 1) := by decide +kernel
theorem dX10_fits_15 : decode cX10_fits 15 = .ok (.iconst 1, 1) := by decide +kernel
theorem dX10_fits_16 : decode cX10_fits 16 = .ok (.if_icmp .ne 7, 3) := by decide +kernel
theorem dX10_fits_19 : decode cX10_fits 19 = .ok (.iconst 1, 1) := by decide +kernel
theorem dX10_fits_20 : decode cX10_fits 20 = .ok (.goto 4, 3) := by decide +kernel
theorem dX10_fits_23 : decode cX10_fits 23 = .ok (.iconst 0, 1) := by decide +kernel
theorem dX10_fits_24 : decode cX10_fits 24 = .ok (.istore_n 3, 1) := by decide +kernel
theorem dX10_fits_25 : decode cX10_fits 25 = .ok (.iconst 0, 1) := by decide +kernel
theorem dX10_fits_26 : decode cX10_fits 26 = .ok (.istore 4, 2) := by decide +kernel
theorem dX10_fits_28 : decode cX10_fits 28 = .ok (.iload 4, 2) := by decide +kernel
theorem dX10_fits_30 : decode cX10_fits 30 = .ok (.iload_n 2, 1) := by decide +kernel
theorem dX10_fits_31 : decode cX10_fits 31 = .ok (.if_icmp .ge 35, 3) := by decide +kernel
theorem dX10_fits_34 : decode cX10_fits 34 = .ok (.iload_n 3, 1) := by decide +kernel
theorem dX10_fits_35 : decode cX10_fits 35 = .ok (.ifCond .eq 31, 3) := by decide +kernel
theorem dX10_fits_38 : decode cX10_fits 38 = .ok (.aload_n 0, 1) := by decide +kernel
theorem dX10_fits_39 : decode cX10_fits 39 = .ok (.iload_n 1, 1) := by decide +kernel
theorem dX10_fits_40 : decode cX10_fits 40 = .ok (.iload 4, 2) := by decide +kernel
theorem dX10_fits_42 : decode cX10_fits 42 = .ok (.aload_n 0, 1) := by decide +kernel
theorem dX10_fits_43 : decode cX10_fits 43 = .ok (.getfield 61, 3) := by decide +kernel
theorem dX10_fits_46 : decode cX10_fits 46 = .ok (.iload 4, 2) := by decide +kernel
theorem dX10_fits_48 : decode cX10_fits 48 = .ok (.iaload, 1) := by decide +kernel
theorem dX10_fits_49 : decode cX10_fits 49 = .ok (.iload_n 2, 1) := by decide +kernel
theorem dX10_fits_50 : decode cX10_fits 50 = .ok (.aload_n 0, 1) := by decide +kernel
theorem dX10_fits_51 : decode cX10_fits 51 = .ok (.getfield 61, 3) := by decide +kernel
theorem dX10_fits_54 : decode cX10_fits 54 = .ok (.iload_n 2, 1) := by decide +kernel
theorem dX10_fits_55 : decode cX10_fits 55 = .ok (.iaload, 1) := by decide +kernel
theorem dX10_fits_56 : decode cX10_fits 56 = .ok (.invokevirtual 91, 3) := by decide +kernel
theorem dX10_fits_59 : decode cX10_fits 59 = .ok (.istore_n 3, 1) := by decide +kernel
theorem dX10_fits_60 : decode cX10_fits 60 = .ok (.iinc 4 1, 3) := by decide +kernel
theorem dX10_fits_63 : decode cX10_fits 63 = .ok (.goto (-35), 3) := by decide +kernel
theorem dX10_fits_66 : decode cX10_fits 66 = .ok (.iload_n 3, 1) := by decide +kernel
theorem dX10_fits_67 : decode cX10_fits 67 = .ok (.ireturn, 1) := by decide +kernel
theorem dX10_picks_0 : decode cX10_picks 0 = .ok (.aload_n 0, 1) := by decide +kernel
theorem dX10_picks_1 : decode cX10_picks 1 = .ok (.getfield 74, 3) := by decide +kernel
theorem dX10_picks_4 : decode cX10_picks 4 = .ok (.ifCond .ne 13, 3) := by decide +kernel
theorem dX10_picks_7 : decode cX10_picks 7 = .ok (.iload_n 2, 1) := by decide +kernel
theorem dX10_picks_8 : decode cX10_picks 8 = .ok (.ifCond .ne 7, 3) := by decide +kernel
theorem dX10_picks_11 : decode cX10_picks 11 = .ok (.iconst 1, 1) := by decide +kernel
theorem dX10_picks_12 : decode cX10_picks 12 = .ok (.goto 4, 3) := by decide +kernel
theorem dX10_picks_15 : decode cX10_picks 15 = .ok (.iconst 0, 1) := by decide +kernel
theorem dX10_picks_16 : decode cX10_picks 16 = .ok (.ireturn, 1) := by decide +kernel
theorem dX10_picks_17 : decode cX10_picks 17 = .ok (.iload_n 2, 1) := by decide +kernel
theorem dX10_picks_18 : decode cX10_picks 18 = .ok (.ifCond .eq 12, 3) := by decide +kernel
theorem dX10_picks_21 : decode cX10_picks 21 = .ok (.aload_n 0, 1) := by decide +kernel
theorem dX10_picks_22 : decode cX10_picks 22 = .ok (.getfield 74, 3) := by decide +kernel
theorem dX10_picks_25 : decode cX10_picks 25 = .ok (.iconst 1, 1) := by decide +kernel
theorem dX10_picks_26 : decode cX10_picks 26 = .ok (.isub, 1) := by decide +kernel
theorem dX10_picks_27 : decode cX10_picks 27 = .ok (.goto 4, 3) := by decide +kernel
theorem dX10_picks_30 : decode cX10_picks 30 = .ok (.iconst 0, 1) := by decide +kernel
theorem dX10_picks_31 : decode cX10_picks 31 = .ok (.istore_n 3, 1) := by decide +kernel
theorem dX10_picks_32 : decode cX10_picks 32 = .ok (.aload_n 0, 1) := by decide +kernel
theorem dX10_picks_33 : decode cX10_picks 33 = .ok (.getfield 61, 3) := by decide +kernel
theorem dX10_picks_36 : decode cX10_picks 36 = .ok (.iconst 0, 1) := by decide +kernel
theorem dX10_picks_37 : decode cX10_picks 37 = .ok (.iload_n 2, 1) := by decide +kernel
theorem dX10_picks_38 : decode cX10_picks 38 = .ok (.ifCond .eq 12, 3) := by decide +kernel
theorem dX10_picks_41 : decode cX10_picks 41 = .ok (.aload_n 0, 1) := by decide +kernel
theorem dX10_picks_42 : decode cX10_picks 42 = .ok (.getfield 61, 3) := by decide +kernel
theorem dX10_picks_45 : decode cX10_picks 45 = .ok (.iconst 0, 1) := by decide +kernel
theorem dX10_picks_46 : decode cX10_picks 46 = .ok (.iaload, 1) := by decide +kernel
theorem dX10_picks_47 : decode cX10_picks 47 = .ok (.goto 4, 3) := by decide +kernel
theorem dX10_picks_50 : decode cX10_picks 50 = .ok (.iconst (-1), 1) := by decide +kernel
theorem dX10_picks_51 : decode cX10_picks 51 = .ok (.iastore, 1) := by decide +kernel
theorem dX10_picks_52 : decode cX10_picks 52 = .ok (.iload_n 3, 1) := by decide +kernel
theorem dX10_picks_53 : decode cX10_picks 53 = .ok (.ifCond .lt 68, 3) := by decide +kernel
theorem dX10_picks_56 : decode cX10_picks 56 = .ok (.aload_n 0, 1) := by decide +kernel
theorem dX10_picks_57 : decode cX10_picks 57 = .ok (.getfield 61, 3) := by decide +kernel
theorem dX10_picks_60 : decode cX10_picks 60 = .ok (.iload_n 3, 1) := by decide +kernel
theorem dX10_picks_61 : decode cX10_picks 61 = .ok (.dup2, 1) := by decide +kernel
theorem dX10_picks_62 : decode cX10_picks 62 = .ok (.iaload, 1) := by decide +kernel
theorem dX10_picks_63 : decode cX10_picks 63 = .ok (.iconst 1, 1) := by decide +kernel
theorem dX10_picks_64 : decode cX10_picks 64 = .ok (.iadd, 1) := by decide +kernel
theorem dX10_picks_65 : decode cX10_picks 65 = .ok (.iastore, 1) := by decide +kernel
theorem dX10_picks_66 : decode cX10_picks 66 = .ok (.aload_n 0, 1) := by decide +kernel
theorem dX10_picks_67 : decode cX10_picks 67 = .ok (.getfield 61, 3) := by decide +kernel
theorem dX10_picks_70 : decode cX10_picks 70 = .ok (.iload_n 3, 1) := by decide +kernel
theorem dX10_picks_71 : decode cX10_picks 71 = .ok (.iaload, 1) := by decide +kernel
theorem dX10_picks_72 : decode cX10_picks 72 = .ok (.aload_n 0, 1) := by decide +kernel
theorem dX10_picks_73 : decode cX10_picks 73 = .ok (.getfield 7, 3) := by decide +kernel
theorem dX10_picks_76 : decode cX10_picks 76 = .ok (.iload_n 3, 1) := by decide +kernel
theorem dX10_picks_77 : decode cX10_picks 77 = .ok (.iaload, 1) := by decide +kernel
theorem dX10_picks_78 : decode cX10_picks 78 = .ok (.if_icmp .lt 9, 3) := by decide +kernel
theorem dX10_picks_81 : decode cX10_picks 81 = .ok (.iinc 3 (-1), 3) := by decide +kernel
theorem dX10_picks_84 : decode cX10_picks 84 = .ok (.goto (-32), 3) := by decide +kernel
theorem dX10_picks_87 : decode cX10_picks 87 = .ok (.aload_n 0, 1) := by decide +kernel
theorem dX10_picks_88 : decode cX10_picks 88 = .ok (.iload_n 1, 1) := by decide +kernel
theorem dX10_picks_89 : decode cX10_picks 89 = .ok (.iload_n 3, 1) := by decide +kernel
theorem dX10_picks_90 : decode cX10_picks 90 = .ok (.invokevirtual 95, 3) := by decide +kernel
theorem dX10_picks_93 : decode cX10_picks 93 = .ok (.ifCond .eq (-41), 3) := by decide +kernel
theorem dX10_picks_96 : decode cX10_picks 96 = .ok (.iload_n 3, 1) := by decide +kernel
theorem dX10_picks_97 : decode cX10_picks 97 = .ok (.aload_n 0, 1) := by decide +kernel
theorem dX10_picks_98 : decode cX10_picks 98 = .ok (.getfield 74, 3) := by decide +kernel
theorem dX10_picks_101 : decode cX10_picks 101 = .ok (.iconst 1, 1) := by decide +kernel
theorem dX10_picks_102 : decode cX10_picks 102 = .ok (.isub, 1) := by decide +kernel
theorem dX10_picks_103 : decode cX10_picks 103 = .ok (.if_icmp .ne 5, 3) := by decide +kernel
theorem dX10_picks_106 : decode cX10_picks 106 = .ok (.iconst 1, 1) := by decide +kernel
theorem dX10_picks_107 : decode cX10_picks 107 = .ok (.ireturn, 1) := by decide +kernel
theorem dX10_picks_108 : decode cX10_picks 108 = .ok (.iinc 3 1, 3) := by decide +kernel
theorem dX10_picks_111 : decode cX10_picks 111 = .ok (.aload_n 0, 1) := by decide +kernel
theorem dX10_picks_112 : decode cX10_picks 112 = .ok (.getfield 61, 3) := by decide +kernel
theorem dX10_picks_115 : decode cX10_picks 115 = .ok (.iload_n 3, 1) := by decide +kernel
theorem dX10_picks_116 : decode cX10_picks 116 = .ok (.iconst (-1), 1) := by decide +kernel
theorem dX10_picks_117 : decode cX10_picks 117 = .ok (.iastore, 1) := by decide +kernel
theorem dX10_picks_118 : decode cX10_picks 118 = .ok (.goto (-66), 3) := by decide +kernel
theorem dX10_picks_121 : decode cX10_picks 121 = .ok (.iconst 0, 1) := by decide +kernel
theorem dX10_picks_122 : decode cX10_picks 122 = .ok (.ireturn, 1) := by decide +kernel
theorem dX10_all_0 : decode cX10_all 0 = .ok (.iconst 1, 1) := by decide +kernel
theorem dX10_all_1 : decode cX10_all 1 = .ok (.aload_n 0, 1) := by decide +kernel
theorem dX10_all_2 : decode cX10_all 2 = .ok (.getfield 7, 3) := by decide +kernel
theorem dX10_all_5 : decode cX10_all 5 = .ok (.iload_n 1, 1) := by decide +kernel
theorem dX10_all_6 : decode cX10_all 6 = .ok (.iaload, 1) := by decide +kernel
theorem dX10_all_7 : decode cX10_all 7 = .ok (.ishl, 1) := by decide +kernel
theorem dX10_all_8 : decode cX10_all 8 = .ok (.iconst 1, 1) := by decide +kernel
theorem dX10_all_9 : decode cX10_all 9 = .ok (.isub, 1) := by decide +kernel
theorem dX10_all_10 : decode cX10_all 10 = .ok (.ireturn, 1) := by decide +kernel
theorem dX10_allows_0 : decode cX10_allows 0 = .ok (.iconst 0, 1) := by decide +kernel
theorem dX10_allows_1 : decode cX10_allows 1 = .ok (.istore_n 2, 1) := by decide +kernel
theorem dX10_allows_2 : decode cX10_allows 2 = .ok (.iload_n 2, 1) := by decide +kernel
theorem dX10_allows_3 : decode cX10_allows 3 = .ok (.aload_n 0, 1) := by decide +kernel
theorem dX10_allows_4 : decode cX10_allows 4 = .ok (.getfield 74, 3) := by decide +kernel
theorem dX10_allows_7 : decode cX10_allows 7 = .ok (.if_icmp .ge 50, 3) := by decide +kernel
theorem dX10_allows_10 : decode cX10_allows 10 = .ok (.aload_n 0, 1) := by decide +kernel
theorem dX10_allows_11 : decode cX10_allows 11 = .ok (.getfield 58, 3) := by decide +kernel
theorem dX10_allows_14 : decode cX10_allows 14 = .ok (.iload_n 2, 1) := by decide +kernel
theorem dX10_allows_15 : decode cX10_allows 15 = .ok (.aload_n 0, 1) := by decide +kernel
theorem dX10_allows_16 : decode cX10_allows 16 = .ok (.getfield 55, 3) := by decide +kernel
theorem dX10_allows_19 : decode cX10_allows 19 = .ok (.iload_n 2, 1) := by decide +kernel
theorem dX10_allows_20 : decode cX10_allows 20 = .ok (.iaload, 1) := by decide +kernel
theorem dX10_allows_21 : decode cX10_allows 21 = .ok (.iconst (-1), 1) := by decide +kernel
theorem dX10_allows_22 : decode cX10_allows 22 = .ok (.if_icmp .eq 23, 3) := by decide +kernel
theorem dX10_allows_25 : decode cX10_allows 25 = .ok (.iload_n 1, 1) := by decide +kernel
theorem dX10_allows_26 : decode cX10_allows 26 = .ok (.iload_n 2, 1) := by decide +kernel
theorem dX10_allows_27 : decode cX10_allows 27 = .ok (.ishr, 1) := by decide +kernel
theorem dX10_allows_28 : decode cX10_allows 28 = .ok (.iconst 1, 1) := by decide +kernel
theorem dX10_allows_29 : decode cX10_allows 29 = .ok (.iand, 1) := by decide +kernel
theorem dX10_allows_30 : decode cX10_allows 30 = .ok (.iconst 1, 1) := by decide +kernel
theorem dX10_allows_31 : decode cX10_allows 31 = .ok (.if_icmp .ne 14, 3) := by decide +kernel
theorem dX10_allows_34 : decode cX10_allows 34 = .ok (.iconst 1, 1) := by decide +kernel
theorem dX10_allows_35 : decode cX10_allows 35 = .ok (.aload_n 0, 1) := by decide +kernel
theorem dX10_allows_36 : decode cX10_allows 36 = .ok (.getfield 55, 3) := by decide +kernel
theorem dX10_allows_39 : decode cX10_allows 39 = .ok (.iload_n 2, 1) := by decide +kernel
theorem dX10_allows_40 : decode cX10_allows 40 = .ok (.iaload, 1) := by decide +kernel
theorem dX10_allows_41 : decode cX10_allows 41 = .ok (.ishl, 1) := by decide +kernel
theorem dX10_allows_42 : decode cX10_allows 42 = .ok (.goto 8, 3) := by decide +kernel
theorem dX10_allows_45 : decode cX10_allows 45 = .ok (.aload_n 0, 1) := by decide +kernel
theorem dX10_allows_46 : decode cX10_allows 46 = .ok (.iload_n 2, 1) := by decide +kernel
theorem dX10_allows_47 : decode cX10_allows 47 = .ok (.invokevirtual 99, 3) := by decide +kernel
theorem dX10_allows_50 : decode cX10_allows 50 = .ok (.iastore, 1) := by decide +kernel
theorem dX10_allows_51 : decode cX10_allows 51 = .ok (.iinc 2 1, 3) := by decide +kernel
theorem dX10_allows_54 : decode cX10_allows 54 = .ok (.goto (-52), 3) := by decide +kernel
theorem dX10_allows_57 : decode cX10_allows 57 = .ok (.return_, 1) := by decide +kernel
theorem dX10_isPossible_0 : decode cX10_isPossible 0 = .ok (.aload_n 0, 1) := by decide +kernel
theorem dX10_isPossible_1 : decode cX10_isPossible 1 = .ok (.bipush 63, 2) := by decide +kernel
theorem dX10_isPossible_3 : decode cX10_isPossible 3 = .ok (.invokevirtual 103, 3) := by decide +kernel
theorem dX10_isPossible_6 : decode cX10_isPossible 6 = .ok (.aload_n 0, 1) := by decide +kernel
theorem dX10_isPossible_7 : decode cX10_isPossible 7 = .ok (.iload_n 1, 1) := by decide +kernel
theorem dX10_isPossible_8 : decode cX10_isPossible 8 = .ok (.iconst 0, 1) := by decide +kernel
theorem dX10_isPossible_9 : decode cX10_isPossible 9 = .ok (.invokevirtual 107, 3) := by decide +kernel
theorem dX10_isPossible_12 : decode cX10_isPossible 12 = .ok (.ireturn, 1) := by decide +kernel
theorem dX10_isOffered_0 : decode cX10_isOffered 0 = .ok (.aload_n 0, 1) := by decide +kernel
theorem dX10_isOffered_1 : decode cX10_isOffered 1 = .ok (.bipush 63, 2) := by decide +kernel
theorem dX10_isOffered_3 : decode cX10_isOffered 3 = .ok (.invokevirtual 103, 3) := by decide +kernel
theorem dX10_isOffered_6 : decode cX10_isOffered 6 = .ok (.aload_n 0, 1) := by decide +kernel
theorem dX10_isOffered_7 : decode cX10_isOffered 7 = .ok (.getfield 58, 3) := by decide +kernel
theorem dX10_isOffered_10 : decode cX10_isOffered 10 = .ok (.iload_n 1, 1) := by decide +kernel
theorem dX10_isOffered_11 : decode cX10_isOffered 11 = .ok (.dup2, 1) := by decide +kernel
theorem dX10_isOffered_12 : decode cX10_isOffered 12 = .ok (.iaload, 1) := by decide +kernel
theorem dX10_isOffered_13 : decode cX10_isOffered 13 = .ok (.iconst 1, 1) := by decide +kernel
theorem dX10_isOffered_14 : decode cX10_isOffered 14 = .ok (.iload_n 2, 1) := by decide +kernel
theorem dX10_isOffered_15 : decode cX10_isOffered 15 = .ok (.ishl, 1) := by decide +kernel
theorem dX10_isOffered_16 : decode cX10_isOffered 16 = .ok (.iand, 1) := by decide +kernel
theorem dX10_isOffered_17 : decode cX10_isOffered 17 = .ok (.iastore, 1) := by decide +kernel
theorem dX10_isOffered_18 : decode cX10_isOffered 18 = .ok (.aload_n 0, 1) := by decide +kernel
theorem dX10_isOffered_19 : decode cX10_isOffered 19 = .ok (.aload_n 0, 1) := by decide +kernel
theorem dX10_isOffered_20 : decode cX10_isOffered 20 = .ok (.getfield 111, 3) := by decide +kernel
theorem dX10_isOffered_23 : decode cX10_isOffered 23 = .ok (.iconst 0, 1) := by decide +kernel
theorem dX10_isOffered_24 : decode cX10_isOffered 24 = .ok (.invokevirtual 107, 3) := by decide +kernel
theorem dX10_isOffered_27 : decode cX10_isOffered 27 = .ok (.ireturn, 1) := by decide +kernel
theorem dX10_addFeature_0 : decode cX10_addFeature 0 = .ok (.aload_n 0, 1) := by decide +kernel
theorem dX10_addFeature_1 : decode cX10_addFeature 1 = .ok (.iload_n 1, 1) := by decide +kernel
theorem dX10_addFeature_2 : decode cX10_addFeature 2 = .ok (.iconst 2, 1) := by decide +kernel
theorem dX10_addFeature_3 : decode cX10_addFeature 3 = .ok (.iconst 5, 1) := by decide +kernel
theorem dX10_addFeature_4 : decode cX10_addFeature 4 = .ok (.invokestatic 77, 3) := by decide +kernel
theorem dX10_addFeature_7 : decode cX10_addFeature 7 = .ok (.ifCond .ne 7, 3) := by decide +kernel
theorem dX10_addFeature_10 : decode cX10_addFeature 10 = .ok (.iconst 1, 1) := by decide +kernel
theorem dX10_addFeature_11 : decode cX10_addFeature 11 = .ok (.goto 17, 3) := by decide +kernel
theorem dX10_addFeature_14 : decode cX10_addFeature 14 = .ok (.aload_n 0, 1) := by decide +kernel
theorem dX10_addFeature_15 : decode cX10_addFeature 15 = .ok (.getfield 74, 3) := by decide +kernel
theorem dX10_addFeature_18 : decode cX10_addFeature 18 = .ok (.bipush 6, 2) := by decide +kernel
theorem dX10_addFeature_20 : decode cX10_addFeature 20 = .ok (.if_icmp .ne 7, 3) := by decide +kernel
theorem dX10_addFeature_23 : decode cX10_addFeature 23 = .ok (.iconst 2, 1) := by decide +kernel
theorem dX10_addFeature_24 : decode cX10_addFeature 24 = .ok (.goto 4, 3) := by decide +kernel
theorem dX10_addFeature_27 : decode cX10_addFeature 27 = .ok (.iconst 0, 1) := by decide +kernel
theorem dX10_addFeature_28 : decode cX10_addFeature 28 = .ok (.putfield 70, 3) := by decide +kernel
theorem dX10_addFeature_31 : decode cX10_addFeature 31 = .ok (.aload_n 0, 1) := by decide +kernel
theorem dX10_addFeature_32 : decode cX10_addFeature 32 = .ok (.getfield 70, 3) := by decide +kernel
theorem dX10_addFeature_35 : decode cX10_addFeature 35 = .ok (.ifCond .le 5, 3) := by decide +kernel
theorem dX10_addFeature_38 : decode cX10_addFeature 38 = .ok (.iconst 0, 1) := by decide +kernel
theorem dX10_addFeature_39 : decode cX10_addFeature 39 = .ok (.ireturn, 1) := by decide +kernel
theorem dX10_addFeature_40 : decode cX10_addFeature 40 = .ok (.aload_n 0, 1) := by decide +kernel
theorem dX10_addFeature_41 : decode cX10_addFeature 41 = .ok (.getfield 7, 3) := by decide +kernel
theorem dX10_addFeature_44 : decode cX10_addFeature 44 = .ok (.aload_n 0, 1) := by decide +kernel
theorem dX10_addFeature_45 : decode cX10_addFeature 45 = .ok (.getfield 74, 3) := by decide +kernel
theorem dX10_addFeature_48 : decode cX10_addFeature 48 = .ok (.iload_n 1, 1) := by decide +kernel
theorem dX10_addFeature_49 : decode cX10_addFeature 49 = .ok (.iastore, 1) := by decide +kernel
theorem dX10_addFeature_50 : decode cX10_addFeature 50 = .ok (.aload_n 0, 1) := by decide +kernel
theorem dX10_addFeature_51 : decode cX10_addFeature 51 = .ok (.getfield 55, 3) := by decide +kernel
theorem dX10_addFeature_54 : decode cX10_addFeature 54 = .ok (.aload_n 0, 1) := by decide +kernel
theorem dX10_addFeature_55 : decode cX10_addFeature 55 = .ok (.getfield 74, 3) := by decide +kernel
theorem dX10_addFeature_58 : decode cX10_addFeature 58 = .ok (.iconst (-1), 1) := by decide +kernel
theorem dX10_addFeature_59 : decode cX10_addFeature 59 = .ok (.iastore, 1) := by decide +kernel
theorem dX10_addFeature_60 : decode cX10_addFeature 60 = .ok (.aload_n 0, 1) := by decide +kernel
theorem dX10_addFeature_61 : decode cX10_addFeature 61 = .ok (.dup, 1) := by decide +kernel
theorem dX10_addFeature_62 : decode cX10_addFeature 62 = .ok (.getfield 74, 3) := by decide +kernel
theorem dX10_addFeature_65 : decode cX10_addFeature 65 = .ok (.iconst 1, 1) := by decide +kernel
theorem dX10_addFeature_66 : decode cX10_addFeature 66 = .ok (.iadd, 1) := by decide +kernel
theorem dX10_addFeature_67 : decode cX10_addFeature 67 = .ok (.putfield 74, 3) := by decide +kernel
theorem dX10_addFeature_70 : decode cX10_addFeature 70 = .ok (.aload_n 0, 1) := by decide +kernel
theorem dX10_addFeature_71 : decode cX10_addFeature 71 = .ok (.getfield 74, 3) := by decide +kernel
theorem dX10_addFeature_74 : decode cX10_addFeature 74 = .ok (.iconst 1, 1) := by decide +kernel
theorem dX10_addFeature_75 : decode cX10_addFeature 75 = .ok (.isub, 1) := by decide +kernel
theorem dX10_addFeature_76 : decode cX10_addFeature 76 = .ok (.ireturn, 1) := by decide +kernel
theorem dX10_addRule_0 : decode cX10_addRule 0 = .ok (.aload_n 0, 1) := by decide +kernel
theorem dX10_addRule_1 : decode cX10_addRule 1 = .ok (.iload_n 2, 1) := by decide +kernel
theorem dX10_addRule_2 : decode cX10_addRule 2 = .ok (.iload_n 3, 1) := by decide +kernel
theorem dX10_addRule_3 : decode cX10_addRule 3 = .ok (.invokevirtual 114, 3) := by decide +kernel
theorem dX10_addRule_6 : decode cX10_addRule 6 = .ok (.ifCond .eq 18, 3) := by decide +kernel
theorem dX10_addRule_9 : decode cX10_addRule 9 = .ok (.aload_n 0, 1) := by decide +kernel
theorem dX10_addRule_10 : decode cX10_addRule 10 = .ok (.iload 4, 2) := by decide +kernel
theorem dX10_addRule_12 : decode cX10_addRule 12 = .ok (.iload 5, 2) := by decide +kernel
theorem dX10_addRule_14 : decode cX10_addRule 14 = .ok (.invokevirtual 114, 3) := by decide +kernel
theorem dX10_addRule_17 : decode cX10_addRule 17 = .ok (.ifCond .eq 7, 3) := by decide +kernel
theorem dX10_addRule_20 : decode cX10_addRule 20 = .ok (.iconst 1, 1) := by decide +kernel
theorem dX10_addRule_21 : decode cX10_addRule 21 = .ok (.goto 4, 3) := by decide +kernel
theorem dX10_addRule_24 : decode cX10_addRule 24 = .ok (.iconst 0, 1) := by decide +kernel
theorem dX10_addRule_25 : decode cX10_addRule 25 = .ok (.istore 6, 2) := by decide +kernel
theorem dX10_addRule_27 : decode cX10_addRule 27 = .ok (.aload_n 0, 1) := by decide +kernel
theorem dX10_addRule_28 : decode cX10_addRule 28 = .ok (.iload 6, 2) := by decide +kernel
theorem dX10_addRule_30 : decode cX10_addRule 30 = .ok (.ifCond .ne 7, 3) := by decide +kernel
theorem dX10_addRule_33 : decode cX10_addRule 33 = .ok (.iconst 1, 1) := by decide +kernel
theorem dX10_addRule_34 : decode cX10_addRule 34 = .ok (.goto 36, 3) := by decide +kernel
theorem dX10_addRule_37 : decode cX10_addRule 37 = .ok (.iload_n 1, 1) := by decide +kernel
theorem dX10_addRule_38 : decode cX10_addRule 38 = .ok (.iconst 0, 1) := by decide +kernel
theorem dX10_addRule_39 : decode cX10_addRule 39 = .ok (.iconst 2, 1) := by decide +kernel
theorem dX10_addRule_40 : decode cX10_addRule 40 = .ok (.invokestatic 77, 3) := by decide +kernel
theorem dX10_addRule_43 : decode cX10_addRule 43 = .ok (.ifCond .eq 9, 3) := by decide +kernel
theorem dX10_addRule_46 : decode cX10_addRule 46 = .ok (.iload_n 2, 1) := by decide +kernel
theorem dX10_addRule_47 : decode cX10_addRule 47 = .ok (.iload 4, 2) := by decide +kernel
theorem dX10_addRule_49 : decode cX10_addRule 49 = .ok (.if_icmp .ne 7, 3) := by decide +kernel
theorem dX10_addRule_52 : decode cX10_addRule 52 = .ok (.iconst 2, 1) := by decide +kernel
theorem dX10_addRule_53 : decode cX10_addRule 53 = .ok (.goto 17, 3) := by decide +kernel
theorem dX10_addRule_56 : decode cX10_addRule 56 = .ok (.aload_n 0, 1) := by decide +kernel
theorem dX10_addRule_57 : decode cX10_addRule 57 = .ok (.getfield 85, 3) := by decide +kernel
theorem dX10_addRule_60 : decode cX10_addRule 60 = .ok (.bipush 20, 2) := by decide +kernel
theorem dX10_addRule_62 : decode cX10_addRule 62 = .ok (.if_icmp .ne 7, 3) := by decide +kernel
theorem dX10_addRule_65 : decode cX10_addRule 65 = .ok (.iconst 3, 1) := by decide +kernel
theorem dX10_addRule_66 : decode cX10_addRule 66 = .ok (.goto 4, 3) := by decide +kernel
theorem dX10_addRule_69 : decode cX10_addRule 69 = .ok (.iconst 0, 1) := by decide +kernel
theorem dX10_addRule_70 : decode cX10_addRule 70 = .ok (.putfield 70, 3) := by decide +kernel
theorem dX10_addRule_73 : decode cX10_addRule 73 = .ok (.aload_n 0, 1) := by decide +kernel
theorem dX10_addRule_74 : decode cX10_addRule 74 = .ok (.getfield 70, 3) := by decide +kernel
theorem dX10_addRule_77 : decode cX10_addRule 77 = .ok (.ifCond .le 5, 3) := by decide +kernel
theorem dX10_addRule_80 : decode cX10_addRule 80 = .ok (.iconst 0, 1) := by decide +kernel
theorem dX10_addRule_81 : decode cX10_addRule 81 = .ok (.ireturn, 1) := by decide +kernel
theorem dX10_addRule_82 : decode cX10_addRule 82 = .ok (.aload_n 0, 1) := by decide +kernel
theorem dX10_addRule_83 : decode cX10_addRule 83 = .ok (.getfield 13, 3) := by decide +kernel
theorem dX10_addRule_86 : decode cX10_addRule 86 = .ok (.aload_n 0, 1) := by decide +kernel
theorem dX10_addRule_87 : decode cX10_addRule 87 = .ok (.getfield 85, 3) := by decide +kernel
theorem dX10_addRule_90 : decode cX10_addRule 90 = .ok (.iload_n 1, 1) := by decide +kernel
theorem dX10_addRule_91 : decode cX10_addRule 91 = .ok (.iastore, 1) := by decide +kernel
theorem dX10_addRule_92 : decode cX10_addRule 92 = .ok (.aload_n 0, 1) := by decide +kernel
theorem dX10_addRule_93 : decode cX10_addRule 93 = .ok (.getfield 16, 3) := by decide +kernel
theorem dX10_addRule_96 : decode cX10_addRule 96 = .ok (.aload_n 0, 1) := by decide +kernel
theorem dX10_addRule_97 : decode cX10_addRule 97 = .ok (.getfield 85, 3) := by decide +kernel
theorem dX10_addRule_100 : decode cX10_addRule 100 = .ok (.iload_n 2, 1) := by decide +kernel
theorem dX10_addRule_101 : decode cX10_addRule 101 = .ok (.iastore, 1) := by decide +kernel
theorem dX10_addRule_102 : decode cX10_addRule 102 = .ok (.aload_n 0, 1) := by decide +kernel
theorem dX10_addRule_103 : decode cX10_addRule 103 = .ok (.getfield 19, 3) := by decide +kernel
theorem dX10_addRule_106 : decode cX10_addRule 106 = .ok (.aload_n 0, 1) := by decide +kernel
theorem dX10_addRule_107 : decode cX10_addRule 107 = .ok (.getfield 85, 3) := by decide +kernel
theorem dX10_addRule_110 : decode cX10_addRule 110 = .ok (.iload_n 3, 1) := by decide +kernel
theorem dX10_addRule_111 : decode cX10_addRule 111 = .ok (.iastore, 1) := by decide +kernel
theorem dX10_addRule_112 : decode cX10_addRule 112 = .ok (.aload_n 0, 1) := by decide +kernel
theorem dX10_addRule_113 : decode cX10_addRule 113 = .ok (.getfield 22, 3) := by decide +kernel
theorem dX10_addRule_116 : decode cX10_addRule 116 = .ok (.aload_n 0, 1) := by decide +kernel
theorem dX10_addRule_117 : decode cX10_addRule 117 = .ok (.getfield 85, 3) := by decide +kernel
theorem dX10_addRule_120 : decode cX10_addRule 120 = .ok (.iload 4, 2) := by decide +kernel
theorem dX10_addRule_122 : decode cX10_addRule 122 = .ok (.iastore, 1) := by decide +kernel
theorem dX10_addRule_123 : decode cX10_addRule 123 = .ok (.aload_n 0, 1) := by decide +kernel
theorem dX10_addRule_124 : decode cX10_addRule 124 = .ok (.getfield 25, 3) := by decide +kernel
theorem dX10_addRule_127 : decode cX10_addRule 127 = .ok (.aload_n 0, 1) := by decide +kernel
theorem dX10_addRule_128 : decode cX10_addRule 128 = .ok (.getfield 85, 3) := by decide +kernel
theorem dX10_addRule_131 : decode cX10_addRule 131 = .ok (.iload 5, 2) := by decide +kernel
theorem dX10_addRule_133 : decode cX10_addRule 133 = .ok (.iastore, 1) := by decide +kernel
theorem dX10_addRule_134 : decode cX10_addRule 134 = .ok (.aload_n 0, 1) := by decide +kernel
theorem dX10_addRule_135 : decode cX10_addRule 135 = .ok (.dup, 1) := by decide +kernel
theorem dX10_addRule_136 : decode cX10_addRule 136 = .ok (.getfield 85, 3) := by decide +kernel
theorem dX10_addRule_139 : decode cX10_addRule 139 = .ok (.iconst 1, 1) := by decide +kernel
theorem dX10_addRule_140 : decode cX10_addRule 140 = .ok (.iadd, 1) := by decide +kernel
theorem dX10_addRule_141 : decode cX10_addRule 141 = .ok (.putfield 85, 3) := by decide +kernel
theorem dX10_addRule_144 : decode cX10_addRule 144 = .ok (.aload_n 0, 1) := by decide +kernel
theorem dX10_addRule_145 : decode cX10_addRule 145 = .ok (.aload_n 0, 1) := by decide +kernel
theorem dX10_addRule_146 : decode cX10_addRule 146 = .ok (.getfield 111, 3) := by decide +kernel
theorem dX10_addRule_149 : decode cX10_addRule 149 = .ok (.iconst 1, 1) := by decide +kernel
theorem dX10_addRule_150 : decode cX10_addRule 150 = .ok (.aload_n 0, 1) := by decide +kernel
theorem dX10_addRule_151 : decode cX10_addRule 151 = .ok (.getfield 85, 3) := by decide +kernel
theorem dX10_addRule_154 : decode cX10_addRule 154 = .ok (.iconst 1, 1) := by decide +kernel
theorem dX10_addRule_155 : decode cX10_addRule 155 = .ok (.isub, 1) := by decide +kernel
theorem dX10_addRule_156 : decode cX10_addRule 156 = .ok (.ishl, 1) := by decide +kernel
theorem dX10_addRule_157 : decode cX10_addRule 157 = .ok (.ior, 1) := by decide +kernel
theorem dX10_addRule_158 : decode cX10_addRule 158 = .ok (.invokevirtual 117, 3) := by decide +kernel
theorem dX10_addRule_161 : decode cX10_addRule 161 = .ok (.ifCond .ne 20, 3) := by decide +kernel
theorem dX10_addRule_164 : decode cX10_addRule 164 = .ok (.aload_n 0, 1) := by decide +kernel
theorem dX10_addRule_165 : decode cX10_addRule 165 = .ok (.dup, 1) := by decide +kernel
theorem dX10_addRule_166 : decode cX10_addRule 166 = .ok (.getfield 85, 3) := by decide +kernel
theorem dX10_addRule_169 : decode cX10_addRule 169 = .ok (.iconst 1, 1) := by decide +kernel
theorem dX10_addRule_170 : decode cX10_addRule 170 = .ok (.isub, 1) := by decide +kernel
theorem dX10_addRule_171 : decode cX10_addRule 171 = .ok (.putfield 85, 3) := by decide +kernel
theorem dX10_addRule_174 : decode cX10_addRule 174 = .ok (.aload_n 0, 1) := by decide +kernel
theorem dX10_addRule_175 : decode cX10_addRule 175 = .ok (.iconst 3, 1) := by decide +kernel
theorem dX10_addRule_176 : decode cX10_addRule 176 = .ok (.putfield 70, 3) := by decide +kernel
theorem dX10_addRule_179 : decode cX10_addRule 179 = .ok (.iconst 0, 1) := by decide +kernel
theorem dX10_addRule_180 : decode cX10_addRule 180 = .ok (.ireturn, 1) := by decide +kernel
theorem dX10_addRule_181 : decode cX10_addRule 181 = .ok (.aload_n 0, 1) := by decide +kernel
theorem dX10_addRule_182 : decode cX10_addRule 182 = .ok (.dup, 1) := by decide +kernel
theorem dX10_addRule_183 : decode cX10_addRule 183 = .ok (.getfield 111, 3) := by decide +kernel
theorem dX10_addRule_186 : decode cX10_addRule 186 = .ok (.iconst 1, 1) := by decide +kernel
theorem dX10_addRule_187 : decode cX10_addRule 187 = .ok (.aload_n 0, 1) := by decide +kernel
theorem dX10_addRule_188 : decode cX10_addRule 188 = .ok (.getfield 85, 3) := by decide +kernel
theorem dX10_addRule_191 : decode cX10_addRule 191 = .ok (.iconst 1, 1) := by decide +kernel
theorem dX10_addRule_192 : decode cX10_addRule 192 = .ok (.isub, 1) := by decide +kernel
theorem dX10_addRule_193 : decode cX10_addRule 193 = .ok (.ishl, 1) := by decide +kernel
theorem dX10_addRule_194 : decode cX10_addRule 194 = .ok (.ior, 1) := by decide +kernel
theorem dX10_addRule_195 : decode cX10_addRule 195 = .ok (.putfield 111, 3) := by decide +kernel
theorem dX10_addRule_198 : decode cX10_addRule 198 = .ok (.aload_n 0, 1) := by decide +kernel
theorem dX10_addRule_199 : decode cX10_addRule 199 = .ok (.getfield 85, 3) := by decide +kernel
theorem dX10_addRule_202 : decode cX10_addRule 202 = .ok (.iconst 1, 1) := by decide +kernel
theorem dX10_addRule_203 : decode cX10_addRule 203 = .ok (.isub, 1) := by decide +kernel
theorem dX10_addRule_204 : decode cX10_addRule 204 = .ok (.ireturn, 1) := by decide +kernel
theorem dX10_isRule_0 : decode cX10_isRule 0 = .ok (.iload_n 1, 1) := by decide +kernel
theorem dX10_isRule_1 : decode cX10_isRule 1 = .ok (.iconst 0, 1) := by decide +kernel
theorem dX10_isRule_2 : decode cX10_isRule 2 = .ok (.aload_n 0, 1) := by decide +kernel
theorem dX10_isRule_3 : decode cX10_isRule 3 = .ok (.getfield 85, 3) := by decide +kernel
theorem dX10_isRule_6 : decode cX10_isRule 6 = .ok (.iconst 1, 1) := by decide +kernel
theorem dX10_isRule_7 : decode cX10_isRule 7 = .ok (.isub, 1) := by decide +kernel
theorem dX10_isRule_8 : decode cX10_isRule 8 = .ok (.invokestatic 77, 3) := by decide +kernel
theorem dX10_isRule_11 : decode cX10_isRule 11 = .ok (.ireturn, 1) := by decide +kernel
theorem dX10_switchRule_0 : decode cX10_switchRule 0 = .ok (.aload_n 0, 1) := by decide +kernel
theorem dX10_switchRule_1 : decode cX10_switchRule 1 = .ok (.iload_n 1, 1) := by decide +kernel
theorem dX10_switchRule_2 : decode cX10_switchRule 2 = .ok (.invokevirtual 120, 3) := by decide +kernel
theorem dX10_switchRule_5 : decode cX10_switchRule 5 = .ok (.ifCond .ne 10, 3) := by decide +kernel
theorem dX10_switchRule_8 : decode cX10_switchRule 8 = .ok (.aload_n 0, 1) := by decide +kernel
theorem dX10_switchRule_9 : decode cX10_switchRule 9 = .ok (.iconst 1, 1) := by decide +kernel
theorem dX10_switchRule_10 : decode cX10_switchRule 10 = .ok (.putfield 70, 3) := by decide +kernel
theorem dX10_switchRule_13 : decode cX10_switchRule 13 = .ok (.iconst 0, 1) := by decide +kernel
theorem dX10_switchRule_14 : decode cX10_switchRule 14 = .ok (.ireturn, 1) := by decide +kernel
theorem dX10_switchRule_15 : decode cX10_switchRule 15 = .ok (.iload_n 2, 1) := by decide +kernel
theorem dX10_switchRule_16 : decode cX10_switchRule 16 = .ok (.ifCond .eq 14, 3) := by decide +kernel
theorem dX10_switchRule_19 : decode cX10_switchRule 19 = .ok (.aload_n 0, 1) := by decide +kernel
theorem dX10_switchRule_20 : decode cX10_switchRule 20 = .ok (.getfield 111, 3) := by decide +kernel
theorem dX10_switchRule_23 : decode cX10_switchRule 23 = .ok (.iconst 1, 1) := by decide +kernel
theorem dX10_switchRule_24 : decode cX10_switchRule 24 = .ok (.iload_n 1, 1) := by decide +kernel
theorem dX10_switchRule_25 : decode cX10_switchRule 25 = .ok (.ishl, 1) := by decide +kernel
theorem dX10_switchRule_26 : decode cX10_switchRule 26 = .ok (.ior, 1) := by decide +kernel
theorem dX10_switchRule_27 : decode cX10_switchRule 27 = .ok (.goto 13, 3) := by decide +kernel
theorem dX10_switchRule_30 : decode cX10_switchRule 30 = .ok (.aload_n 0, 1) := by decide +kernel
theorem dX10_switchRule_31 : decode cX10_switchRule 31 = .ok (.getfield 111, 3) := by decide +kernel
theorem dX10_switchRule_34 : decode cX10_switchRule 34 = .ok (.iconst 1, 1) := by decide +kernel
theorem dX10_switchRule_35 : decode cX10_switchRule 35 = .ok (.iload_n 1, 1) := by decide +kernel
theorem dX10_switchRule_36 : decode cX10_switchRule 36 = .ok (.ishl, 1) := by decide +kernel
theorem dX10_switchRule_37 : decode cX10_switchRule 37 = .ok (.iconst (-1), 1) := by decide +kernel
theorem dX10_switchRule_38 : decode cX10_switchRule 38 = .ok (.ixor, 1) := by decide +kernel
theorem dX10_switchRule_39 : decode cX10_switchRule 39 = .ok (.iand, 1) := by decide +kernel
theorem dX10_switchRule_40 : decode cX10_switchRule 40 = .ok (.istore_n 3, 1) := by decide +kernel
theorem dX10_switchRule_41 : decode cX10_switchRule 41 = .ok (.aload_n 0, 1) := by decide +kernel
theorem dX10_switchRule_42 : decode cX10_switchRule 42 = .ok (.aload_n 0, 1) := by decide +kernel
theorem dX10_switchRule_43 : decode cX10_switchRule 43 = .ok (.iload_n 3, 1) := by decide +kernel
theorem dX10_switchRule_44 : decode cX10_switchRule 44 = .ok (.invokevirtual 117, 3) := by decide +kernel
theorem dX10_switchRule_47 : decode cX10_switchRule 47 = .ok (.ifCond .eq 7, 3) := by decide +kernel
theorem dX10_switchRule_50 : decode cX10_switchRule 50 = .ok (.iconst 0, 1) := by decide +kernel
theorem dX10_switchRule_51 : decode cX10_switchRule 51 = .ok (.goto 4, 3) := by decide +kernel
theorem dX10_switchRule_54 : decode cX10_switchRule 54 = .ok (.iconst 2, 1) := by decide +kernel
theorem dX10_switchRule_55 : decode cX10_switchRule 55 = .ok (.putfield 70, 3) := by decide +kernel
theorem dX10_switchRule_58 : decode cX10_switchRule 58 = .ok (.aload_n 0, 1) := by decide +kernel
theorem dX10_switchRule_59 : decode cX10_switchRule 59 = .ok (.getfield 70, 3) := by decide +kernel
theorem dX10_switchRule_62 : decode cX10_switchRule 62 = .ok (.ifCond .le 5, 3) := by decide +kernel
theorem dX10_switchRule_65 : decode cX10_switchRule 65 = .ok (.iconst 0, 1) := by decide +kernel
theorem dX10_switchRule_66 : decode cX10_switchRule 66 = .ok (.ireturn, 1) := by decide +kernel
theorem dX10_switchRule_67 : decode cX10_switchRule 67 = .ok (.aload_n 0, 1) := by decide +kernel
theorem dX10_switchRule_68 : decode cX10_switchRule 68 = .ok (.getfield 111, 3) := by decide +kernel
theorem dX10_switchRule_71 : decode cX10_switchRule 71 = .ok (.iload_n 1, 1) := by decide +kernel
theorem dX10_switchRule_72 : decode cX10_switchRule 72 = .ok (.ishr, 1) := by decide +kernel
theorem dX10_switchRule_73 : decode cX10_switchRule 73 = .ok (.iconst 1, 1) := by decide +kernel
theorem dX10_switchRule_74 : decode cX10_switchRule 74 = .ok (.iand, 1) := by decide +kernel
theorem dX10_switchRule_75 : decode cX10_switchRule 75 = .ok (.iconst 1, 1) := by decide +kernel
theorem dX10_switchRule_76 : decode cX10_switchRule 76 = .ok (.if_icmp .ne 7, 3) := by decide +kernel
theorem dX10_switchRule_79 : decode cX10_switchRule 79 = .ok (.iconst 1, 1) := by decide +kernel
theorem dX10_switchRule_80 : decode cX10_switchRule 80 = .ok (.goto 4, 3) := by decide +kernel
theorem dX10_switchRule_83 : decode cX10_switchRule 83 = .ok (.iconst 0, 1) := by decide +kernel
theorem dX10_switchRule_84 : decode cX10_switchRule 84 = .ok (.istore 4, 2) := by decide +kernel
theorem dX10_switchRule_86 : decode cX10_switchRule 86 = .ok (.aload_n 0, 1) := by decide +kernel
theorem dX10_switchRule_87 : decode cX10_switchRule 87 = .ok (.iload_n 3, 1) := by decide +kernel
theorem dX10_switchRule_88 : decode cX10_switchRule 88 = .ok (.putfield 111, 3) := by decide +kernel
theorem dX10_switchRule_91 : decode cX10_switchRule 91 = .ok (.iload 4, 2) := by decide +kernel
theorem dX10_switchRule_93 : decode cX10_switchRule 93 = .ok (.ireturn, 1) := by decide +kernel
theorem dX10_setPrice_0 : decode cX10_setPrice 0 = .ok (.aload_n 0, 1) := by decide +kernel
theorem dX10_setPrice_1 : decode cX10_setPrice 1 = .ok (.aload_n 0, 1) := by decide +kernel
theorem dX10_setPrice_2 : decode cX10_setPrice 2 = .ok (.iload_n 1, 1) := by decide +kernel
theorem dX10_setPrice_3 : decode cX10_setPrice 3 = .ok (.iload_n 2, 1) := by decide +kernel
theorem dX10_setPrice_4 : decode cX10_setPrice 4 = .ok (.invokevirtual 114, 3) := by decide +kernel
theorem dX10_setPrice_7 : decode cX10_setPrice 7 = .ok (.ifCond .ne 7, 3) := by decide +kernel
theorem dX10_setPrice_10 : decode cX10_setPrice 10 = .ok (.iconst 1, 1) := by decide +kernel
theorem dX10_setPrice_11 : decode cX10_setPrice 11 = .ok (.goto 19, 3) := by decide +kernel
theorem dX10_setPrice_14 : decode cX10_setPrice 14 = .ok (.iload_n 3, 1) := by decide +kernel
theorem dX10_setPrice_15 : decode cX10_setPrice 15 = .ok (.iconst 0, 1) := by decide +kernel
theorem dX10_setPrice_16 : decode cX10_setPrice 16 = .ok (.sipush 1000, 3) := by decide +kernel
theorem dX10_setPrice_19 : decode cX10_setPrice 19 = .ok (.invokestatic 77, 3) := by decide +kernel
theorem dX10_setPrice_22 : decode cX10_setPrice 22 = .ok (.ifCond .eq 7, 3) := by decide +kernel
theorem dX10_setPrice_25 : decode cX10_setPrice 25 = .ok (.iconst 0, 1) := by decide +kernel
theorem dX10_setPrice_26 : decode cX10_setPrice 26 = .ok (.goto 4, 3) := by decide +kernel
theorem dX10_setPrice_29 : decode cX10_setPrice 29 = .ok (.iconst 2, 1) := by decide +kernel
theorem dX10_setPrice_30 : decode cX10_setPrice 30 = .ok (.putfield 70, 3) := by decide +kernel
theorem dX10_setPrice_33 : decode cX10_setPrice 33 = .ok (.aload_n 0, 1) := by decide +kernel
theorem dX10_setPrice_34 : decode cX10_setPrice 34 = .ok (.getfield 70, 3) := by decide +kernel
theorem dX10_setPrice_37 : decode cX10_setPrice 37 = .ok (.ifCond .le 5, 3) := by decide +kernel
theorem dX10_setPrice_40 : decode cX10_setPrice 40 = .ok (.iconst 0, 1) := by decide +kernel
theorem dX10_setPrice_41 : decode cX10_setPrice 41 = .ok (.ireturn, 1) := by decide +kernel
theorem dX10_setPrice_42 : decode cX10_setPrice 42 = .ok (.aload_n 0, 1) := by decide +kernel
theorem dX10_setPrice_43 : decode cX10_setPrice 43 = .ok (.getfield 28, 3) := by decide +kernel
theorem dX10_setPrice_46 : decode cX10_setPrice 46 = .ok (.iconst 5, 1) := by decide +kernel
theorem dX10_setPrice_47 : decode cX10_setPrice 47 = .ok (.iload_n 1, 1) := by decide +kernel
theorem dX10_setPrice_48 : decode cX10_setPrice 48 = .ok (.imul, 1) := by decide +kernel
theorem dX10_setPrice_49 : decode cX10_setPrice 49 = .ok (.iload_n 2, 1) := by decide +kernel
theorem dX10_setPrice_50 : decode cX10_setPrice 50 = .ok (.iadd, 1) := by decide +kernel
theorem dX10_setPrice_51 : decode cX10_setPrice 51 = .ok (.iaload, 1) := by decide +kernel
theorem dX10_setPrice_52 : decode cX10_setPrice 52 = .ok (.istore 4, 2) := by decide +kernel
theorem dX10_setPrice_54 : decode cX10_setPrice 54 = .ok (.aload_n 0, 1) := by decide +kernel
theorem dX10_setPrice_55 : decode cX10_setPrice 55 = .ok (.getfield 28, 3) := by decide +kernel
theorem dX10_setPrice_58 : decode cX10_setPrice 58 = .ok (.iconst 5, 1) := by decide +kernel
theorem dX10_setPrice_59 : decode cX10_setPrice 59 = .ok (.iload_n 1, 1) := by decide +kernel
theorem dX10_setPrice_60 : decode cX10_setPrice 60 = .ok (.imul, 1) := by decide +kernel
theorem dX10_setPrice_61 : decode cX10_setPrice 61 = .ok (.iload_n 2, 1) := by decide +kernel
theorem dX10_setPrice_62 : decode cX10_setPrice 62 = .ok (.iadd, 1) := by decide +kernel
theorem dX10_setPrice_63 : decode cX10_setPrice 63 = .ok (.iload_n 3, 1) := by decide +kernel
theorem dX10_setPrice_64 : decode cX10_setPrice 64 = .ok (.iastore, 1) := by decide +kernel
theorem dX10_setPrice_65 : decode cX10_setPrice 65 = .ok (.iload 4, 2) := by decide +kernel
theorem dX10_setPrice_67 : decode cX10_setPrice 67 = .ok (.ireturn, 1) := by decide +kernel
theorem dX10_addSurcharge_0 : decode cX10_addSurcharge 0 = .ok (.aload_n 0, 1) := by decide +kernel
theorem dX10_addSurcharge_1 : decode cX10_addSurcharge 1 = .ok (.iload_n 1, 1) := by decide +kernel
theorem dX10_addSurcharge_2 : decode cX10_addSurcharge 2 = .ok (.iload_n 2, 1) := by decide +kernel
theorem dX10_addSurcharge_3 : decode cX10_addSurcharge 3 = .ok (.invokevirtual 114, 3) := by decide +kernel
theorem dX10_addSurcharge_6 : decode cX10_addSurcharge 6 = .ok (.ifCond .eq 17, 3) := by decide +kernel
theorem dX10_addSurcharge_9 : decode cX10_addSurcharge 9 = .ok (.aload_n 0, 1) := by decide +kernel
theorem dX10_addSurcharge_10 : decode cX10_addSurcharge 10 = .ok (.iload_n 3, 1) := by decide +kernel
theorem dX10_addSurcharge_11 : decode cX10_addSurcharge 11 = .ok (.iload 4, 2) := by decide +kernel
theorem dX10_addSurcharge_13 : decode cX10_addSurcharge 13 = .ok (.invokevirtual 114, 3) := by decide +kernel
theorem dX10_addSurcharge_16 : decode cX10_addSurcharge 16 = .ok (.ifCond .eq 7, 3) := by decide +kernel
theorem dX10_addSurcharge_19 : decode cX10_addSurcharge 19 = .ok (.iconst 1, 1) := by decide +kernel
theorem dX10_addSurcharge_20 : decode cX10_addSurcharge 20 = .ok (.goto 4, 3) := by decide +kernel
theorem dX10_addSurcharge_23 : decode cX10_addSurcharge 23 = .ok (.iconst 0, 1) := by decide +kernel
theorem dX10_addSurcharge_24 : decode cX10_addSurcharge 24 = .ok (.istore 6, 2) := by decide +kernel
theorem dX10_addSurcharge_26 : decode cX10_addSurcharge 26 = .ok (.aload_n 0, 1) := by decide +kernel
theorem dX10_addSurcharge_27 : decode cX10_addSurcharge 27 = .ok (.iload 6, 2) := by decide +kernel
theorem dX10_addSurcharge_29 : decode cX10_addSurcharge 29 = .ok (.ifCond .ne 7, 3) := by decide +kernel
theorem dX10_addSurcharge_32 : decode cX10_addSurcharge 32 = .ok (.iconst 1, 1) := by decide +kernel
theorem dX10_addSurcharge_33 : decode cX10_addSurcharge 33 = .ok (.goto 40, 3) := by decide +kernel
theorem dX10_addSurcharge_36 : decode cX10_addSurcharge 36 = .ok (.iload_n 1, 1) := by decide +kernel
theorem dX10_addSurcharge_37 : decode cX10_addSurcharge 37 = .ok (.iload_n 3, 1) := by decide +kernel
theorem dX10_addSurcharge_38 : decode cX10_addSurcharge 38 = .ok (.if_icmp .eq 17, 3) := by decide +kernel
theorem dX10_addSurcharge_41 : decode cX10_addSurcharge 41 = .ok (.iload 5, 2) := by decide +kernel
theorem dX10_addSurcharge_43 : decode cX10_addSurcharge 43 = .ok (.sipush (-500), 3) := by decide +kernel
theorem dX10_addSurcharge_46 : decode cX10_addSurcharge 46 = .ok (.sipush 500, 3) := by decide +kernel
theorem dX10_addSurcharge_49 : decode cX10_addSurcharge 49 = .ok (.invokestatic 77, 3) := by decide +kernel
theorem dX10_addSurcharge_52 : decode cX10_addSurcharge 52 = .ok (.ifCond .ne 7, 3) := by decide +kernel
theorem dX10_addSurcharge_55 : decode cX10_addSurcharge 55 = .ok (.iconst 2, 1) := by decide +kernel
theorem dX10_addSurcharge_56 : decode cX10_addSurcharge 56 = .ok (.goto 17, 3) := by decide +kernel
theorem dX10_addSurcharge_59 : decode cX10_addSurcharge 59 = .ok (.aload_n 0, 1) := by decide +kernel
theorem dX10_addSurcharge_60 : decode cX10_addSurcharge 60 = .ok (.getfield 123, 3) := by decide +kernel
theorem dX10_addSurcharge_63 : decode cX10_addSurcharge 63 = .ok (.bipush 10, 2) := by decide +kernel
theorem dX10_addSurcharge_65 : decode cX10_addSurcharge 65 = .ok (.if_icmp .ne 7, 3) := by decide +kernel
theorem dX10_addSurcharge_68 : decode cX10_addSurcharge 68 = .ok (.iconst 3, 1) := by decide +kernel
theorem dX10_addSurcharge_69 : decode cX10_addSurcharge 69 = .ok (.goto 4, 3) := by decide +kernel
theorem dX10_addSurcharge_72 : decode cX10_addSurcharge 72 = .ok (.iconst 0, 1) := by decide +kernel
theorem dX10_addSurcharge_73 : decode cX10_addSurcharge 73 = .ok (.putfield 70, 3) := by decide +kernel
theorem dX10_addSurcharge_76 : decode cX10_addSurcharge 76 = .ok (.aload_n 0, 1) := by decide +kernel
theorem dX10_addSurcharge_77 : decode cX10_addSurcharge 77 = .ok (.getfield 70, 3) := by decide +kernel
theorem dX10_addSurcharge_80 : decode cX10_addSurcharge 80 = .ok (.ifCond .le 5, 3) := by decide +kernel
theorem dX10_addSurcharge_83 : decode cX10_addSurcharge 83 = .ok (.iconst 0, 1) := by decide +kernel
theorem dX10_addSurcharge_84 : decode cX10_addSurcharge 84 = .ok (.ireturn, 1) := by decide +kernel
theorem dX10_addSurcharge_85 : decode cX10_addSurcharge 85 = .ok (.aload_n 0, 1) := by decide +kernel
theorem dX10_addSurcharge_86 : decode cX10_addSurcharge 86 = .ok (.getfield 31, 3) := by decide +kernel
theorem dX10_addSurcharge_89 : decode cX10_addSurcharge 89 = .ok (.aload_n 0, 1) := by decide +kernel
theorem dX10_addSurcharge_90 : decode cX10_addSurcharge 90 = .ok (.getfield 123, 3) := by decide +kernel
theorem dX10_addSurcharge_93 : decode cX10_addSurcharge 93 = .ok (.iload_n 1, 1) := by decide +kernel
theorem dX10_addSurcharge_94 : decode cX10_addSurcharge 94 = .ok (.iastore, 1) := by decide +kernel
theorem dX10_addSurcharge_95 : decode cX10_addSurcharge 95 = .ok (.aload_n 0, 1) := by decide +kernel
theorem dX10_addSurcharge_96 : decode cX10_addSurcharge 96 = .ok (.getfield 34, 3) := by decide +kernel
theorem dX10_addSurcharge_99 : decode cX10_addSurcharge 99 = .ok (.aload_n 0, 1) := by decide +kernel
theorem dX10_addSurcharge_100 : decode cX10_addSurcharge 100 = .ok (.getfield 123, 3) := by decide +kernel
theorem dX10_addSurcharge_103 : decode cX10_addSurcharge 103 = .ok (.iload_n 2, 1) := by decide +kernel
theorem dX10_addSurcharge_104 : decode cX10_addSurcharge 104 = .ok (.iastore, 1) := by decide +kernel
theorem dX10_addSurcharge_105 : decode cX10_addSurcharge 105 = .ok (.aload_n 0, 1) := by decide +kernel
theorem dX10_addSurcharge_106 : decode cX10_addSurcharge 106 = .ok (.getfield 37, 3) := by decide +kernel
theorem dX10_addSurcharge_109 : decode cX10_addSurcharge 109 = .ok (.aload_n 0, 1) := by decide +kernel
theorem dX10_addSurcharge_110 : decode cX10_addSurcharge 110 = .ok (.getfield 123, 3) := by decide +kernel
theorem dX10_addSurcharge_113 : decode cX10_addSurcharge 113 = .ok (.iload_n 3, 1) := by decide +kernel
theorem dX10_addSurcharge_114 : decode cX10_addSurcharge 114 = .ok (.iastore, 1) := by decide +kernel
theorem dX10_addSurcharge_115 : decode cX10_addSurcharge 115 = .ok (.aload_n 0, 1) := by decide +kernel
theorem dX10_addSurcharge_116 : decode cX10_addSurcharge 116 = .ok (.getfield 40, 3) := by decide +kernel
theorem dX10_addSurcharge_119 : decode cX10_addSurcharge 119 = .ok (.aload_n 0, 1) := by decide +kernel
theorem dX10_addSurcharge_120 : decode cX10_addSurcharge 120 = .ok (.getfield 123, 3) := by decide +kernel
theorem dX10_addSurcharge_123 : decode cX10_addSurcharge 123 = .ok (.iload 4, 2) := by decide +kernel
theorem dX10_addSurcharge_125 : decode cX10_addSurcharge 125 = .ok (.iastore, 1) := by decide +kernel
theorem dX10_addSurcharge_126 : decode cX10_addSurcharge 126 = .ok (.aload_n 0, 1) := by decide +kernel
theorem dX10_addSurcharge_127 : decode cX10_addSurcharge 127 = .ok (.getfield 43, 3) := by decide +kernel
theorem dX10_addSurcharge_130 : decode cX10_addSurcharge 130 = .ok (.aload_n 0, 1) := by decide +kernel
theorem dX10_addSurcharge_131 : decode cX10_addSurcharge 131 = .ok (.getfield 123, 3) := by decide +kernel
theorem dX10_addSurcharge_134 : decode cX10_addSurcharge 134 = .ok (.iload 5, 2) := by decide +kernel
theorem dX10_addSurcharge_136 : decode cX10_addSurcharge 136 = .ok (.iastore, 1) := by decide +kernel
theorem dX10_addSurcharge_137 : decode cX10_addSurcharge 137 = .ok (.aload_n 0, 1) := by decide +kernel
theorem dX10_addSurcharge_138 : decode cX10_addSurcharge 138 = .ok (.dup, 1) := by decide +kernel
theorem dX10_addSurcharge_139 : decode cX10_addSurcharge 139 = .ok (.getfield 123, 3) := by decide +kernel
theorem dX10_addSurcharge_142 : decode cX10_addSurcharge 142 = .ok (.iconst 1, 1) := by decide +kernel
theorem dX10_addSurcharge_143 : decode cX10_addSurcharge 143 = .ok (.iadd, 1) := by decide +kernel
theorem dX10_addSurcharge_144 : decode cX10_addSurcharge 144 = .ok (.putfield 123, 3) := by decide +kernel
theorem dX10_addSurcharge_147 : decode cX10_addSurcharge 147 = .ok (.aload_n 0, 1) := by decide +kernel
theorem dX10_addSurcharge_148 : decode cX10_addSurcharge 148 = .ok (.getfield 123, 3) := by decide +kernel
theorem dX10_addSurcharge_151 : decode cX10_addSurcharge 151 = .ok (.ireturn, 1) := by decide +kernel
theorem dX10_addDefault_0 : decode cX10_addDefault 0 = .ok (.aload_n 0, 1) := by decide +kernel
theorem dX10_addDefault_1 : decode cX10_addDefault 1 = .ok (.aload_n 0, 1) := by decide +kernel
theorem dX10_addDefault_2 : decode cX10_addDefault 2 = .ok (.iload_n 1, 1) := by decide +kernel
theorem dX10_addDefault_3 : decode cX10_addDefault 3 = .ok (.iload_n 2, 1) := by decide +kernel
theorem dX10_addDefault_4 : decode cX10_addDefault 4 = .ok (.invokevirtual 114, 3) := by decide +kernel
theorem dX10_addDefault_7 : decode cX10_addDefault 7 = .ok (.ifCond .ne 7, 3) := by decide +kernel
theorem dX10_addDefault_10 : decode cX10_addDefault 10 = .ok (.iconst 1, 1) := by decide +kernel
theorem dX10_addDefault_11 : decode cX10_addDefault 11 = .ok (.goto 17, 3) := by decide +kernel
theorem dX10_addDefault_14 : decode cX10_addDefault 14 = .ok (.aload_n 0, 1) := by decide +kernel
theorem dX10_addDefault_15 : decode cX10_addDefault 15 = .ok (.getfield 126, 3) := by decide +kernel
theorem dX10_addDefault_18 : decode cX10_addDefault 18 = .ok (.bipush 12, 2) := by decide +kernel
theorem dX10_addDefault_20 : decode cX10_addDefault 20 = .ok (.if_icmp .ne 7, 3) := by decide +kernel
theorem dX10_addDefault_23 : decode cX10_addDefault 23 = .ok (.iconst 2, 1) := by decide +kernel
theorem dX10_addDefault_24 : decode cX10_addDefault 24 = .ok (.goto 4, 3) := by decide +kernel
theorem dX10_addDefault_27 : decode cX10_addDefault 27 = .ok (.iconst 0, 1) := by decide +kernel
theorem dX10_addDefault_28 : decode cX10_addDefault 28 = .ok (.putfield 70, 3) := by decide +kernel
theorem dX10_addDefault_31 : decode cX10_addDefault 31 = .ok (.aload_n 0, 1) := by decide +kernel
theorem dX10_addDefault_32 : decode cX10_addDefault 32 = .ok (.getfield 70, 3) := by decide +kernel
theorem dX10_addDefault_35 : decode cX10_addDefault 35 = .ok (.ifCond .le 5, 3) := by decide +kernel
theorem dX10_addDefault_38 : decode cX10_addDefault 38 = .ok (.iconst 0, 1) := by decide +kernel
theorem dX10_addDefault_39 : decode cX10_addDefault 39 = .ok (.ireturn, 1) := by decide +kernel
theorem dX10_addDefault_40 : decode cX10_addDefault 40 = .ok (.aload_n 0, 1) := by decide +kernel
theorem dX10_addDefault_41 : decode cX10_addDefault 41 = .ok (.getfield 46, 3) := by decide +kernel
theorem dX10_addDefault_44 : decode cX10_addDefault 44 = .ok (.aload_n 0, 1) := by decide +kernel
theorem dX10_addDefault_45 : decode cX10_addDefault 45 = .ok (.getfield 126, 3) := by decide +kernel
theorem dX10_addDefault_48 : decode cX10_addDefault 48 = .ok (.iload_n 1, 1) := by decide +kernel
theorem dX10_addDefault_49 : decode cX10_addDefault 49 = .ok (.iastore, 1) := by decide +kernel
theorem dX10_addDefault_50 : decode cX10_addDefault 50 = .ok (.aload_n 0, 1) := by decide +kernel
theorem dX10_addDefault_51 : decode cX10_addDefault 51 = .ok (.getfield 49, 3) := by decide +kernel
theorem dX10_addDefault_54 : decode cX10_addDefault 54 = .ok (.aload_n 0, 1) := by decide +kernel
theorem dX10_addDefault_55 : decode cX10_addDefault 55 = .ok (.getfield 126, 3) := by decide +kernel
theorem dX10_addDefault_58 : decode cX10_addDefault 58 = .ok (.iload_n 2, 1) := by decide +kernel
theorem dX10_addDefault_59 : decode cX10_addDefault 59 = .ok (.iastore, 1) := by decide +kernel
theorem dX10_addDefault_60 : decode cX10_addDefault 60 = .ok (.aload_n 0, 1) := by decide +kernel
theorem dX10_addDefault_61 : decode cX10_addDefault 61 = .ok (.dup, 1) := by decide +kernel
theorem dX10_addDefault_62 : decode cX10_addDefault 62 = .ok (.getfield 126, 3) := by decide +kernel
theorem dX10_addDefault_65 : decode cX10_addDefault 65 = .ok (.iconst 1, 1) := by decide +kernel
theorem dX10_addDefault_66 : decode cX10_addDefault 66 = .ok (.iadd, 1) := by decide +kernel
theorem dX10_addDefault_67 : decode cX10_addDefault 67 = .ok (.putfield 126, 3) := by decide +kernel
theorem dX10_addDefault_70 : decode cX10_addDefault 70 = .ok (.aload_n 0, 1) := by decide +kernel
theorem dX10_addDefault_71 : decode cX10_addDefault 71 = .ok (.getfield 126, 3) := by decide +kernel
theorem dX10_addDefault_74 : decode cX10_addDefault 74 = .ok (.ireturn, 1) := by decide +kernel
theorem dX10_dropDefaults_0 : decode cX10_dropDefaults 0 = .ok (.aload_n 0, 1) := by decide +kernel
theorem dX10_dropDefaults_1 : decode cX10_dropDefaults 1 = .ok (.iconst 0, 1) := by decide +kernel
theorem dX10_dropDefaults_2 : decode cX10_dropDefaults 2 = .ok (.putfield 70, 3) := by decide +kernel
theorem dX10_dropDefaults_5 : decode cX10_dropDefaults 5 = .ok (.aload_n 0, 1) := by decide +kernel
theorem dX10_dropDefaults_6 : decode cX10_dropDefaults 6 = .ok (.getfield 126, 3) := by decide +kernel
theorem dX10_dropDefaults_9 : decode cX10_dropDefaults 9 = .ok (.istore_n 1, 1) := by decide +kernel
theorem dX10_dropDefaults_10 : decode cX10_dropDefaults 10 = .ok (.aload_n 0, 1) := by decide +kernel
theorem dX10_dropDefaults_11 : decode cX10_dropDefaults 11 = .ok (.iconst 0, 1) := by decide +kernel
theorem dX10_dropDefaults_12 : decode cX10_dropDefaults 12 = .ok (.putfield 126, 3) := by decide +kernel
theorem dX10_dropDefaults_15 : decode cX10_dropDefaults 15 = .ok (.iload_n 1, 1) := by decide +kernel
theorem dX10_dropDefaults_16 : decode cX10_dropDefaults 16 = .ok (.ireturn, 1) := by decide +kernel
theorem dX10_chooses_0 : decode cX10_chooses 0 = .ok (.aload_n 0, 1) := by decide +kernel
theorem dX10_chooses_1 : decode cX10_chooses 1 = .ok (.getfield 55, 3) := by decide +kernel
theorem dX10_chooses_4 : decode cX10_chooses 4 = .ok (.iload_n 1, 1) := by decide +kernel
theorem dX10_chooses_5 : decode cX10_chooses 5 = .ok (.iload_n 2, 1) := by decide +kernel
theorem dX10_chooses_6 : decode cX10_chooses 6 = .ok (.iastore, 1) := by decide +kernel
theorem dX10_chooses_7 : decode cX10_chooses 7 = .ok (.aload_n 0, 1) := by decide +kernel
theorem dX10_chooses_8 : decode cX10_chooses 8 = .ok (.getfield 52, 3) := by decide +kernel
theorem dX10_chooses_11 : decode cX10_chooses 11 = .ok (.aload_n 0, 1) := by decide +kernel
theorem dX10_chooses_12 : decode cX10_chooses 12 = .ok (.getfield 129, 3) := by decide +kernel
theorem dX10_chooses_15 : decode cX10_chooses 15 = .ok (.iload_n 1, 1) := by decide +kernel
theorem dX10_chooses_16 : decode cX10_chooses 16 = .ok (.iastore, 1) := by decide +kernel
theorem dX10_chooses_17 : decode cX10_chooses 17 = .ok (.aload_n 0, 1) := by decide +kernel
theorem dX10_chooses_18 : decode cX10_chooses 18 = .ok (.dup, 1) := by decide +kernel
theorem dX10_chooses_19 : decode cX10_chooses 19 = .ok (.getfield 129, 3) := by decide +kernel
theorem dX10_chooses_22 : decode cX10_chooses 22 = .ok (.iconst 1, 1) := by decide +kernel
theorem dX10_chooses_23 : decode cX10_chooses 23 = .ok (.iadd, 1) := by decide +kernel
theorem dX10_chooses_24 : decode cX10_chooses 24 = .ok (.putfield 129, 3) := by decide +kernel
theorem dX10_chooses_27 : decode cX10_chooses 27 = .ok (.return_, 1) := by decide +kernel
theorem dX10_takesBack_0 : decode cX10_takesBack 0 = .ok (.iconst 0, 1) := by decide +kernel
theorem dX10_takesBack_1 : decode cX10_takesBack 1 = .ok (.istore_n 2, 1) := by decide +kernel
theorem dX10_takesBack_2 : decode cX10_takesBack 2 = .ok (.iconst 0, 1) := by decide +kernel
theorem dX10_takesBack_3 : decode cX10_takesBack 3 = .ok (.istore_n 3, 1) := by decide +kernel
theorem dX10_takesBack_4 : decode cX10_takesBack 4 = .ok (.iload_n 3, 1) := by decide +kernel
theorem dX10_takesBack_5 : decode cX10_takesBack 5 = .ok (.aload_n 0, 1) := by decide +kernel
theorem dX10_takesBack_6 : decode cX10_takesBack 6 = .ok (.getfield 129, 3) := by decide +kernel
theorem dX10_takesBack_9 : decode cX10_takesBack 9 = .ok (.if_icmp .ge 39, 3) := by decide +kernel
theorem dX10_takesBack_12 : decode cX10_takesBack 12 = .ok (.aload_n 0, 1) := by decide +kernel
theorem dX10_takesBack_13 : decode cX10_takesBack 13 = .ok (.getfield 52, 3) := by decide +kernel
theorem dX10_takesBack_16 : decode cX10_takesBack 16 = .ok (.iload_n 3, 1) := by decide +kernel
theorem dX10_takesBack_17 : decode cX10_takesBack 17 = .ok (.iaload, 1) := by decide +kernel
theorem dX10_takesBack_18 : decode cX10_takesBack 18 = .ok (.istore 4, 2) := by decide +kernel
theorem dX10_takesBack_20 : decode cX10_takesBack 20 = .ok (.aload_n 0, 1) := by decide +kernel
theorem dX10_takesBack_21 : decode cX10_takesBack 21 = .ok (.getfield 52, 3) := by decide +kernel
theorem dX10_takesBack_24 : decode cX10_takesBack 24 = .ok (.iload_n 2, 1) := by decide +kernel
theorem dX10_takesBack_25 : decode cX10_takesBack 25 = .ok (.iload 4, 2) := by decide +kernel
theorem dX10_takesBack_27 : decode cX10_takesBack 27 = .ok (.iastore, 1) := by decide +kernel
theorem dX10_takesBack_28 : decode cX10_takesBack 28 = .ok (.iload_n 2, 1) := by decide +kernel
theorem dX10_takesBack_29 : decode cX10_takesBack 29 = .ok (.iload 4, 2) := by decide +kernel
theorem dX10_takesBack_31 : decode cX10_takesBack 31 = .ok (.iload_n 1, 1) := by decide +kernel
theorem dX10_takesBack_32 : decode cX10_takesBack 32 = .ok (.if_icmp .ne 7, 3) := by decide +kernel
theorem dX10_takesBack_35 : decode cX10_takesBack 35 = .ok (.iconst 0, 1) := by decide +kernel
theorem dX10_takesBack_36 : decode cX10_takesBack 36 = .ok (.goto 4, 3) := by decide +kernel
theorem dX10_takesBack_39 : decode cX10_takesBack 39 = .ok (.iconst 1, 1) := by decide +kernel
theorem dX10_takesBack_40 : decode cX10_takesBack 40 = .ok (.iadd, 1) := by decide +kernel
theorem dX10_takesBack_41 : decode cX10_takesBack 41 = .ok (.istore_n 2, 1) := by decide +kernel
theorem dX10_takesBack_42 : decode cX10_takesBack 42 = .ok (.iinc 3 1, 3) := by decide +kernel
theorem dX10_takesBack_45 : decode cX10_takesBack 45 = .ok (.goto (-41), 3) := by decide +kernel
theorem dX10_takesBack_48 : decode cX10_takesBack 48 = .ok (.aload_n 0, 1) := by decide +kernel
theorem dX10_takesBack_49 : decode cX10_takesBack 49 = .ok (.iload_n 2, 1) := by decide +kernel
theorem dX10_takesBack_50 : decode cX10_takesBack 50 = .ok (.putfield 129, 3) := by decide +kernel
theorem dX10_takesBack_53 : decode cX10_takesBack 53 = .ok (.aload_n 0, 1) := by decide +kernel
theorem dX10_takesBack_54 : decode cX10_takesBack 54 = .ok (.getfield 55, 3) := by decide +kernel
theorem dX10_takesBack_57 : decode cX10_takesBack 57 = .ok (.iload_n 1, 1) := by decide +kernel
theorem dX10_takesBack_58 : decode cX10_takesBack 58 = .ok (.iconst (-1), 1) := by decide +kernel
theorem dX10_takesBack_59 : decode cX10_takesBack 59 = .ok (.iastore, 1) := by decide +kernel
theorem dX10_takesBack_60 : decode cX10_takesBack 60 = .ok (.return_, 1) := by decide +kernel
theorem dX10_choose_0 : decode cX10_choose 0 = .ok (.aload_n 0, 1) := by decide +kernel
theorem dX10_choose_1 : decode cX10_choose 1 = .ok (.aload_n 0, 1) := by decide +kernel
theorem dX10_choose_2 : decode cX10_choose 2 = .ok (.iload_n 1, 1) := by decide +kernel
theorem dX10_choose_3 : decode cX10_choose 3 = .ok (.iload_n 2, 1) := by decide +kernel
theorem dX10_choose_4 : decode cX10_choose 4 = .ok (.invokevirtual 114, 3) := by decide +kernel
theorem dX10_choose_7 : decode cX10_choose 7 = .ok (.ifCond .ne 7, 3) := by decide +kernel
theorem dX10_choose_10 : decode cX10_choose 10 = .ok (.iconst 1, 1) := by decide +kernel
theorem dX10_choose_11 : decode cX10_choose 11 = .ok (.goto 27, 3) := by decide +kernel
theorem dX10_choose_14 : decode cX10_choose 14 = .ok (.aload_n 0, 1) := by decide +kernel
theorem dX10_choose_15 : decode cX10_choose 15 = .ok (.getfield 55, 3) := by decide +kernel
theorem dX10_choose_18 : decode cX10_choose 18 = .ok (.iload_n 1, 1) := by decide +kernel
theorem dX10_choose_19 : decode cX10_choose 19 = .ok (.iaload, 1) := by decide +kernel
theorem dX10_choose_20 : decode cX10_choose 20 = .ok (.iconst (-1), 1) := by decide +kernel
theorem dX10_choose_21 : decode cX10_choose 21 = .ok (.if_icmp .ne 12, 3) := by decide +kernel
theorem dX10_choose_24 : decode cX10_choose 24 = .ok (.aload_n 0, 1) := by decide +kernel
theorem dX10_choose_25 : decode cX10_choose 25 = .ok (.iload_n 1, 1) := by decide +kernel
theorem dX10_choose_26 : decode cX10_choose 26 = .ok (.iload_n 2, 1) := by decide +kernel
theorem dX10_choose_27 : decode cX10_choose 27 = .ok (.invokevirtual 132, 3) := by decide +kernel
theorem dX10_choose_30 : decode cX10_choose 30 = .ok (.ifCond .ne 7, 3) := by decide +kernel
theorem dX10_choose_33 : decode cX10_choose 33 = .ok (.iconst 2, 1) := by decide +kernel
theorem dX10_choose_34 : decode cX10_choose 34 = .ok (.goto 4, 3) := by decide +kernel
theorem dX10_choose_37 : decode cX10_choose 37 = .ok (.iconst 0, 1) := by decide +kernel
theorem dX10_choose_38 : decode cX10_choose 38 = .ok (.putfield 70, 3) := by decide +kernel
theorem dX10_choose_41 : decode cX10_choose 41 = .ok (.aload_n 0, 1) := by decide +kernel
theorem dX10_choose_42 : decode cX10_choose 42 = .ok (.getfield 70, 3) := by decide +kernel
theorem dX10_choose_45 : decode cX10_choose 45 = .ok (.ifCond .le 5, 3) := by decide +kernel
theorem dX10_choose_48 : decode cX10_choose 48 = .ok (.iconst 0, 1) := by decide +kernel
theorem dX10_choose_49 : decode cX10_choose 49 = .ok (.ireturn, 1) := by decide +kernel
theorem dX10_choose_50 : decode cX10_choose 50 = .ok (.aload_n 0, 1) := by decide +kernel
theorem dX10_choose_51 : decode cX10_choose 51 = .ok (.iload_n 1, 1) := by decide +kernel
theorem dX10_choose_52 : decode cX10_choose 52 = .ok (.iload_n 2, 1) := by decide +kernel
theorem dX10_choose_53 : decode cX10_choose 53 = .ok (.invokevirtual 135, 3) := by decide +kernel
theorem dX10_choose_56 : decode cX10_choose 56 = .ok (.aload_n 0, 1) := by decide +kernel
theorem dX10_choose_57 : decode cX10_choose 57 = .ok (.getfield 129, 3) := by decide +kernel
theorem dX10_choose_60 : decode cX10_choose 60 = .ok (.ireturn, 1) := by decide +kernel
theorem dX10_withdraw_0 : decode cX10_withdraw 0 = .ok (.aload_n 0, 1) := by decide +kernel
theorem dX10_withdraw_1 : decode cX10_withdraw 1 = .ok (.aload_n 0, 1) := by decide +kernel
theorem dX10_withdraw_2 : decode cX10_withdraw 2 = .ok (.iload_n 1, 1) := by decide +kernel
theorem dX10_withdraw_3 : decode cX10_withdraw 3 = .ok (.invokevirtual 81, 3) := by decide +kernel
theorem dX10_withdraw_6 : decode cX10_withdraw 6 = .ok (.ifCond .ne 7, 3) := by decide +kernel
theorem dX10_withdraw_9 : decode cX10_withdraw 9 = .ok (.iconst 1, 1) := by decide +kernel
theorem dX10_withdraw_10 : decode cX10_withdraw 10 = .ok (.goto 18, 3) := by decide +kernel
theorem dX10_withdraw_13 : decode cX10_withdraw 13 = .ok (.aload_n 0, 1) := by decide +kernel
theorem dX10_withdraw_14 : decode cX10_withdraw 14 = .ok (.getfield 55, 3) := by decide +kernel
theorem dX10_withdraw_17 : decode cX10_withdraw 17 = .ok (.iload_n 1, 1) := by decide +kernel
theorem dX10_withdraw_18 : decode cX10_withdraw 18 = .ok (.iaload, 1) := by decide +kernel
theorem dX10_withdraw_19 : decode cX10_withdraw 19 = .ok (.iconst (-1), 1) := by decide +kernel
theorem dX10_withdraw_20 : decode cX10_withdraw 20 = .ok (.if_icmp .ne 7, 3) := by decide +kernel
theorem dX10_withdraw_23 : decode cX10_withdraw 23 = .ok (.iconst 2, 1) := by decide +kernel
theorem dX10_withdraw_24 : decode cX10_withdraw 24 = .ok (.goto 4, 3) := by decide +kernel
theorem dX10_withdraw_27 : decode cX10_withdraw 27 = .ok (.iconst 0, 1) := by decide +kernel
theorem dX10_withdraw_28 : decode cX10_withdraw 28 = .ok (.putfield 70, 3) := by decide +kernel
theorem dX10_withdraw_31 : decode cX10_withdraw 31 = .ok (.aload_n 0, 1) := by decide +kernel
theorem dX10_withdraw_32 : decode cX10_withdraw 32 = .ok (.getfield 70, 3) := by decide +kernel
theorem dX10_withdraw_35 : decode cX10_withdraw 35 = .ok (.ifCond .le 5, 3) := by decide +kernel
theorem dX10_withdraw_38 : decode cX10_withdraw 38 = .ok (.iconst 0, 1) := by decide +kernel
theorem dX10_withdraw_39 : decode cX10_withdraw 39 = .ok (.ireturn, 1) := by decide +kernel
theorem dX10_withdraw_40 : decode cX10_withdraw 40 = .ok (.aload_n 0, 1) := by decide +kernel
theorem dX10_withdraw_41 : decode cX10_withdraw 41 = .ok (.getfield 55, 3) := by decide +kernel
theorem dX10_withdraw_44 : decode cX10_withdraw 44 = .ok (.iload_n 1, 1) := by decide +kernel
theorem dX10_withdraw_45 : decode cX10_withdraw 45 = .ok (.iaload, 1) := by decide +kernel
theorem dX10_withdraw_46 : decode cX10_withdraw 46 = .ok (.istore_n 2, 1) := by decide +kernel
theorem dX10_withdraw_47 : decode cX10_withdraw 47 = .ok (.aload_n 0, 1) := by decide +kernel
theorem dX10_withdraw_48 : decode cX10_withdraw 48 = .ok (.iload_n 1, 1) := by decide +kernel
theorem dX10_withdraw_49 : decode cX10_withdraw 49 = .ok (.invokevirtual 139, 3) := by decide +kernel
theorem dX10_withdraw_52 : decode cX10_withdraw 52 = .ok (.iload_n 2, 1) := by decide +kernel
theorem dX10_withdraw_53 : decode cX10_withdraw 53 = .ok (.ireturn, 1) := by decide +kernel
theorem dX10_has_0 : decode cX10_has 0 = .ok (.aload_n 0, 1) := by decide +kernel
theorem dX10_has_1 : decode cX10_has 1 = .ok (.iload 4, 2) := by decide +kernel
theorem dX10_has_3 : decode cX10_has 3 = .ok (.iconst 1, 1) := by decide +kernel
theorem dX10_has_4 : decode cX10_has 4 = .ok (.iload_n 2, 1) := by decide +kernel
theorem dX10_has_5 : decode cX10_has 5 = .ok (.ishl, 1) := by decide +kernel
theorem dX10_has_6 : decode cX10_has 6 = .ok (.iconst (-1), 1) := by decide +kernel
theorem dX10_has_7 : decode cX10_has 7 = .ok (.ixor, 1) := by decide +kernel
theorem dX10_has_8 : decode cX10_has 8 = .ok (.iand, 1) := by decide +kernel
theorem dX10_has_9 : decode cX10_has 9 = .ok (.invokevirtual 103, 3) := by decide +kernel
theorem dX10_has_12 : decode cX10_has 12 = .ok (.aload_n 0, 1) := by decide +kernel
theorem dX10_has_13 : decode cX10_has 13 = .ok (.getfield 58, 3) := by decide +kernel
theorem dX10_has_16 : decode cX10_has 16 = .ok (.iload_n 2, 1) := by decide +kernel
theorem dX10_has_17 : decode cX10_has 17 = .ok (.iconst 1, 1) := by decide +kernel
theorem dX10_has_18 : decode cX10_has 18 = .ok (.iload_n 3, 1) := by decide +kernel
theorem dX10_has_19 : decode cX10_has 19 = .ok (.ishl, 1) := by decide +kernel
theorem dX10_has_20 : decode cX10_has 20 = .ok (.iastore, 1) := by decide +kernel
theorem dX10_has_21 : decode cX10_has 21 = .ok (.aload_n 0, 1) := by decide +kernel
theorem dX10_has_22 : decode cX10_has 22 = .ok (.iload_n 1, 1) := by decide +kernel
theorem dX10_has_23 : decode cX10_has 23 = .ok (.iconst 0, 1) := by decide +kernel
theorem dX10_has_24 : decode cX10_has 24 = .ok (.invokevirtual 107, 3) := by decide +kernel
theorem dX10_has_27 : decode cX10_has 27 = .ok (.ireturn, 1) := by decide +kernel
theorem dX10_explains_0 : decode cX10_explains 0 = .ok (.aload_n 0, 1) := by decide +kernel
theorem dX10_explains_1 : decode cX10_explains 1 = .ok (.aload_n 0, 1) := by decide +kernel
theorem dX10_explains_2 : decode cX10_explains 2 = .ok (.getfield 111, 3) := by decide +kernel
theorem dX10_explains_5 : decode cX10_explains 5 = .ok (.putfield 142, 3) := by decide +kernel
theorem dX10_explains_8 : decode cX10_explains 8 = .ok (.aload_n 0, 1) := by decide +kernel
theorem dX10_explains_9 : decode cX10_explains 9 = .ok (.iconst 0, 1) := by decide +kernel
theorem dX10_explains_10 : decode cX10_explains 10 = .ok (.putfield 145, 3) := by decide +kernel
theorem dX10_explains_13 : decode cX10_explains 13 = .ok (.iconst 0, 1) := by decide +kernel
theorem dX10_explains_14 : decode cX10_explains 14 = .ok (.istore_n 3, 1) := by decide +kernel
theorem dX10_explains_15 : decode cX10_explains 15 = .ok (.iload_n 3, 1) := by decide +kernel
theorem dX10_explains_16 : decode cX10_explains 16 = .ok (.aload_n 0, 1) := by decide +kernel
theorem dX10_explains_17 : decode cX10_explains 17 = .ok (.getfield 129, 3) := by decide +kernel
theorem dX10_explains_20 : decode cX10_explains 20 = .ok (.if_icmp .ge 40, 3) := by decide +kernel
theorem dX10_explains_23 : decode cX10_explains 23 = .ok (.aload_n 0, 1) := by decide +kernel
theorem dX10_explains_24 : decode cX10_explains 24 = .ok (.dup, 1) := by decide +kernel
theorem dX10_explains_25 : decode cX10_explains 25 = .ok (.getfield 145, 3) := by decide +kernel
theorem dX10_explains_28 : decode cX10_explains 28 = .ok (.aload_n 0, 1) := by decide +kernel
theorem dX10_explains_29 : decode cX10_explains 29 = .ok (.getfield 52, 3) := by decide +kernel
theorem dX10_explains_32 : decode cX10_explains 32 = .ok (.iload_n 3, 1) := by decide +kernel
theorem dX10_explains_33 : decode cX10_explains 33 = .ok (.iaload, 1) := by decide +kernel
theorem dX10_explains_34 : decode cX10_explains 34 = .ok (.iload_n 1, 1) := by decide +kernel
theorem dX10_explains_35 : decode cX10_explains 35 = .ok (.if_icmp .ne 7, 3) := by decide +kernel
theorem dX10_explains_38 : decode cX10_explains 38 = .ok (.iconst 0, 1) := by decide +kernel
theorem dX10_explains_39 : decode cX10_explains 39 = .ok (.goto 11, 3) := by decide +kernel
theorem dX10_explains_42 : decode cX10_explains 42 = .ok (.iconst 1, 1) := by decide +kernel
theorem dX10_explains_43 : decode cX10_explains 43 = .ok (.aload_n 0, 1) := by decide +kernel
theorem dX10_explains_44 : decode cX10_explains 44 = .ok (.getfield 52, 3) := by decide +kernel
theorem dX10_explains_47 : decode cX10_explains 47 = .ok (.iload_n 3, 1) := by decide +kernel
theorem dX10_explains_48 : decode cX10_explains 48 = .ok (.iaload, 1) := by decide +kernel
theorem dX10_explains_49 : decode cX10_explains 49 = .ok (.ishl, 1) := by decide +kernel
theorem dX10_explains_50 : decode cX10_explains 50 = .ok (.ior, 1) := by decide +kernel
theorem dX10_explains_51 : decode cX10_explains 51 = .ok (.putfield 145, 3) := by decide +kernel
theorem dX10_explains_54 : decode cX10_explains 54 = .ok (.iinc 3 1, 3) := by decide +kernel
theorem dX10_explains_57 : decode cX10_explains 57 = .ok (.goto (-42), 3) := by decide +kernel
theorem dX10_explains_60 : decode cX10_explains 60 = .ok (.aload_n 0, 1) := by decide +kernel
theorem dX10_explains_61 : decode cX10_explains 61 = .ok (.aload_n 0, 1) := by decide +kernel
theorem dX10_explains_62 : decode cX10_explains 62 = .ok (.getfield 142, 3) := by decide +kernel
theorem dX10_explains_65 : decode cX10_explains 65 = .ok (.iload_n 1, 1) := by decide +kernel
theorem dX10_explains_66 : decode cX10_explains 66 = .ok (.iload_n 2, 1) := by decide +kernel
theorem dX10_explains_67 : decode cX10_explains 67 = .ok (.aload_n 0, 1) := by decide +kernel
theorem dX10_explains_68 : decode cX10_explains 68 = .ok (.getfield 145, 3) := by decide +kernel
theorem dX10_explains_71 : decode cX10_explains 71 = .ok (.invokevirtual 148, 3) := by decide +kernel
theorem dX10_explains_74 : decode cX10_explains 74 = .ok (.ifCond .eq 5, 3) := by decide +kernel
theorem dX10_explains_77 : decode cX10_explains 77 = .ok (.iconst 0, 1) := by decide +kernel
theorem dX10_explains_78 : decode cX10_explains 78 = .ok (.ireturn, 1) := by decide +kernel
theorem dX10_explains_79 : decode cX10_explains 79 = .ok (.aload_n 0, 1) := by decide +kernel
theorem dX10_explains_80 : decode cX10_explains 80 = .ok (.getfield 85, 3) := by decide +kernel
theorem dX10_explains_83 : decode cX10_explains 83 = .ok (.iconst 1, 1) := by decide +kernel
theorem dX10_explains_84 : decode cX10_explains 84 = .ok (.isub, 1) := by decide +kernel
theorem dX10_explains_85 : decode cX10_explains 85 = .ok (.istore_n 3, 1) := by decide +kernel
theorem dX10_explains_86 : decode cX10_explains 86 = .ok (.iload_n 3, 1) := by decide +kernel
theorem dX10_explains_87 : decode cX10_explains 87 = .ok (.ifCond .lt 58, 3) := by decide +kernel
theorem dX10_explains_90 : decode cX10_explains 90 = .ok (.aload_n 0, 1) := by decide +kernel
theorem dX10_explains_91 : decode cX10_explains 91 = .ok (.getfield 142, 3) := by decide +kernel
theorem dX10_explains_94 : decode cX10_explains 94 = .ok (.iload_n 3, 1) := by decide +kernel
theorem dX10_explains_95 : decode cX10_explains 95 = .ok (.ishr, 1) := by decide +kernel
theorem dX10_explains_96 : decode cX10_explains 96 = .ok (.iconst 1, 1) := by decide +kernel
theorem dX10_explains_97 : decode cX10_explains 97 = .ok (.iand, 1) := by decide +kernel
theorem dX10_explains_98 : decode cX10_explains 98 = .ok (.iconst 1, 1) := by decide +kernel
theorem dX10_explains_99 : decode cX10_explains 99 = .ok (.if_icmp .ne 40, 3) := by decide +kernel
theorem dX10_explains_102 : decode cX10_explains 102 = .ok (.aload_n 0, 1) := by decide +kernel
theorem dX10_explains_103 : decode cX10_explains 103 = .ok (.aload_n 0, 1) := by decide +kernel
theorem dX10_explains_104 : decode cX10_explains 104 = .ok (.getfield 142, 3) := by decide +kernel
theorem dX10_explains_107 : decode cX10_explains 107 = .ok (.iconst 1, 1) := by decide +kernel
theorem dX10_explains_108 : decode cX10_explains 108 = .ok (.iload_n 3, 1) := by decide +kernel
theorem dX10_explains_109 : decode cX10_explains 109 = .ok (.ishl, 1) := by decide +kernel
theorem dX10_explains_110 : decode cX10_explains 110 = .ok (.iconst (-1), 1) := by decide +kernel
theorem dX10_explains_111 : decode cX10_explains 111 = .ok (.ixor, 1) := by decide +kernel
theorem dX10_explains_112 : decode cX10_explains 112 = .ok (.iand, 1) := by decide +kernel
theorem dX10_explains_113 : decode cX10_explains 113 = .ok (.iload_n 1, 1) := by decide +kernel
theorem dX10_explains_114 : decode cX10_explains 114 = .ok (.iload_n 2, 1) := by decide +kernel
theorem dX10_explains_115 : decode cX10_explains 115 = .ok (.aload_n 0, 1) := by decide +kernel
theorem dX10_explains_116 : decode cX10_explains 116 = .ok (.getfield 145, 3) := by decide +kernel
theorem dX10_explains_119 : decode cX10_explains 119 = .ok (.invokevirtual 148, 3) := by decide +kernel
theorem dX10_explains_122 : decode cX10_explains 122 = .ok (.ifCond .ne 17, 3) := by decide +kernel
theorem dX10_explains_125 : decode cX10_explains 125 = .ok (.aload_n 0, 1) := by decide +kernel
theorem dX10_explains_126 : decode cX10_explains 126 = .ok (.dup, 1) := by decide +kernel
theorem dX10_explains_127 : decode cX10_explains 127 = .ok (.getfield 142, 3) := by decide +kernel
theorem dX10_explains_130 : decode cX10_explains 130 = .ok (.iconst 1, 1) := by decide +kernel
theorem dX10_explains_131 : decode cX10_explains 131 = .ok (.iload_n 3, 1) := by decide +kernel
theorem dX10_explains_132 : decode cX10_explains 132 = .ok (.ishl, 1) := by decide +kernel
theorem dX10_explains_133 : decode cX10_explains 133 = .ok (.iconst (-1), 1) := by decide +kernel
theorem dX10_explains_134 : decode cX10_explains 134 = .ok (.ixor, 1) := by decide +kernel
theorem dX10_explains_135 : decode cX10_explains 135 = .ok (.iand, 1) := by decide +kernel
theorem dX10_explains_136 : decode cX10_explains 136 = .ok (.putfield 142, 3) := by decide +kernel
theorem dX10_explains_139 : decode cX10_explains 139 = .ok (.iinc 3 (-1), 3) := by decide +kernel
theorem dX10_explains_142 : decode cX10_explains 142 = .ok (.goto (-56), 3) := by decide +kernel
theorem dX10_explains_145 : decode cX10_explains 145 = .ok (.aload_n 0, 1) := by decide +kernel
theorem dX10_explains_146 : decode cX10_explains 146 = .ok (.getfield 129, 3) := by decide +kernel
theorem dX10_explains_149 : decode cX10_explains 149 = .ok (.iconst 1, 1) := by decide +kernel
theorem dX10_explains_150 : decode cX10_explains 150 = .ok (.isub, 1) := by decide +kernel
theorem dX10_explains_151 : decode cX10_explains 151 = .ok (.istore_n 3, 1) := by decide +kernel
theorem dX10_explains_152 : decode cX10_explains 152 = .ok (.iload_n 3, 1) := by decide +kernel
theorem dX10_explains_153 : decode cX10_explains 153 = .ok (.ifCond .lt 47, 3) := by decide +kernel
theorem dX10_explains_156 : decode cX10_explains 156 = .ok (.aload_n 0, 1) := by decide +kernel
theorem dX10_explains_157 : decode cX10_explains 157 = .ok (.getfield 145, 3) := by decide +kernel
theorem dX10_explains_160 : decode cX10_explains 160 = .ok (.iconst 1, 1) := by decide +kernel
theorem dX10_explains_161 : decode cX10_explains 161 = .ok (.aload_n 0, 1) := by decide +kernel
theorem dX10_explains_162 : decode cX10_explains 162 = .ok (.getfield 52, 3) := by decide +kernel
theorem dX10_explains_165 : decode cX10_explains 165 = .ok (.iload_n 3, 1) := by decide +kernel
theorem dX10_explains_166 : decode cX10_explains 166 = .ok (.iaload, 1) := by decide +kernel
theorem dX10_explains_167 : decode cX10_explains 167 = .ok (.ishl, 1) := by decide +kernel
theorem dX10_explains_168 : decode cX10_explains 168 = .ok (.iconst (-1), 1) := by decide +kernel
theorem dX10_explains_169 : decode cX10_explains 169 = .ok (.ixor, 1) := by decide +kernel
theorem dX10_explains_170 : decode cX10_explains 170 = .ok (.iand, 1) := by decide +kernel
theorem dX10_explains_171 : decode cX10_explains 171 = .ok (.istore 4, 2) := by decide +kernel
theorem dX10_explains_173 : decode cX10_explains 173 = .ok (.aload_n 0, 1) := by decide +kernel
theorem dX10_explains_174 : decode cX10_explains 174 = .ok (.aload_n 0, 1) := by decide +kernel
theorem dX10_explains_175 : decode cX10_explains 175 = .ok (.getfield 142, 3) := by decide +kernel
theorem dX10_explains_178 : decode cX10_explains 178 = .ok (.iload_n 1, 1) := by decide +kernel
theorem dX10_explains_179 : decode cX10_explains 179 = .ok (.iload_n 2, 1) := by decide +kernel
theorem dX10_explains_180 : decode cX10_explains 180 = .ok (.iload 4, 2) := by decide +kernel
theorem dX10_explains_182 : decode cX10_explains 182 = .ok (.invokevirtual 148, 3) := by decide +kernel
theorem dX10_explains_185 : decode cX10_explains 185 = .ok (.ifCond .ne 9, 3) := by decide +kernel
theorem dX10_explains_188 : decode cX10_explains 188 = .ok (.aload_n 0, 1) := by decide +kernel
theorem dX10_explains_189 : decode cX10_explains 189 = .ok (.iload 4, 2) := by decide +kernel
theorem dX10_explains_191 : decode cX10_explains 191 = .ok (.putfield 145, 3) := by decide +kernel
theorem dX10_explains_194 : decode cX10_explains 194 = .ok (.iinc 3 (-1), 3) := by decide +kernel
theorem dX10_explains_197 : decode cX10_explains 197 = .ok (.goto (-45), 3) := by decide +kernel
theorem dX10_explains_200 : decode cX10_explains 200 = .ok (.iconst 1, 1) := by decide +kernel
theorem dX10_explains_201 : decode cX10_explains 201 = .ok (.ireturn, 1) := by decide +kernel
theorem dX10_latest_0 : decode cX10_latest 0 = .ok (.iconst (-1), 1) := by decide +kernel
theorem dX10_latest_1 : decode cX10_latest 1 = .ok (.istore_n 2, 1) := by decide +kernel
theorem dX10_latest_2 : decode cX10_latest 2 = .ok (.iconst 0, 1) := by decide +kernel
theorem dX10_latest_3 : decode cX10_latest 3 = .ok (.istore_n 3, 1) := by decide +kernel
theorem dX10_latest_4 : decode cX10_latest 4 = .ok (.iload_n 3, 1) := by decide +kernel
theorem dX10_latest_5 : decode cX10_latest 5 = .ok (.aload_n 0, 1) := by decide +kernel
theorem dX10_latest_6 : decode cX10_latest 6 = .ok (.getfield 129, 3) := by decide +kernel
theorem dX10_latest_9 : decode cX10_latest 9 = .ok (.if_icmp .ge 34, 3) := by decide +kernel
theorem dX10_latest_12 : decode cX10_latest 12 = .ok (.iload_n 1, 1) := by decide +kernel
theorem dX10_latest_13 : decode cX10_latest 13 = .ok (.aload_n 0, 1) := by decide +kernel
theorem dX10_latest_14 : decode cX10_latest 14 = .ok (.getfield 52, 3) := by decide +kernel
theorem dX10_latest_17 : decode cX10_latest 17 = .ok (.iload_n 3, 1) := by decide +kernel
theorem dX10_latest_18 : decode cX10_latest 18 = .ok (.iaload, 1) := by decide +kernel
theorem dX10_latest_19 : decode cX10_latest 19 = .ok (.ishr, 1) := by decide +kernel
theorem dX10_latest_20 : decode cX10_latest 20 = .ok (.iconst 1, 1) := by decide +kernel
theorem dX10_latest_21 : decode cX10_latest 21 = .ok (.iand, 1) := by decide +kernel
theorem dX10_latest_22 : decode cX10_latest 22 = .ok (.iconst 1, 1) := by decide +kernel
theorem dX10_latest_23 : decode cX10_latest 23 = .ok (.if_icmp .ne 12, 3) := by decide +kernel
theorem dX10_latest_26 : decode cX10_latest 26 = .ok (.aload_n 0, 1) := by decide +kernel
theorem dX10_latest_27 : decode cX10_latest 27 = .ok (.getfield 52, 3) := by decide +kernel
theorem dX10_latest_30 : decode cX10_latest 30 = .ok (.iload_n 3, 1) := by decide +kernel
theorem dX10_latest_31 : decode cX10_latest 31 = .ok (.iaload, 1) := by decide +kernel
theorem dX10_latest_32 : decode cX10_latest 32 = .ok (.goto 4, 3) := by decide +kernel
theorem dX10_latest_35 : decode cX10_latest 35 = .ok (.iload_n 2, 1) := by decide +kernel
theorem dX10_latest_36 : decode cX10_latest 36 = .ok (.istore_n 2, 1) := by decide +kernel
theorem dX10_latest_37 : decode cX10_latest 37 = .ok (.iinc 3 1, 3) := by decide +kernel
theorem dX10_latest_40 : decode cX10_latest 40 = .ok (.goto (-36), 3) := by decide +kernel
theorem dX10_latest_43 : decode cX10_latest 43 = .ok (.iload_n 2, 1) := by decide +kernel
theorem dX10_latest_44 : decode cX10_latest 44 = .ok (.ireturn, 1) := by decide +kernel
theorem dX10_force_0 : decode cX10_force 0 = .ok (.aload_n 0, 1) := by decide +kernel
theorem dX10_force_1 : decode cX10_force 1 = .ok (.aload_n 0, 1) := by decide +kernel
theorem dX10_force_2 : decode cX10_force 2 = .ok (.iload_n 1, 1) := by decide +kernel
theorem dX10_force_3 : decode cX10_force 3 = .ok (.iload_n 2, 1) := by decide +kernel
theorem dX10_force_4 : decode cX10_force 4 = .ok (.invokevirtual 114, 3) := by decide +kernel
theorem dX10_force_7 : decode cX10_force 7 = .ok (.ifCond .ne 7, 3) := by decide +kernel
theorem dX10_force_10 : decode cX10_force 10 = .ok (.iconst 1, 1) := by decide +kernel
theorem dX10_force_11 : decode cX10_force 11 = .ok (.goto 22, 3) := by decide +kernel
theorem dX10_force_14 : decode cX10_force 14 = .ok (.aload_n 0, 1) := by decide +kernel
theorem dX10_force_15 : decode cX10_force 15 = .ok (.aload_n 0, 1) := by decide +kernel
theorem dX10_force_16 : decode cX10_force 16 = .ok (.getfield 111, 3) := by decide +kernel
theorem dX10_force_19 : decode cX10_force 19 = .ok (.iload_n 1, 1) := by decide +kernel
theorem dX10_force_20 : decode cX10_force 20 = .ok (.iload_n 2, 1) := by decide +kernel
theorem dX10_force_21 : decode cX10_force 21 = .ok (.iconst 0, 1) := by decide +kernel
theorem dX10_force_22 : decode cX10_force 22 = .ok (.invokevirtual 148, 3) := by decide +kernel
theorem dX10_force_25 : decode cX10_force 25 = .ok (.ifCond .eq 7, 3) := by decide +kernel
theorem dX10_force_28 : decode cX10_force 28 = .ok (.iconst 0, 1) := by decide +kernel
theorem dX10_force_29 : decode cX10_force 29 = .ok (.goto 4, 3) := by decide +kernel
theorem dX10_force_32 : decode cX10_force 32 = .ok (.iconst 2, 1) := by decide +kernel
theorem dX10_force_33 : decode cX10_force 33 = .ok (.putfield 70, 3) := by decide +kernel
theorem dX10_force_36 : decode cX10_force 36 = .ok (.aload_n 0, 1) := by decide +kernel
theorem dX10_force_37 : decode cX10_force 37 = .ok (.getfield 70, 3) := by decide +kernel
theorem dX10_force_40 : decode cX10_force 40 = .ok (.ifCond .gt 13, 3) := by decide +kernel
theorem dX10_force_43 : decode cX10_force 43 = .ok (.aload_n 0, 1) := by decide +kernel
theorem dX10_force_44 : decode cX10_force 44 = .ok (.getfield 55, 3) := by decide +kernel
theorem dX10_force_47 : decode cX10_force 47 = .ok (.iload_n 1, 1) := by decide +kernel
theorem dX10_force_48 : decode cX10_force 48 = .ok (.iaload, 1) := by decide +kernel
theorem dX10_force_49 : decode cX10_force 49 = .ok (.iload_n 2, 1) := by decide +kernel
theorem dX10_force_50 : decode cX10_force 50 = .ok (.if_icmp .ne 5, 3) := by decide +kernel
theorem dX10_force_53 : decode cX10_force 53 = .ok (.iconst 0, 1) := by decide +kernel
theorem dX10_force_54 : decode cX10_force 54 = .ok (.ireturn, 1) := by decide +kernel
theorem dX10_force_55 : decode cX10_force 55 = .ok (.iconst 0, 1) := by decide +kernel
theorem dX10_force_56 : decode cX10_force 56 = .ok (.istore_n 3, 1) := by decide +kernel
theorem dX10_force_57 : decode cX10_force 57 = .ok (.aload_n 0, 1) := by decide +kernel
theorem dX10_force_58 : decode cX10_force 58 = .ok (.getfield 55, 3) := by decide +kernel
theorem dX10_force_61 : decode cX10_force 61 = .ok (.iload_n 1, 1) := by decide +kernel
theorem dX10_force_62 : decode cX10_force 62 = .ok (.iaload, 1) := by decide +kernel
theorem dX10_force_63 : decode cX10_force 63 = .ok (.iconst (-1), 1) := by decide +kernel
theorem dX10_force_64 : decode cX10_force 64 = .ok (.if_icmp .eq 11, 3) := by decide +kernel
theorem dX10_force_67 : decode cX10_force 67 = .ok (.aload_n 0, 1) := by decide +kernel
theorem dX10_force_68 : decode cX10_force 68 = .ok (.iload_n 1, 1) := by decide +kernel
theorem dX10_force_69 : decode cX10_force 69 = .ok (.invokevirtual 139, 3) := by decide +kernel
theorem dX10_force_72 : decode cX10_force 72 = .ok (.iinc 3 1, 3) := by decide +kernel
theorem dX10_force_75 : decode cX10_force 75 = .ok (.aload_n 0, 1) := by decide +kernel
theorem dX10_force_76 : decode cX10_force 76 = .ok (.iload_n 1, 1) := by decide +kernel
theorem dX10_force_77 : decode cX10_force 77 = .ok (.iload_n 2, 1) := by decide +kernel
theorem dX10_force_78 : decode cX10_force 78 = .ok (.invokevirtual 152, 3) := by decide +kernel
theorem dX10_force_81 : decode cX10_force 81 = .ok (.ifCond .eq 21, 3) := by decide +kernel
theorem dX10_force_84 : decode cX10_force 84 = .ok (.aload_n 0, 1) := by decide +kernel
theorem dX10_force_85 : decode cX10_force 85 = .ok (.aload_n 0, 1) := by decide +kernel
theorem dX10_force_86 : decode cX10_force 86 = .ok (.aload_n 0, 1) := by decide +kernel
theorem dX10_force_87 : decode cX10_force 87 = .ok (.getfield 145, 3) := by decide +kernel
theorem dX10_force_90 : decode cX10_force 90 = .ok (.invokevirtual 155, 3) := by decide +kernel
theorem dX10_force_93 : decode cX10_force 93 = .ok (.invokevirtual 139, 3) := by decide +kernel
theorem dX10_force_96 : decode cX10_force 96 = .ok (.iinc 3 1, 3) := by decide +kernel
theorem dX10_force_99 : decode cX10_force 99 = .ok (.goto (-24), 3) := by decide +kernel
theorem dX10_force_102 : decode cX10_force 102 = .ok (.aload_n 0, 1) := by decide +kernel
theorem dX10_force_103 : decode cX10_force 103 = .ok (.iload_n 1, 1) := by decide +kernel
theorem dX10_force_104 : decode cX10_force 104 = .ok (.iload_n 2, 1) := by decide +kernel
theorem dX10_force_105 : decode cX10_force 105 = .ok (.invokevirtual 135, 3) := by decide +kernel
theorem dX10_force_108 : decode cX10_force 108 = .ok (.iload_n 3, 1) := by decide +kernel
theorem dX10_force_109 : decode cX10_force 109 = .ok (.ireturn, 1) := by decide +kernel
theorem dX10_takeDefaults_0 : decode cX10_takeDefaults 0 = .ok (.aload_n 0, 1) := by decide +kernel
theorem dX10_takeDefaults_1 : decode cX10_takeDefaults 1 = .ok (.iconst 0, 1) := by decide +kernel
theorem dX10_takeDefaults_2 : decode cX10_takeDefaults 2 = .ok (.putfield 70, 3) := by decide +kernel
theorem dX10_takeDefaults_5 : decode cX10_takeDefaults 5 = .ok (.iconst 0, 1) := by decide +kernel
theorem dX10_takeDefaults_6 : decode cX10_takeDefaults 6 = .ok (.istore_n 1, 1) := by decide +kernel
theorem dX10_takeDefaults_7 : decode cX10_takeDefaults 7 = .ok (.iconst 0, 1) := by decide +kernel
theorem dX10_takeDefaults_8 : decode cX10_takeDefaults 8 = .ok (.istore_n 2, 1) := by decide +kernel
theorem dX10_takeDefaults_9 : decode cX10_takeDefaults 9 = .ok (.iload_n 2, 1) := by decide +kernel
theorem dX10_takeDefaults_10 : decode cX10_takeDefaults 10 = .ok (.aload_n 0, 1) := by decide +kernel
theorem dX10_takeDefaults_11 : decode cX10_takeDefaults 11 = .ok (.getfield 126, 3) := by decide +kernel
theorem dX10_takeDefaults_14 : decode cX10_takeDefaults 14 = .ok (.if_icmp .ge 62, 3) := by decide +kernel
theorem dX10_takeDefaults_17 : decode cX10_takeDefaults 17 = .ok (.aload_n 0, 1) := by decide +kernel
theorem dX10_takeDefaults_18 : decode cX10_takeDefaults 18 = .ok (.getfield 55, 3) := by decide +kernel
theorem dX10_takeDefaults_21 : decode cX10_takeDefaults 21 = .ok (.aload_n 0, 1) := by decide +kernel
theorem dX10_takeDefaults_22 : decode cX10_takeDefaults 22 = .ok (.getfield 46, 3) := by decide +kernel
theorem dX10_takeDefaults_25 : decode cX10_takeDefaults 25 = .ok (.iload_n 2, 1) := by decide +kernel
theorem dX10_takeDefaults_26 : decode cX10_takeDefaults 26 = .ok (.iaload, 1) := by decide +kernel
theorem dX10_takeDefaults_27 : decode cX10_takeDefaults 27 = .ok (.iaload, 1) := by decide +kernel
theorem dX10_takeDefaults_28 : decode cX10_takeDefaults 28 = .ok (.iconst (-1), 1) := by decide +kernel
theorem dX10_takeDefaults_29 : decode cX10_takeDefaults 29 = .ok (.if_icmp .ne 41, 3) := by decide +kernel
theorem dX10_takeDefaults_32 : decode cX10_takeDefaults 32 = .ok (.aload_n 0, 1) := by decide +kernel
theorem dX10_takeDefaults_33 : decode cX10_takeDefaults 33 = .ok (.aload_n 0, 1) := by decide +kernel
theorem dX10_takeDefaults_34 : decode cX10_takeDefaults 34 = .ok (.getfield 46, 3) := by decide +kernel
theorem dX10_takeDefaults_37 : decode cX10_takeDefaults 37 = .ok (.iload_n 2, 1) := by decide +kernel
theorem dX10_takeDefaults_38 : decode cX10_takeDefaults 38 = .ok (.iaload, 1) := by decide +kernel
theorem dX10_takeDefaults_39 : decode cX10_takeDefaults 39 = .ok (.aload_n 0, 1) := by decide +kernel
theorem dX10_takeDefaults_40 : decode cX10_takeDefaults 40 = .ok (.getfield 49, 3) := by decide +kernel
theorem dX10_takeDefaults_43 : decode cX10_takeDefaults 43 = .ok (.iload_n 2, 1) := by decide +kernel
theorem dX10_takeDefaults_44 : decode cX10_takeDefaults 44 = .ok (.iaload, 1) := by decide +kernel
theorem dX10_takeDefaults_45 : decode cX10_takeDefaults 45 = .ok (.invokevirtual 132, 3) := by decide +kernel
theorem dX10_takeDefaults_48 : decode cX10_takeDefaults 48 = .ok (.ifCond .eq 22, 3) := by decide +kernel
theorem dX10_takeDefaults_51 : decode cX10_takeDefaults 51 = .ok (.aload_n 0, 1) := by decide +kernel
theorem dX10_takeDefaults_52 : decode cX10_takeDefaults 52 = .ok (.aload_n 0, 1) := by decide +kernel
theorem dX10_takeDefaults_53 : decode cX10_takeDefaults 53 = .ok (.getfield 46, 3) := by decide +kernel
theorem dX10_takeDefaults_56 : decode cX10_takeDefaults 56 = .ok (.iload_n 2, 1) := by decide +kernel
theorem dX10_takeDefaults_57 : decode cX10_takeDefaults 57 = .ok (.iaload, 1) := by decide +kernel
theorem dX10_takeDefaults_58 : decode cX10_takeDefaults 58 = .ok (.aload_n 0, 1) := by decide +kernel
theorem dX10_takeDefaults_59 : decode cX10_takeDefaults 59 = .ok (.getfield 49, 3) := by decide +kernel
theorem dX10_takeDefaults_62 : decode cX10_takeDefaults 62 = .ok (.iload_n 2, 1) := by decide +kernel
theorem dX10_takeDefaults_63 : decode cX10_takeDefaults 63 = .ok (.iaload, 1) := by decide +kernel
theorem dX10_takeDefaults_64 : decode cX10_takeDefaults 64 = .ok (.invokevirtual 135, 3) := by decide +kernel
theorem dX10_takeDefaults_67 : decode cX10_takeDefaults 67 = .ok (.iinc 1 1, 3) := by decide +kernel
theorem dX10_takeDefaults_70 : decode cX10_takeDefaults 70 = .ok (.iinc 2 1, 3) := by decide +kernel
theorem dX10_takeDefaults_73 : decode cX10_takeDefaults 73 = .ok (.goto (-64), 3) := by decide +kernel
theorem dX10_takeDefaults_76 : decode cX10_takeDefaults 76 = .ok (.iload_n 1, 1) := by decide +kernel
theorem dX10_takeDefaults_77 : decode cX10_takeDefaults 77 = .ok (.ireturn, 1) := by decide +kernel
theorem dX10_finish_0 : decode cX10_finish 0 = .ok (.aload_n 0, 1) := by decide +kernel
theorem dX10_finish_1 : decode cX10_finish 1 = .ok (.iconst 0, 1) := by decide +kernel
theorem dX10_finish_2 : decode cX10_finish 2 = .ok (.putfield 70, 3) := by decide +kernel
theorem dX10_finish_5 : decode cX10_finish 5 = .ok (.iconst 0, 1) := by decide +kernel
theorem dX10_finish_6 : decode cX10_finish 6 = .ok (.istore_n 1, 1) := by decide +kernel
theorem dX10_finish_7 : decode cX10_finish 7 = .ok (.iconst 0, 1) := by decide +kernel
theorem dX10_finish_8 : decode cX10_finish 8 = .ok (.istore_n 2, 1) := by decide +kernel
theorem dX10_finish_9 : decode cX10_finish 9 = .ok (.iload_n 2, 1) := by decide +kernel
theorem dX10_finish_10 : decode cX10_finish 10 = .ok (.aload_n 0, 1) := by decide +kernel
theorem dX10_finish_11 : decode cX10_finish 11 = .ok (.getfield 74, 3) := by decide +kernel
theorem dX10_finish_14 : decode cX10_finish 14 = .ok (.if_icmp .ge 45, 3) := by decide +kernel
theorem dX10_finish_17 : decode cX10_finish 17 = .ok (.aload_n 0, 1) := by decide +kernel
theorem dX10_finish_18 : decode cX10_finish 18 = .ok (.getfield 55, 3) := by decide +kernel
theorem dX10_finish_21 : decode cX10_finish 21 = .ok (.iload_n 2, 1) := by decide +kernel
theorem dX10_finish_22 : decode cX10_finish 22 = .ok (.iaload, 1) := by decide +kernel
theorem dX10_finish_23 : decode cX10_finish 23 = .ok (.iconst (-1), 1) := by decide +kernel
theorem dX10_finish_24 : decode cX10_finish 24 = .ok (.if_icmp .ne 29, 3) := by decide +kernel
theorem dX10_finish_27 : decode cX10_finish 27 = .ok (.iconst 0, 1) := by decide +kernel
theorem dX10_finish_28 : decode cX10_finish 28 = .ok (.istore_n 3, 1) := by decide +kernel
theorem dX10_finish_29 : decode cX10_finish 29 = .ok (.aload_n 0, 1) := by decide +kernel
theorem dX10_finish_30 : decode cX10_finish 30 = .ok (.iload_n 2, 1) := by decide +kernel
theorem dX10_finish_31 : decode cX10_finish 31 = .ok (.iload_n 3, 1) := by decide +kernel
theorem dX10_finish_32 : decode cX10_finish 32 = .ok (.invokevirtual 132, 3) := by decide +kernel
theorem dX10_finish_35 : decode cX10_finish 35 = .ok (.ifCond .ne 9, 3) := by decide +kernel
theorem dX10_finish_38 : decode cX10_finish 38 = .ok (.iinc 3 1, 3) := by decide +kernel
theorem dX10_finish_41 : decode cX10_finish 41 = .ok (.goto (-12), 3) := by decide +kernel
theorem dX10_finish_44 : decode cX10_finish 44 = .ok (.aload_n 0, 1) := by decide +kernel
theorem dX10_finish_45 : decode cX10_finish 45 = .ok (.iload_n 2, 1) := by decide +kernel
theorem dX10_finish_46 : decode cX10_finish 46 = .ok (.iload_n 3, 1) := by decide +kernel
theorem dX10_finish_47 : decode cX10_finish 47 = .ok (.invokevirtual 135, 3) := by decide +kernel
theorem dX10_finish_50 : decode cX10_finish 50 = .ok (.iinc 1 1, 3) := by decide +kernel
theorem dX10_finish_53 : decode cX10_finish 53 = .ok (.iinc 2 1, 3) := by decide +kernel
theorem dX10_finish_56 : decode cX10_finish 56 = .ok (.goto (-47), 3) := by decide +kernel
theorem dX10_finish_59 : decode cX10_finish 59 = .ok (.iload_n 1, 1) := by decide +kernel
theorem dX10_finish_60 : decode cX10_finish 60 = .ok (.ireturn, 1) := by decide +kernel
theorem dX10_reset_0 : decode cX10_reset 0 = .ok (.aload_n 0, 1) := by decide +kernel
theorem dX10_reset_1 : decode cX10_reset 1 = .ok (.iconst 0, 1) := by decide +kernel
theorem dX10_reset_2 : decode cX10_reset 2 = .ok (.putfield 70, 3) := by decide +kernel
theorem dX10_reset_5 : decode cX10_reset 5 = .ok (.aload_n 0, 1) := by decide +kernel
theorem dX10_reset_6 : decode cX10_reset 6 = .ok (.getfield 129, 3) := by decide +kernel
theorem dX10_reset_9 : decode cX10_reset 9 = .ok (.istore_n 1, 1) := by decide +kernel
theorem dX10_reset_10 : decode cX10_reset 10 = .ok (.iconst 0, 1) := by decide +kernel
theorem dX10_reset_11 : decode cX10_reset 11 = .ok (.istore_n 2, 1) := by decide +kernel
theorem dX10_reset_12 : decode cX10_reset 12 = .ok (.iload_n 2, 1) := by decide +kernel
theorem dX10_reset_13 : decode cX10_reset 13 = .ok (.aload_n 0, 1) := by decide +kernel
theorem dX10_reset_14 : decode cX10_reset 14 = .ok (.getfield 74, 3) := by decide +kernel
theorem dX10_reset_17 : decode cX10_reset 17 = .ok (.if_icmp .ge 16, 3) := by decide +kernel
theorem dX10_reset_20 : decode cX10_reset 20 = .ok (.aload_n 0, 1) := by decide +kernel
theorem dX10_reset_21 : decode cX10_reset 21 = .ok (.getfield 55, 3) := by decide +kernel
theorem dX10_reset_24 : decode cX10_reset 24 = .ok (.iload_n 2, 1) := by decide +kernel
theorem dX10_reset_25 : decode cX10_reset 25 = .ok (.iconst (-1), 1) := by decide +kernel
theorem dX10_reset_26 : decode cX10_reset 26 = .ok (.iastore, 1) := by decide +kernel
theorem dX10_reset_27 : decode cX10_reset 27 = .ok (.iinc 2 1, 3) := by decide +kernel
theorem dX10_reset_30 : decode cX10_reset 30 = .ok (.goto (-18), 3) := by decide +kernel
theorem dX10_reset_33 : decode cX10_reset 33 = .ok (.aload_n 0, 1) := by decide +kernel
theorem dX10_reset_34 : decode cX10_reset 34 = .ok (.iconst 0, 1) := by decide +kernel
theorem dX10_reset_35 : decode cX10_reset 35 = .ok (.putfield 129, 3) := by decide +kernel
theorem dX10_reset_38 : decode cX10_reset 38 = .ok (.iload_n 1, 1) := by decide +kernel
theorem dX10_reset_39 : decode cX10_reset 39 = .ok (.ireturn, 1) := by decide +kernel
theorem dX10_features_0 : decode cX10_features 0 = .ok (.aload_n 0, 1) := by decide +kernel
theorem dX10_features_1 : decode cX10_features 1 = .ok (.iconst 0, 1) := by decide +kernel
theorem dX10_features_2 : decode cX10_features 2 = .ok (.putfield 70, 3) := by decide +kernel
theorem dX10_features_5 : decode cX10_features 5 = .ok (.aload_n 0, 1) := by decide +kernel
theorem dX10_features_6 : decode cX10_features 6 = .ok (.getfield 74, 3) := by decide +kernel
theorem dX10_features_9 : decode cX10_features 9 = .ok (.ireturn, 1) := by decide +kernel
theorem dX10_options_0 : decode cX10_options 0 = .ok (.aload_n 0, 1) := by decide +kernel
theorem dX10_options_1 : decode cX10_options 1 = .ok (.aload_n 0, 1) := by decide +kernel
theorem dX10_options_2 : decode cX10_options 2 = .ok (.iload_n 1, 1) := by decide +kernel
theorem dX10_options_3 : decode cX10_options 3 = .ok (.invokevirtual 81, 3) := by decide +kernel
theorem dX10_options_6 : decode cX10_options 6 = .ok (.ifCond .eq 7, 3) := by decide +kernel
theorem dX10_options_9 : decode cX10_options 9 = .ok (.iconst 0, 1) := by decide +kernel
theorem dX10_options_10 : decode cX10_options 10 = .ok (.goto 4, 3) := by decide +kernel
theorem dX10_options_13 : decode cX10_options 13 = .ok (.iconst 1, 1) := by decide +kernel
theorem dX10_options_14 : decode cX10_options 14 = .ok (.putfield 70, 3) := by decide +kernel
theorem dX10_options_17 : decode cX10_options 17 = .ok (.aload_n 0, 1) := by decide +kernel
theorem dX10_options_18 : decode cX10_options 18 = .ok (.getfield 70, 3) := by decide +kernel
theorem dX10_options_21 : decode cX10_options 21 = .ok (.ifCond .le 7, 3) := by decide +kernel
theorem dX10_options_24 : decode cX10_options 24 = .ok (.iconst 0, 1) := by decide +kernel
theorem dX10_options_25 : decode cX10_options 25 = .ok (.goto 9, 3) := by decide +kernel
theorem dX10_options_28 : decode cX10_options 28 = .ok (.aload_n 0, 1) := by decide +kernel
theorem dX10_options_29 : decode cX10_options 29 = .ok (.getfield 7, 3) := by decide +kernel
theorem dX10_options_32 : decode cX10_options 32 = .ok (.iload_n 1, 1) := by decide +kernel
theorem dX10_options_33 : decode cX10_options 33 = .ok (.iaload, 1) := by decide +kernel
theorem dX10_options_34 : decode cX10_options 34 = .ok (.ireturn, 1) := by decide +kernel
theorem dX10_rules_0 : decode cX10_rules 0 = .ok (.aload_n 0, 1) := by decide +kernel
theorem dX10_rules_1 : decode cX10_rules 1 = .ok (.iconst 0, 1) := by decide +kernel
theorem dX10_rules_2 : decode cX10_rules 2 = .ok (.putfield 70, 3) := by decide +kernel
theorem dX10_rules_5 : decode cX10_rules 5 = .ok (.aload_n 0, 1) := by decide +kernel
theorem dX10_rules_6 : decode cX10_rules 6 = .ok (.getfield 85, 3) := by decide +kernel
theorem dX10_rules_9 : decode cX10_rules 9 = .ok (.ireturn, 1) := by decide +kernel
theorem dX10_isOn_0 : decode cX10_isOn 0 = .ok (.aload_n 0, 1) := by decide +kernel
theorem dX10_isOn_1 : decode cX10_isOn 1 = .ok (.aload_n 0, 1) := by decide +kernel
theorem dX10_isOn_2 : decode cX10_isOn 2 = .ok (.iload_n 1, 1) := by decide +kernel
theorem dX10_isOn_3 : decode cX10_isOn 3 = .ok (.invokevirtual 120, 3) := by decide +kernel
theorem dX10_isOn_6 : decode cX10_isOn 6 = .ok (.ifCond .eq 7, 3) := by decide +kernel
theorem dX10_isOn_9 : decode cX10_isOn 9 = .ok (.iconst 0, 1) := by decide +kernel
theorem dX10_isOn_10 : decode cX10_isOn 10 = .ok (.goto 4, 3) := by decide +kernel
theorem dX10_isOn_13 : decode cX10_isOn 13 = .ok (.iconst 1, 1) := by decide +kernel
theorem dX10_isOn_14 : decode cX10_isOn 14 = .ok (.putfield 70, 3) := by decide +kernel
theorem dX10_isOn_17 : decode cX10_isOn 17 = .ok (.aload_n 0, 1) := by decide +kernel
theorem dX10_isOn_18 : decode cX10_isOn 18 = .ok (.getfield 70, 3) := by decide +kernel
theorem dX10_isOn_21 : decode cX10_isOn 21 = .ok (.ifCond .ne 19, 3) := by decide +kernel
theorem dX10_isOn_24 : decode cX10_isOn 24 = .ok (.aload_n 0, 1) := by decide +kernel
theorem dX10_isOn_25 : decode cX10_isOn 25 = .ok (.getfield 111, 3) := by decide +kernel
theorem dX10_isOn_28 : decode cX10_isOn 28 = .ok (.iload_n 1, 1) := by decide +kernel
theorem dX10_isOn_29 : decode cX10_isOn 29 = .ok (.ishr, 1) := by decide +kernel
theorem dX10_isOn_30 : decode cX10_isOn 30 = .ok (.iconst 1, 1) := by decide +kernel
theorem dX10_isOn_31 : decode cX10_isOn 31 = .ok (.iand, 1) := by decide +kernel
theorem dX10_isOn_32 : decode cX10_isOn 32 = .ok (.iconst 1, 1) := by decide +kernel
theorem dX10_isOn_33 : decode cX10_isOn 33 = .ok (.if_icmp .ne 7, 3) := by decide +kernel
theorem dX10_isOn_36 : decode cX10_isOn 36 = .ok (.iconst 1, 1) := by decide +kernel
theorem dX10_isOn_37 : decode cX10_isOn 37 = .ok (.goto 4, 3) := by decide +kernel
theorem dX10_isOn_40 : decode cX10_isOn 40 = .ok (.iconst 0, 1) := by decide +kernel
theorem dX10_isOn_41 : decode cX10_isOn 41 = .ok (.ireturn, 1) := by decide +kernel
theorem dX10_choices_0 : decode cX10_choices 0 = .ok (.aload_n 0, 1) := by decide +kernel
theorem dX10_choices_1 : decode cX10_choices 1 = .ok (.iconst 0, 1) := by decide +kernel
theorem dX10_choices_2 : decode cX10_choices 2 = .ok (.putfield 70, 3) := by decide +kernel
theorem dX10_choices_5 : decode cX10_choices 5 = .ok (.aload_n 0, 1) := by decide +kernel
theorem dX10_choices_6 : decode cX10_choices 6 = .ok (.getfield 129, 3) := by decide +kernel
theorem dX10_choices_9 : decode cX10_choices 9 = .ok (.ireturn, 1) := by decide +kernel
theorem dX10_choiceAt_0 : decode cX10_choiceAt 0 = .ok (.aload_n 0, 1) := by decide +kernel
theorem dX10_choiceAt_1 : decode cX10_choiceAt 1 = .ok (.iload_n 1, 1) := by decide +kernel
theorem dX10_choiceAt_2 : decode cX10_choiceAt 2 = .ok (.iconst 0, 1) := by decide +kernel
theorem dX10_choiceAt_3 : decode cX10_choiceAt 3 = .ok (.aload_n 0, 1) := by decide +kernel
theorem dX10_choiceAt_4 : decode cX10_choiceAt 4 = .ok (.getfield 129, 3) := by decide +kernel
theorem dX10_choiceAt_7 : decode cX10_choiceAt 7 = .ok (.iconst 1, 1) := by decide +kernel
theorem dX10_choiceAt_8 : decode cX10_choiceAt 8 = .ok (.isub, 1) := by decide +kernel
theorem dX10_choiceAt_9 : decode cX10_choiceAt 9 = .ok (.invokestatic 77, 3) := by decide +kernel
theorem dX10_choiceAt_12 : decode cX10_choiceAt 12 = .ok (.ifCond .eq 7, 3) := by decide +kernel
theorem dX10_choiceAt_15 : decode cX10_choiceAt 15 = .ok (.iconst 0, 1) := by decide +kernel
theorem dX10_choiceAt_16 : decode cX10_choiceAt 16 = .ok (.goto 4, 3) := by decide +kernel
theorem dX10_choiceAt_19 : decode cX10_choiceAt 19 = .ok (.iconst 1, 1) := by decide +kernel
theorem dX10_choiceAt_20 : decode cX10_choiceAt 20 = .ok (.putfield 70, 3) := by decide +kernel
theorem dX10_choiceAt_23 : decode cX10_choiceAt 23 = .ok (.aload_n 0, 1) := by decide +kernel
theorem dX10_choiceAt_24 : decode cX10_choiceAt 24 = .ok (.getfield 70, 3) := by decide +kernel
theorem dX10_choiceAt_27 : decode cX10_choiceAt 27 = .ok (.ifCond .le 7, 3) := by decide +kernel
theorem dX10_choiceAt_30 : decode cX10_choiceAt 30 = .ok (.iconst 0, 1) := by decide +kernel
theorem dX10_choiceAt_31 : decode cX10_choiceAt 31 = .ok (.goto 9, 3) := by decide +kernel
theorem dX10_choiceAt_34 : decode cX10_choiceAt 34 = .ok (.aload_n 0, 1) := by decide +kernel
theorem dX10_choiceAt_35 : decode cX10_choiceAt 35 = .ok (.getfield 52, 3) := by decide +kernel
theorem dX10_choiceAt_38 : decode cX10_choiceAt 38 = .ok (.iload_n 1, 1) := by decide +kernel
theorem dX10_choiceAt_39 : decode cX10_choiceAt 39 = .ok (.iaload, 1) := by decide +kernel
theorem dX10_choiceAt_40 : decode cX10_choiceAt 40 = .ok (.ireturn, 1) := by decide +kernel
theorem dX10_chosen_0 : decode cX10_chosen 0 = .ok (.aload_n 0, 1) := by decide +kernel
theorem dX10_chosen_1 : decode cX10_chosen 1 = .ok (.aload_n 0, 1) := by decide +kernel
theorem dX10_chosen_2 : decode cX10_chosen 2 = .ok (.iload_n 1, 1) := by decide +kernel
theorem dX10_chosen_3 : decode cX10_chosen 3 = .ok (.invokevirtual 81, 3) := by decide +kernel
theorem dX10_chosen_6 : decode cX10_chosen 6 = .ok (.ifCond .eq 7, 3) := by decide +kernel
theorem dX10_chosen_9 : decode cX10_chosen 9 = .ok (.iconst 0, 1) := by decide +kernel
theorem dX10_chosen_10 : decode cX10_chosen 10 = .ok (.goto 4, 3) := by decide +kernel
theorem dX10_chosen_13 : decode cX10_chosen 13 = .ok (.iconst 1, 1) := by decide +kernel
theorem dX10_chosen_14 : decode cX10_chosen 14 = .ok (.putfield 70, 3) := by decide +kernel
theorem dX10_chosen_17 : decode cX10_chosen 17 = .ok (.aload_n 0, 1) := by decide +kernel
theorem dX10_chosen_18 : decode cX10_chosen 18 = .ok (.getfield 70, 3) := by decide +kernel
theorem dX10_chosen_21 : decode cX10_chosen 21 = .ok (.ifCond .le 7, 3) := by decide +kernel
theorem dX10_chosen_24 : decode cX10_chosen 24 = .ok (.iconst 0, 1) := by decide +kernel
theorem dX10_chosen_25 : decode cX10_chosen 25 = .ok (.goto 9, 3) := by decide +kernel
theorem dX10_chosen_28 : decode cX10_chosen 28 = .ok (.aload_n 0, 1) := by decide +kernel
theorem dX10_chosen_29 : decode cX10_chosen 29 = .ok (.getfield 55, 3) := by decide +kernel
theorem dX10_chosen_32 : decode cX10_chosen 32 = .ok (.iload_n 1, 1) := by decide +kernel
theorem dX10_chosen_33 : decode cX10_chosen 33 = .ok (.iaload, 1) := by decide +kernel
theorem dX10_chosen_34 : decode cX10_chosen 34 = .ok (.ireturn, 1) := by decide +kernel
theorem dX10_mates_0 : decode cX10_mates 0 = .ok (.iconst 0, 1) := by decide +kernel
theorem dX10_mates_1 : decode cX10_mates 1 = .ok (.istore 4, 2) := by decide +kernel
theorem dX10_mates_3 : decode cX10_mates 3 = .ok (.iconst 0, 1) := by decide +kernel
theorem dX10_mates_4 : decode cX10_mates 4 = .ok (.istore 5, 2) := by decide +kernel
theorem dX10_mates_6 : decode cX10_mates 6 = .ok (.iload 5, 2) := by decide +kernel
theorem dX10_mates_8 : decode cX10_mates 8 = .ok (.aload_n 0, 1) := by decide +kernel
theorem dX10_mates_9 : decode cX10_mates 9 = .ok (.getfield 7, 3) := by decide +kernel
theorem dX10_mates_12 : decode cX10_mates 12 = .ok (.iload_n 3, 1) := by decide +kernel
theorem dX10_mates_13 : decode cX10_mates 13 = .ok (.iaload, 1) := by decide +kernel
theorem dX10_mates_14 : decode cX10_mates 14 = .ok (.if_icmp .ge 38, 3) := by decide +kernel
theorem dX10_mates_17 : decode cX10_mates 17 = .ok (.iload 4, 2) := by decide +kernel
theorem dX10_mates_19 : decode cX10_mates 19 = .ok (.aload_n 0, 1) := by decide +kernel
theorem dX10_mates_20 : decode cX10_mates 20 = .ok (.aload_n 0, 1) := by decide +kernel
theorem dX10_mates_21 : decode cX10_mates 21 = .ok (.getfield 111, 3) := by decide +kernel
theorem dX10_mates_24 : decode cX10_mates 24 = .ok (.iload_n 1, 1) := by decide +kernel
theorem dX10_mates_25 : decode cX10_mates 25 = .ok (.iload_n 2, 1) := by decide +kernel
theorem dX10_mates_26 : decode cX10_mates 26 = .ok (.iload_n 3, 1) := by decide +kernel
theorem dX10_mates_27 : decode cX10_mates 27 = .ok (.iload 5, 2) := by decide +kernel
theorem dX10_mates_29 : decode cX10_mates 29 = .ok (.invokevirtual 91, 3) := by decide +kernel
theorem dX10_mates_32 : decode cX10_mates 32 = .ok (.ifCond .eq 10, 3) := by decide +kernel
theorem dX10_mates_35 : decode cX10_mates 35 = .ok (.iconst 1, 1) := by decide +kernel
theorem dX10_mates_36 : decode cX10_mates 36 = .ok (.iload 5, 2) := by decide +kernel
theorem dX10_mates_38 : decode cX10_mates 38 = .ok (.ishl, 1) := by decide +kernel
theorem dX10_mates_39 : decode cX10_mates 39 = .ok (.goto 4, 3) := by decide +kernel
theorem dX10_mates_42 : decode cX10_mates 42 = .ok (.iconst 0, 1) := by decide +kernel
theorem dX10_mates_43 : decode cX10_mates 43 = .ok (.ior, 1) := by decide +kernel
theorem dX10_mates_44 : decode cX10_mates 44 = .ok (.istore 4, 2) := by decide +kernel
theorem dX10_mates_46 : decode cX10_mates 46 = .ok (.iinc 5 1, 3) := by decide +kernel
theorem dX10_mates_49 : decode cX10_mates 49 = .ok (.goto (-43), 3) := by decide +kernel
theorem dX10_mates_52 : decode cX10_mates 52 = .ok (.iload 4, 2) := by decide +kernel
theorem dX10_mates_54 : decode cX10_mates 54 = .ok (.ireturn, 1) := by decide +kernel
theorem dX10_hasMates_0 : decode cX10_hasMates 0 = .ok (.iconst 1, 1) := by decide +kernel
theorem dX10_hasMates_1 : decode cX10_hasMates 1 = .ok (.istore_n 3, 1) := by decide +kernel
theorem dX10_hasMates_2 : decode cX10_hasMates 2 = .ok (.iconst 0, 1) := by decide +kernel
theorem dX10_hasMates_3 : decode cX10_hasMates 3 = .ok (.istore 4, 2) := by decide +kernel
theorem dX10_hasMates_5 : decode cX10_hasMates 5 = .ok (.iload 4, 2) := by decide +kernel
theorem dX10_hasMates_7 : decode cX10_hasMates 7 = .ok (.aload_n 0, 1) := by decide +kernel
theorem dX10_hasMates_8 : decode cX10_hasMates 8 = .ok (.getfield 74, 3) := by decide +kernel
theorem dX10_hasMates_11 : decode cX10_hasMates 11 = .ok (.if_icmp .ge 44, 3) := by decide +kernel
theorem dX10_hasMates_14 : decode cX10_hasMates 14 = .ok (.iload_n 3, 1) := by decide +kernel
theorem dX10_hasMates_15 : decode cX10_hasMates 15 = .ok (.ifCond .eq 32, 3) := by decide +kernel
theorem dX10_hasMates_18 : decode cX10_hasMates 18 = .ok (.iload 4, 2) := by decide +kernel
theorem dX10_hasMates_20 : decode cX10_hasMates 20 = .ok (.iload_n 1, 1) := by decide +kernel
theorem dX10_hasMates_21 : decode cX10_hasMates 21 = .ok (.if_icmp .eq 22, 3) := by decide +kernel
theorem dX10_hasMates_24 : decode cX10_hasMates 24 = .ok (.aload_n 0, 1) := by decide +kernel
theorem dX10_hasMates_25 : decode cX10_hasMates 25 = .ok (.iload_n 1, 1) := by decide +kernel
theorem dX10_hasMates_26 : decode cX10_hasMates 26 = .ok (.iload_n 2, 1) := by decide +kernel
theorem dX10_hasMates_27 : decode cX10_hasMates 27 = .ok (.iload 4, 2) := by decide +kernel
theorem dX10_hasMates_29 : decode cX10_hasMates 29 = .ok (.invokevirtual 158, 3) := by decide +kernel
theorem dX10_hasMates_32 : decode cX10_hasMates 32 = .ok (.aload_n 0, 1) := by decide +kernel
theorem dX10_hasMates_33 : decode cX10_hasMates 33 = .ok (.getfield 58, 3) := by decide +kernel
theorem dX10_hasMates_36 : decode cX10_hasMates 36 = .ok (.iload 4, 2) := by decide +kernel
theorem dX10_hasMates_38 : decode cX10_hasMates 38 = .ok (.iaload, 1) := by decide +kernel
theorem dX10_hasMates_39 : decode cX10_hasMates 39 = .ok (.iand, 1) := by decide +kernel
theorem dX10_hasMates_40 : decode cX10_hasMates 40 = .ok (.ifCond .eq 7, 3) := by decide +kernel
theorem dX10_hasMates_43 : decode cX10_hasMates 43 = .ok (.iconst 1, 1) := by decide +kernel
theorem dX10_hasMates_44 : decode cX10_hasMates 44 = .ok (.goto 4, 3) := by decide +kernel
theorem dX10_hasMates_47 : decode cX10_hasMates 47 = .ok (.iconst 0, 1) := by decide +kernel
theorem dX10_hasMates_48 : decode cX10_hasMates 48 = .ok (.istore_n 3, 1) := by decide +kernel
theorem dX10_hasMates_49 : decode cX10_hasMates 49 = .ok (.iinc 4 1, 3) := by decide +kernel
theorem dX10_hasMates_52 : decode cX10_hasMates 52 = .ok (.goto (-47), 3) := by decide +kernel
theorem dX10_hasMates_55 : decode cX10_hasMates 55 = .ok (.iload_n 3, 1) := by decide +kernel
theorem dX10_hasMates_56 : decode cX10_hasMates 56 = .ok (.ireturn, 1) := by decide +kernel
theorem dX10_remaining_0 : decode cX10_remaining 0 = .ok (.aload_n 0, 1) := by decide +kernel
theorem dX10_remaining_1 : decode cX10_remaining 1 = .ok (.aload_n 0, 1) := by decide +kernel
theorem dX10_remaining_2 : decode cX10_remaining 2 = .ok (.iload_n 1, 1) := by decide +kernel
theorem dX10_remaining_3 : decode cX10_remaining 3 = .ok (.invokevirtual 81, 3) := by decide +kernel
theorem dX10_remaining_6 : decode cX10_remaining 6 = .ok (.ifCond .eq 7, 3) := by decide +kernel
theorem dX10_remaining_9 : decode cX10_remaining 9 = .ok (.iconst 0, 1) := by decide +kernel
theorem dX10_remaining_10 : decode cX10_remaining 10 = .ok (.goto 4, 3) := by decide +kernel
theorem dX10_remaining_13 : decode cX10_remaining 13 = .ok (.iconst 1, 1) := by decide +kernel
theorem dX10_remaining_14 : decode cX10_remaining 14 = .ok (.putfield 70, 3) := by decide +kernel
theorem dX10_remaining_17 : decode cX10_remaining 17 = .ok (.aload_n 0, 1) := by decide +kernel
theorem dX10_remaining_18 : decode cX10_remaining 18 = .ok (.getfield 70, 3) := by decide +kernel
theorem dX10_remaining_21 : decode cX10_remaining 21 = .ok (.ifCond .le 5, 3) := by decide +kernel
theorem dX10_remaining_24 : decode cX10_remaining 24 = .ok (.iconst 0, 1) := by decide +kernel
theorem dX10_remaining_25 : decode cX10_remaining 25 = .ok (.ireturn, 1) := by decide +kernel
theorem dX10_remaining_26 : decode cX10_remaining 26 = .ok (.aload_n 0, 1) := by decide +kernel
theorem dX10_remaining_27 : decode cX10_remaining 27 = .ok (.bipush 63, 2) := by decide +kernel
theorem dX10_remaining_29 : decode cX10_remaining 29 = .ok (.invokevirtual 103, 3) := by decide +kernel
theorem dX10_remaining_32 : decode cX10_remaining 32 = .ok (.iconst 1, 1) := by decide +kernel
theorem dX10_remaining_33 : decode cX10_remaining 33 = .ok (.istore_n 2, 1) := by decide +kernel
theorem dX10_remaining_34 : decode cX10_remaining 34 = .ok (.iload_n 2, 1) := by decide +kernel
theorem dX10_remaining_35 : decode cX10_remaining 35 = .ok (.ifCond .eq 86, 3) := by decide +kernel
theorem dX10_remaining_38 : decode cX10_remaining 38 = .ok (.iconst 0, 1) := by decide +kernel
theorem dX10_remaining_39 : decode cX10_remaining 39 = .ok (.istore_n 2, 1) := by decide +kernel
theorem dX10_remaining_40 : decode cX10_remaining 40 = .ok (.iconst 0, 1) := by decide +kernel
theorem dX10_remaining_41 : decode cX10_remaining 41 = .ok (.istore_n 3, 1) := by decide +kernel
theorem dX10_remaining_42 : decode cX10_remaining 42 = .ok (.iload_n 3, 1) := by decide +kernel
theorem dX10_remaining_43 : decode cX10_remaining 43 = .ok (.aload_n 0, 1) := by decide +kernel
theorem dX10_remaining_44 : decode cX10_remaining 44 = .ok (.getfield 74, 3) := by decide +kernel
theorem dX10_remaining_47 : decode cX10_remaining 47 = .ok (.if_icmp .ge 71, 3) := by decide +kernel
theorem dX10_remaining_50 : decode cX10_remaining 50 = .ok (.iconst 0, 1) := by decide +kernel
theorem dX10_remaining_51 : decode cX10_remaining 51 = .ok (.istore 4, 2) := by decide +kernel
theorem dX10_remaining_53 : decode cX10_remaining 53 = .ok (.iload 4, 2) := by decide +kernel
theorem dX10_remaining_55 : decode cX10_remaining 55 = .ok (.aload_n 0, 1) := by decide +kernel
theorem dX10_remaining_56 : decode cX10_remaining 56 = .ok (.getfield 7, 3) := by decide +kernel
theorem dX10_remaining_59 : decode cX10_remaining 59 = .ok (.iload_n 3, 1) := by decide +kernel
theorem dX10_remaining_60 : decode cX10_remaining 60 = .ok (.iaload, 1) := by decide +kernel
theorem dX10_remaining_61 : decode cX10_remaining 61 = .ok (.if_icmp .ge 51, 3) := by decide +kernel
theorem dX10_remaining_64 : decode cX10_remaining 64 = .ok (.aload_n 0, 1) := by decide +kernel
theorem dX10_remaining_65 : decode cX10_remaining 65 = .ok (.getfield 58, 3) := by decide +kernel
theorem dX10_remaining_68 : decode cX10_remaining 68 = .ok (.iload_n 3, 1) := by decide +kernel
theorem dX10_remaining_69 : decode cX10_remaining 69 = .ok (.iaload, 1) := by decide +kernel
theorem dX10_remaining_70 : decode cX10_remaining 70 = .ok (.iload 4, 2) := by decide +kernel
theorem dX10_remaining_72 : decode cX10_remaining 72 = .ok (.ishr, 1) := by decide +kernel
theorem dX10_remaining_73 : decode cX10_remaining 73 = .ok (.iconst 1, 1) := by decide +kernel
theorem dX10_remaining_74 : decode cX10_remaining 74 = .ok (.iand, 1) := by decide +kernel
theorem dX10_remaining_75 : decode cX10_remaining 75 = .ok (.iconst 1, 1) := by decide +kernel
theorem dX10_remaining_76 : decode cX10_remaining 76 = .ok (.if_icmp .ne 30, 3) := by decide +kernel
theorem dX10_remaining_79 : decode cX10_remaining 79 = .ok (.aload_n 0, 1) := by decide +kernel
theorem dX10_remaining_80 : decode cX10_remaining 80 = .ok (.iload_n 3, 1) := by decide +kernel
theorem dX10_remaining_81 : decode cX10_remaining 81 = .ok (.iload 4, 2) := by decide +kernel
theorem dX10_remaining_83 : decode cX10_remaining 83 = .ok (.invokevirtual 162, 3) := by decide +kernel
theorem dX10_remaining_86 : decode cX10_remaining 86 = .ok (.ifCond .ne 20, 3) := by decide +kernel
theorem dX10_remaining_89 : decode cX10_remaining 89 = .ok (.aload_n 0, 1) := by decide +kernel
theorem dX10_remaining_90 : decode cX10_remaining 90 = .ok (.getfield 58, 3) := by decide +kernel
theorem dX10_remaining_93 : decode cX10_remaining 93 = .ok (.iload_n 3, 1) := by decide +kernel
theorem dX10_remaining_94 : decode cX10_remaining 94 = .ok (.dup2, 1) := by decide +kernel
theorem dX10_remaining_95 : decode cX10_remaining 95 = .ok (.iaload, 1) := by decide +kernel
theorem dX10_remaining_96 : decode cX10_remaining 96 = .ok (.iconst 1, 1) := by decide +kernel
theorem dX10_remaining_97 : decode cX10_remaining 97 = .ok (.iload 4, 2) := by decide +kernel
theorem dX10_remaining_99 : decode cX10_remaining 99 = .ok (.ishl, 1) := by decide +kernel
theorem dX10_remaining_100 : decode cX10_remaining 100 = .ok (.iconst (-1), 1) := by decide +kernel
theorem dX10_remaining_101 : decode cX10_remaining 101 = .ok (.ixor, 1) := by decide +kernel
theorem dX10_remaining_102 : decode cX10_remaining 102 = .ok (.iand, 1) := by decide +kernel
theorem dX10_remaining_103 : decode cX10_remaining 103 = .ok (.iastore, 1) := by decide +kernel
theorem dX10_remaining_104 : decode cX10_remaining 104 = .ok (.iconst 1, 1) := by decide +kernel
theorem dX10_remaining_105 : decode cX10_remaining 105 = .ok (.istore_n 2, 1) := by decide +kernel
theorem dX10_remaining_106 : decode cX10_remaining 106 = .ok (.iinc 4 1, 3) := by decide +kernel
theorem dX10_remaining_109 : decode cX10_remaining 109 = .ok (.goto (-56), 3) := by decide +kernel
theorem dX10_remaining_112 : decode cX10_remaining 112 = .ok (.iinc 3 1, 3) := by decide +kernel
theorem dX10_remaining_115 : decode cX10_remaining 115 = .ok (.goto (-73), 3) := by decide +kernel
theorem dX10_remaining_118 : decode cX10_remaining 118 = .ok (.goto (-84), 3) := by decide +kernel
theorem dX10_remaining_121 : decode cX10_remaining 121 = .ok (.aload_n 0, 1) := by decide +kernel
theorem dX10_remaining_122 : decode cX10_remaining 122 = .ok (.getfield 58, 3) := by decide +kernel
theorem dX10_remaining_125 : decode cX10_remaining 125 = .ok (.iload_n 1, 1) := by decide +kernel
theorem dX10_remaining_126 : decode cX10_remaining 126 = .ok (.iaload, 1) := by decide +kernel
theorem dX10_remaining_127 : decode cX10_remaining 127 = .ok (.ireturn, 1) := by decide +kernel
theorem dX10_offered_0 : decode cX10_offered 0 = .ok (.aload_n 0, 1) := by decide +kernel
theorem dX10_offered_1 : decode cX10_offered 1 = .ok (.aload_n 0, 1) := by decide +kernel
theorem dX10_offered_2 : decode cX10_offered 2 = .ok (.iload_n 1, 1) := by decide +kernel
theorem dX10_offered_3 : decode cX10_offered 3 = .ok (.invokevirtual 81, 3) := by decide +kernel
theorem dX10_offered_6 : decode cX10_offered 6 = .ok (.ifCond .eq 7, 3) := by decide +kernel
theorem dX10_offered_9 : decode cX10_offered 9 = .ok (.iconst 0, 1) := by decide +kernel
theorem dX10_offered_10 : decode cX10_offered 10 = .ok (.goto 4, 3) := by decide +kernel
theorem dX10_offered_13 : decode cX10_offered 13 = .ok (.iconst 1, 1) := by decide +kernel
theorem dX10_offered_14 : decode cX10_offered 14 = .ok (.putfield 70, 3) := by decide +kernel
theorem dX10_offered_17 : decode cX10_offered 17 = .ok (.iconst 0, 1) := by decide +kernel
theorem dX10_offered_18 : decode cX10_offered 18 = .ok (.istore_n 2, 1) := by decide +kernel
theorem dX10_offered_19 : decode cX10_offered 19 = .ok (.iconst 0, 1) := by decide +kernel
theorem dX10_offered_20 : decode cX10_offered 20 = .ok (.istore_n 3, 1) := by decide +kernel
theorem dX10_offered_21 : decode cX10_offered 21 = .ok (.aload_n 0, 1) := by decide +kernel
theorem dX10_offered_22 : decode cX10_offered 22 = .ok (.getfield 70, 3) := by decide +kernel
theorem dX10_offered_25 : decode cX10_offered 25 = .ok (.ifCond .ne 38, 3) := by decide +kernel
theorem dX10_offered_28 : decode cX10_offered 28 = .ok (.iload_n 3, 1) := by decide +kernel
theorem dX10_offered_29 : decode cX10_offered 29 = .ok (.aload_n 0, 1) := by decide +kernel
theorem dX10_offered_30 : decode cX10_offered 30 = .ok (.getfield 7, 3) := by decide +kernel
theorem dX10_offered_33 : decode cX10_offered 33 = .ok (.iload_n 1, 1) := by decide +kernel
theorem dX10_offered_34 : decode cX10_offered 34 = .ok (.iaload, 1) := by decide +kernel
theorem dX10_offered_35 : decode cX10_offered 35 = .ok (.if_icmp .ge 28, 3) := by decide +kernel
theorem dX10_offered_38 : decode cX10_offered 38 = .ok (.iload_n 2, 1) := by decide +kernel
theorem dX10_offered_39 : decode cX10_offered 39 = .ok (.aload_n 0, 1) := by decide +kernel
theorem dX10_offered_40 : decode cX10_offered 40 = .ok (.iload_n 1, 1) := by decide +kernel
theorem dX10_offered_41 : decode cX10_offered 41 = .ok (.iload_n 3, 1) := by decide +kernel
theorem dX10_offered_42 : decode cX10_offered 42 = .ok (.invokevirtual 132, 3) := by decide +kernel
theorem dX10_offered_45 : decode cX10_offered 45 = .ok (.ifCond .eq 9, 3) := by decide +kernel
theorem dX10_offered_48 : decode cX10_offered 48 = .ok (.iconst 1, 1) := by decide +kernel
theorem dX10_offered_49 : decode cX10_offered 49 = .ok (.iload_n 3, 1) := by decide +kernel
theorem dX10_offered_50 : decode cX10_offered 50 = .ok (.ishl, 1) := by decide +kernel
theorem dX10_offered_51 : decode cX10_offered 51 = .ok (.goto 4, 3) := by decide +kernel
theorem dX10_offered_54 : decode cX10_offered 54 = .ok (.iconst 0, 1) := by decide +kernel
theorem dX10_offered_55 : decode cX10_offered 55 = .ok (.ior, 1) := by decide +kernel
theorem dX10_offered_56 : decode cX10_offered 56 = .ok (.istore_n 2, 1) := by decide +kernel
theorem dX10_offered_57 : decode cX10_offered 57 = .ok (.iinc 3 1, 3) := by decide +kernel
theorem dX10_offered_60 : decode cX10_offered 60 = .ok (.goto (-39), 3) := by decide +kernel
theorem dX10_offered_63 : decode cX10_offered 63 = .ok (.iload_n 2, 1) := by decide +kernel
theorem dX10_offered_64 : decode cX10_offered 64 = .ok (.ireturn, 1) := by decide +kernel
theorem dX10_many_0 : decode cX10_many 0 = .ok (.aload_n 0, 1) := by decide +kernel
theorem dX10_many_1 : decode cX10_many 1 = .ok (.bipush 63, 2) := by decide +kernel
theorem dX10_many_3 : decode cX10_many 3 = .ok (.invokevirtual 103, 3) := by decide +kernel
theorem dX10_many_6 : decode cX10_many 6 = .ok (.iconst 0, 1) := by decide +kernel
theorem dX10_many_7 : decode cX10_many 7 = .ok (.istore_n 1, 1) := by decide +kernel
theorem dX10_many_8 : decode cX10_many 8 = .ok (.aload_n 0, 1) := by decide +kernel
theorem dX10_many_9 : decode cX10_many 9 = .ok (.aload_n 0, 1) := by decide +kernel
theorem dX10_many_10 : decode cX10_many 10 = .ok (.getfield 111, 3) := by decide +kernel
theorem dX10_many_13 : decode cX10_many 13 = .ok (.iconst 0, 1) := by decide +kernel
theorem dX10_many_14 : decode cX10_many 14 = .ok (.invokevirtual 107, 3) := by decide +kernel
theorem dX10_many_17 : decode cX10_many 17 = .ok (.istore_n 2, 1) := by decide +kernel
theorem dX10_many_18 : decode cX10_many 18 = .ok (.iload_n 2, 1) := by decide +kernel
theorem dX10_many_19 : decode cX10_many 19 = .ok (.ifCond .eq 19, 3) := by decide +kernel
theorem dX10_many_22 : decode cX10_many 22 = .ok (.iinc 1 1, 3) := by decide +kernel
theorem dX10_many_25 : decode cX10_many 25 = .ok (.aload_n 0, 1) := by decide +kernel
theorem dX10_many_26 : decode cX10_many 26 = .ok (.aload_n 0, 1) := by decide +kernel
theorem dX10_many_27 : decode cX10_many 27 = .ok (.getfield 111, 3) := by decide +kernel
theorem dX10_many_30 : decode cX10_many 30 = .ok (.iconst 1, 1) := by decide +kernel
theorem dX10_many_31 : decode cX10_many 31 = .ok (.invokevirtual 107, 3) := by decide +kernel
theorem dX10_many_34 : decode cX10_many 34 = .ok (.istore_n 2, 1) := by decide +kernel
theorem dX10_many_35 : decode cX10_many 35 = .ok (.goto (-17), 3) := by decide +kernel
theorem dX10_many_38 : decode cX10_many 38 = .ok (.iload_n 1, 1) := by decide +kernel
theorem dX10_many_39 : decode cX10_many 39 = .ok (.ireturn, 1) := by decide +kernel
theorem dX10_count_0 : decode cX10_count 0 = .ok (.aload_n 0, 1) := by decide +kernel
theorem dX10_count_1 : decode cX10_count 1 = .ok (.iconst 0, 1) := by decide +kernel
theorem dX10_count_2 : decode cX10_count 2 = .ok (.putfield 70, 3) := by decide +kernel
theorem dX10_count_5 : decode cX10_count 5 = .ok (.aload_n 0, 1) := by decide +kernel
theorem dX10_count_6 : decode cX10_count 6 = .ok (.invokevirtual 165, 3) := by decide +kernel
theorem dX10_count_9 : decode cX10_count 9 = .ok (.ireturn, 1) := by decide +kernel
theorem dX10_countByTrying_0 : decode cX10_countByTrying 0 = .ok (.aload_n 0, 1) := by decide +kernel
theorem dX10_countByTrying_1 : decode cX10_countByTrying 1 = .ok (.iconst 0, 1) := by decide +kernel
theorem dX10_countByTrying_2 : decode cX10_countByTrying 2 = .ok (.putfield 70, 3) := by decide +kernel
theorem dX10_countByTrying_5 : decode cX10_countByTrying 5 = .ok (.aload_n 0, 1) := by decide +kernel
theorem dX10_countByTrying_6 : decode cX10_countByTrying 6 = .ok (.invokevirtual 165, 3) := by decide +kernel
theorem dX10_countByTrying_9 : decode cX10_countByTrying 9 = .ok (.ireturn, 1) := by decide +kernel
theorem dX10_behind_0 : decode cX10_behind 0 = .ok (.iconst 0, 1) := by decide +kernel
theorem dX10_behind_1 : decode cX10_behind 1 = .ok (.istore 4, 2) := by decide +kernel
theorem dX10_behind_3 : decode cX10_behind 3 = .ok (.iload_n 2, 1) := by decide +kernel
theorem dX10_behind_4 : decode cX10_behind 4 = .ok (.iconst 1, 1) := by decide +kernel
theorem dX10_behind_5 : decode cX10_behind 5 = .ok (.iadd, 1) := by decide +kernel
theorem dX10_behind_6 : decode cX10_behind 6 = .ok (.istore 5, 2) := by decide +kernel
theorem dX10_behind_8 : decode cX10_behind 8 = .ok (.iload 5, 2) := by decide +kernel
theorem dX10_behind_10 : decode cX10_behind 10 = .ok (.aload_n 0, 1) := by decide +kernel
theorem dX10_behind_11 : decode cX10_behind 11 = .ok (.getfield 74, 3) := by decide +kernel
theorem dX10_behind_14 : decode cX10_behind 14 = .ok (.if_icmp .ge 48, 3) := by decide +kernel
theorem dX10_behind_17 : decode cX10_behind 17 = .ok (.iload_n 1, 1) := by decide +kernel
theorem dX10_behind_18 : decode cX10_behind 18 = .ok (.iconst 5, 1) := by decide +kernel
theorem dX10_behind_19 : decode cX10_behind 19 = .ok (.iload 5, 2) := by decide +kernel
theorem dX10_behind_21 : decode cX10_behind 21 = .ok (.imul, 1) := by decide +kernel
theorem dX10_behind_22 : decode cX10_behind 22 = .ok (.ishr, 1) := by decide +kernel
theorem dX10_behind_23 : decode cX10_behind 23 = .ok (.bipush 31, 2) := by decide +kernel
theorem dX10_behind_25 : decode cX10_behind 25 = .ok (.iand, 1) := by decide +kernel
theorem dX10_behind_26 : decode cX10_behind 26 = .ok (.aload_n 0, 1) := by decide +kernel
theorem dX10_behind_27 : decode cX10_behind 27 = .ok (.iload_n 2, 1) := by decide +kernel
theorem dX10_behind_28 : decode cX10_behind 28 = .ok (.iload_n 3, 1) := by decide +kernel
theorem dX10_behind_29 : decode cX10_behind 29 = .ok (.iload 5, 2) := by decide +kernel
theorem dX10_behind_31 : decode cX10_behind 31 = .ok (.invokevirtual 158, 3) := by decide +kernel
theorem dX10_behind_34 : decode cX10_behind 34 = .ok (.iand, 1) := by decide +kernel
theorem dX10_behind_35 : decode cX10_behind 35 = .ok (.istore 6, 2) := by decide +kernel
theorem dX10_behind_37 : decode cX10_behind 37 = .ok (.iload 6, 2) := by decide +kernel
theorem dX10_behind_39 : decode cX10_behind 39 = .ok (.ifCond .ne 5, 3) := by decide +kernel
theorem dX10_behind_42 : decode cX10_behind 42 = .ok (.iconst (-1), 1) := by decide +kernel
theorem dX10_behind_43 : decode cX10_behind 43 = .ok (.ireturn, 1) := by decide +kernel
theorem dX10_behind_44 : decode cX10_behind 44 = .ok (.iload 4, 2) := by decide +kernel
theorem dX10_behind_46 : decode cX10_behind 46 = .ok (.iload 6, 2) := by decide +kernel
theorem dX10_behind_48 : decode cX10_behind 48 = .ok (.iconst 5, 1) := by decide +kernel
theorem dX10_behind_49 : decode cX10_behind 49 = .ok (.iload 5, 2) := by decide +kernel
theorem dX10_behind_51 : decode cX10_behind 51 = .ok (.imul, 1) := by decide +kernel
theorem dX10_behind_52 : decode cX10_behind 52 = .ok (.ishl, 1) := by decide +kernel
theorem dX10_behind_53 : decode cX10_behind 53 = .ok (.ior, 1) := by decide +kernel
theorem dX10_behind_54 : decode cX10_behind 54 = .ok (.istore 4, 2) := by decide +kernel
theorem dX10_behind_56 : decode cX10_behind 56 = .ok (.iinc 5 1, 3) := by decide +kernel
theorem dX10_behind_59 : decode cX10_behind 59 = .ok (.goto (-51), 3) := by decide +kernel
theorem dX10_behind_62 : decode cX10_behind 62 = .ok (.iload 4, 2) := by decide +kernel
theorem dX10_behind_64 : decode cX10_behind 64 = .ok (.ireturn, 1) := by decide +kernel
theorem dX10_isIn_0 : decode cX10_isIn 0 = .ok (.iconst 0, 1) := by decide +kernel
theorem dX10_isIn_1 : decode cX10_isIn 1 = .ok (.istore_n 3, 1) := by decide +kernel
theorem dX10_isIn_2 : decode cX10_isIn 2 = .ok (.iconst 0, 1) := by decide +kernel
theorem dX10_isIn_3 : decode cX10_isIn 3 = .ok (.istore 4, 2) := by decide +kernel
theorem dX10_isIn_5 : decode cX10_isIn 5 = .ok (.iload 4, 2) := by decide +kernel
theorem dX10_isIn_7 : decode cX10_isIn 7 = .ok (.iload_n 2, 1) := by decide +kernel
theorem dX10_isIn_8 : decode cX10_isIn 8 = .ok (.if_icmp .ge 30, 3) := by decide +kernel
theorem dX10_isIn_11 : decode cX10_isIn 11 = .ok (.iload_n 3, 1) := by decide +kernel
theorem dX10_isIn_12 : decode cX10_isIn 12 = .ok (.ifCond .ne 14, 3) := by decide +kernel
theorem dX10_isIn_15 : decode cX10_isIn 15 = .ok (.aload_n 0, 1) := by decide +kernel
theorem dX10_isIn_16 : decode cX10_isIn 16 = .ok (.getfield 67, 3) := by decide +kernel
theorem dX10_isIn_19 : decode cX10_isIn 19 = .ok (.iload 4, 2) := by decide +kernel
theorem dX10_isIn_21 : decode cX10_isIn 21 = .ok (.iaload, 1) := by decide +kernel
theorem dX10_isIn_22 : decode cX10_isIn 22 = .ok (.iload_n 1, 1) := by decide +kernel
theorem dX10_isIn_23 : decode cX10_isIn 23 = .ok (.if_icmp .ne 7, 3) := by decide +kernel
theorem dX10_isIn_26 : decode cX10_isIn 26 = .ok (.iconst 1, 1) := by decide +kernel
theorem dX10_isIn_27 : decode cX10_isIn 27 = .ok (.goto 4, 3) := by decide +kernel
theorem dX10_isIn_30 : decode cX10_isIn 30 = .ok (.iconst 0, 1) := by decide +kernel
theorem dX10_isIn_31 : decode cX10_isIn 31 = .ok (.istore_n 3, 1) := by decide +kernel
theorem dX10_isIn_32 : decode cX10_isIn 32 = .ok (.iinc 4 1, 3) := by decide +kernel
theorem dX10_isIn_35 : decode cX10_isIn 35 = .ok (.goto (-30), 3) := by decide +kernel
theorem dX10_isIn_38 : decode cX10_isIn 38 = .ok (.iload_n 3, 1) := by decide +kernel
theorem dX10_isIn_39 : decode cX10_isIn 39 = .ok (.ireturn, 1) := by decide +kernel
theorem dX10_nodes_0 : decode cX10_nodes 0 = .ok (.aload_n 0, 1) := by decide +kernel
theorem dX10_nodes_1 : decode cX10_nodes 1 = .ok (.iconst 0, 1) := by decide +kernel
theorem dX10_nodes_2 : decode cX10_nodes 2 = .ok (.putfield 70, 3) := by decide +kernel
theorem dX10_nodes_5 : decode cX10_nodes 5 = .ok (.aload_n 0, 1) := by decide +kernel
theorem dX10_nodes_6 : decode cX10_nodes 6 = .ok (.bipush 63, 2) := by decide +kernel
theorem dX10_nodes_8 : decode cX10_nodes 8 = .ok (.invokevirtual 103, 3) := by decide +kernel
theorem dX10_nodes_11 : decode cX10_nodes 11 = .ok (.aload_n 0, 1) := by decide +kernel
theorem dX10_nodes_12 : decode cX10_nodes 12 = .ok (.getfield 64, 3) := by decide +kernel
theorem dX10_nodes_15 : decode cX10_nodes 15 = .ok (.iconst 0, 1) := by decide +kernel
theorem dX10_nodes_16 : decode cX10_nodes 16 = .ok (.iconst 0, 1) := by decide +kernel
theorem dX10_nodes_17 : decode cX10_nodes 17 = .ok (.iastore, 1) := by decide +kernel
theorem dX10_nodes_18 : decode cX10_nodes 18 = .ok (.iconst 0, 1) := by decide +kernel
theorem dX10_nodes_19 : decode cX10_nodes 19 = .ok (.istore_n 1, 1) := by decide +kernel
theorem dX10_nodes_20 : decode cX10_nodes 20 = .ok (.iload_n 1, 1) := by decide +kernel
theorem dX10_nodes_21 : decode cX10_nodes 21 = .ok (.aload_n 0, 1) := by decide +kernel
theorem dX10_nodes_22 : decode cX10_nodes 22 = .ok (.getfield 74, 3) := by decide +kernel
theorem dX10_nodes_25 : decode cX10_nodes 25 = .ok (.if_icmp .ge 28, 3) := by decide +kernel
theorem dX10_nodes_28 : decode cX10_nodes 28 = .ok (.aload_n 0, 1) := by decide +kernel
theorem dX10_nodes_29 : decode cX10_nodes 29 = .ok (.getfield 64, 3) := by decide +kernel
theorem dX10_nodes_32 : decode cX10_nodes 32 = .ok (.iconst 0, 1) := by decide +kernel
theorem dX10_nodes_33 : decode cX10_nodes 33 = .ok (.dup2, 1) := by decide +kernel
theorem dX10_nodes_34 : decode cX10_nodes 34 = .ok (.iaload, 1) := by decide +kernel
theorem dX10_nodes_35 : decode cX10_nodes 35 = .ok (.aload_n 0, 1) := by decide +kernel
theorem dX10_nodes_36 : decode cX10_nodes 36 = .ok (.getfield 58, 3) := by decide +kernel
theorem dX10_nodes_39 : decode cX10_nodes 39 = .ok (.iload_n 1, 1) := by decide +kernel
theorem dX10_nodes_40 : decode cX10_nodes 40 = .ok (.iaload, 1) := by decide +kernel
theorem dX10_nodes_41 : decode cX10_nodes 41 = .ok (.iconst 5, 1) := by decide +kernel
theorem dX10_nodes_42 : decode cX10_nodes 42 = .ok (.iload_n 1, 1) := by decide +kernel
theorem dX10_nodes_43 : decode cX10_nodes 43 = .ok (.imul, 1) := by decide +kernel
theorem dX10_nodes_44 : decode cX10_nodes 44 = .ok (.ishl, 1) := by decide +kernel
theorem dX10_nodes_45 : decode cX10_nodes 45 = .ok (.ior, 1) := by decide +kernel
theorem dX10_nodes_46 : decode cX10_nodes 46 = .ok (.iastore, 1) := by decide +kernel
theorem dX10_nodes_47 : decode cX10_nodes 47 = .ok (.iinc 1 1, 3) := by decide +kernel
theorem dX10_nodes_50 : decode cX10_nodes 50 = .ok (.goto (-30), 3) := by decide +kernel
theorem dX10_nodes_53 : decode cX10_nodes 53 = .ok (.iconst 1, 1) := by decide +kernel
theorem dX10_nodes_54 : decode cX10_nodes 54 = .ok (.istore_n 1, 1) := by decide +kernel
theorem dX10_nodes_55 : decode cX10_nodes 55 = .ok (.iconst 1, 1) := by decide +kernel
theorem dX10_nodes_56 : decode cX10_nodes 56 = .ok (.istore_n 2, 1) := by decide +kernel
theorem dX10_nodes_57 : decode cX10_nodes 57 = .ok (.iconst 0, 1) := by decide +kernel
theorem dX10_nodes_58 : decode cX10_nodes 58 = .ok (.istore_n 3, 1) := by decide +kernel
theorem dX10_nodes_59 : decode cX10_nodes 59 = .ok (.iload_n 3, 1) := by decide +kernel
theorem dX10_nodes_60 : decode cX10_nodes 60 = .ok (.aload_n 0, 1) := by decide +kernel
theorem dX10_nodes_61 : decode cX10_nodes 61 = .ok (.getfield 74, 3) := by decide +kernel
theorem dX10_nodes_64 : decode cX10_nodes 64 = .ok (.if_icmp .ge 154, 3) := by decide +kernel
theorem dX10_nodes_67 : decode cX10_nodes 67 = .ok (.iconst 0, 1) := by decide +kernel
theorem dX10_nodes_68 : decode cX10_nodes 68 = .ok (.istore 4, 2) := by decide +kernel
theorem dX10_nodes_70 : decode cX10_nodes 70 = .ok (.iconst 0, 1) := by decide +kernel
theorem dX10_nodes_71 : decode cX10_nodes 71 = .ok (.istore 5, 2) := by decide +kernel
theorem dX10_nodes_73 : decode cX10_nodes 73 = .ok (.iload 5, 2) := by decide +kernel
theorem dX10_nodes_75 : decode cX10_nodes 75 = .ok (.iload_n 1, 1) := by decide +kernel
theorem dX10_nodes_76 : decode cX10_nodes 76 = .ok (.if_icmp .ge 98, 3) := by decide +kernel
theorem dX10_nodes_79 : decode cX10_nodes 79 = .ok (.iconst 0, 1) := by decide +kernel
theorem dX10_nodes_80 : decode cX10_nodes 80 = .ok (.istore 6, 2) := by decide +kernel
theorem dX10_nodes_82 : decode cX10_nodes 82 = .ok (.iload 6, 2) := by decide +kernel
theorem dX10_nodes_84 : decode cX10_nodes 84 = .ok (.aload_n 0, 1) := by decide +kernel
theorem dX10_nodes_85 : decode cX10_nodes 85 = .ok (.getfield 7, 3) := by decide +kernel
theorem dX10_nodes_88 : decode cX10_nodes 88 = .ok (.iload_n 3, 1) := by decide +kernel
theorem dX10_nodes_89 : decode cX10_nodes 89 = .ok (.iaload, 1) := by decide +kernel
theorem dX10_nodes_90 : decode cX10_nodes 90 = .ok (.if_icmp .ge 78, 3) := by decide +kernel
theorem dX10_nodes_93 : decode cX10_nodes 93 = .ok (.aload_n 0, 1) := by decide +kernel
theorem dX10_nodes_94 : decode cX10_nodes 94 = .ok (.getfield 64, 3) := by decide +kernel
theorem dX10_nodes_97 : decode cX10_nodes 97 = .ok (.iload 5, 2) := by decide +kernel
theorem dX10_nodes_99 : decode cX10_nodes 99 = .ok (.iaload, 1) := by decide +kernel
theorem dX10_nodes_100 : decode cX10_nodes 100 = .ok (.iconst 5, 1) := by decide +kernel
theorem dX10_nodes_101 : decode cX10_nodes 101 = .ok (.iload_n 3, 1) := by decide +kernel
theorem dX10_nodes_102 : decode cX10_nodes 102 = .ok (.imul, 1) := by decide +kernel
theorem dX10_nodes_103 : decode cX10_nodes 103 = .ok (.iload 6, 2) := by decide +kernel
theorem dX10_nodes_105 : decode cX10_nodes 105 = .ok (.iadd, 1) := by decide +kernel
theorem dX10_nodes_106 : decode cX10_nodes 106 = .ok (.ishr, 1) := by decide +kernel
theorem dX10_nodes_107 : decode cX10_nodes 107 = .ok (.iconst 1, 1) := by decide +kernel
theorem dX10_nodes_108 : decode cX10_nodes 108 = .ok (.iand, 1) := by decide +kernel
theorem dX10_nodes_109 : decode cX10_nodes 109 = .ok (.iconst 1, 1) := by decide +kernel
theorem dX10_nodes_110 : decode cX10_nodes 110 = .ok (.if_icmp .ne 20, 3) := by decide +kernel
theorem dX10_nodes_113 : decode cX10_nodes 113 = .ok (.aload_n 0, 1) := by decide +kernel
theorem dX10_nodes_114 : decode cX10_nodes 114 = .ok (.aload_n 0, 1) := by decide +kernel
theorem dX10_nodes_115 : decode cX10_nodes 115 = .ok (.getfield 64, 3) := by decide +kernel
theorem dX10_nodes_118 : decode cX10_nodes 118 = .ok (.iload 5, 2) := by decide +kernel
theorem dX10_nodes_120 : decode cX10_nodes 120 = .ok (.iaload, 1) := by decide +kernel
theorem dX10_nodes_121 : decode cX10_nodes 121 = .ok (.iload_n 3, 1) := by decide +kernel
theorem dX10_nodes_122 : decode cX10_nodes 122 = .ok (.iload 6, 2) := by decide +kernel
theorem dX10_nodes_124 : decode cX10_nodes 124 = .ok (.invokevirtual 169, 3) := by decide +kernel
theorem dX10_nodes_127 : decode cX10_nodes 127 = .ok (.goto 4, 3) := by decide +kernel
theorem dX10_nodes_130 : decode cX10_nodes 130 = .ok (.iconst (-1), 1) := by decide +kernel
theorem dX10_nodes_131 : decode cX10_nodes 131 = .ok (.istore 7, 2) := by decide +kernel
theorem dX10_nodes_133 : decode cX10_nodes 133 = .ok (.iload 7, 2) := by decide +kernel
theorem dX10_nodes_135 : decode cX10_nodes 135 = .ok (.iconst (-1), 1) := by decide +kernel
theorem dX10_nodes_136 : decode cX10_nodes 136 = .ok (.if_icmp .eq 26, 3) := by decide +kernel
theorem dX10_nodes_139 : decode cX10_nodes 139 = .ok (.aload_n 0, 1) := by decide +kernel
theorem dX10_nodes_140 : decode cX10_nodes 140 = .ok (.iload 7, 2) := by decide +kernel
theorem dX10_nodes_142 : decode cX10_nodes 142 = .ok (.iload 4, 2) := by decide +kernel
theorem dX10_nodes_144 : decode cX10_nodes 144 = .ok (.invokevirtual 172, 3) := by decide +kernel
theorem dX10_nodes_147 : decode cX10_nodes 147 = .ok (.ifCond .ne 15, 3) := by decide +kernel
theorem dX10_nodes_150 : decode cX10_nodes 150 = .ok (.aload_n 0, 1) := by decide +kernel
theorem dX10_nodes_151 : decode cX10_nodes 151 = .ok (.getfield 67, 3) := by decide +kernel
theorem dX10_nodes_154 : decode cX10_nodes 154 = .ok (.iload 4, 2) := by decide +kernel
theorem dX10_nodes_156 : decode cX10_nodes 156 = .ok (.iload 7, 2) := by decide +kernel
theorem dX10_nodes_158 : decode cX10_nodes 158 = .ok (.iastore, 1) := by decide +kernel
theorem dX10_nodes_159 : decode cX10_nodes 159 = .ok (.iinc 4 1, 3) := by decide +kernel
theorem dX10_nodes_162 : decode cX10_nodes 162 = .ok (.iinc 6 1, 3) := by decide +kernel
theorem dX10_nodes_165 : decode cX10_nodes 165 = .ok (.goto (-83), 3) := by decide +kernel
theorem dX10_nodes_168 : decode cX10_nodes 168 = .ok (.iinc 5 1, 3) := by decide +kernel
theorem dX10_nodes_171 : decode cX10_nodes 171 = .ok (.goto (-98), 3) := by decide +kernel
theorem dX10_nodes_174 : decode cX10_nodes 174 = .ok (.iconst 0, 1) := by decide +kernel
theorem dX10_nodes_175 : decode cX10_nodes 175 = .ok (.istore 5, 2) := by decide +kernel
theorem dX10_nodes_177 : decode cX10_nodes 177 = .ok (.iload 5, 2) := by decide +kernel
theorem dX10_nodes_179 : decode cX10_nodes 179 = .ok (.iload 4, 2) := by decide +kernel
theorem dX10_nodes_181 : decode cX10_nodes 181 = .ok (.if_icmp .ge 23, 3) := by decide +kernel
theorem dX10_nodes_184 : decode cX10_nodes 184 = .ok (.aload_n 0, 1) := by decide +kernel
theorem dX10_nodes_185 : decode cX10_nodes 185 = .ok (.getfield 64, 3) := by decide +kernel
theorem dX10_nodes_188 : decode cX10_nodes 188 = .ok (.iload 5, 2) := by decide +kernel
theorem dX10_nodes_190 : decode cX10_nodes 190 = .ok (.aload_n 0, 1) := by decide +kernel
theorem dX10_nodes_191 : decode cX10_nodes 191 = .ok (.getfield 67, 3) := by decide +kernel
theorem dX10_nodes_194 : decode cX10_nodes 194 = .ok (.iload 5, 2) := by decide +kernel
theorem dX10_nodes_196 : decode cX10_nodes 196 = .ok (.iaload, 1) := by decide +kernel
theorem dX10_nodes_197 : decode cX10_nodes 197 = .ok (.iastore, 1) := by decide +kernel
theorem dX10_nodes_198 : decode cX10_nodes 198 = .ok (.iinc 5 1, 3) := by decide +kernel
theorem dX10_nodes_201 : decode cX10_nodes 201 = .ok (.goto (-24), 3) := by decide +kernel
theorem dX10_nodes_204 : decode cX10_nodes 204 = .ok (.iload 4, 2) := by decide +kernel
theorem dX10_nodes_206 : decode cX10_nodes 206 = .ok (.istore_n 1, 1) := by decide +kernel
theorem dX10_nodes_207 : decode cX10_nodes 207 = .ok (.iload_n 2, 1) := by decide +kernel
theorem dX10_nodes_208 : decode cX10_nodes 208 = .ok (.iload 4, 2) := by decide +kernel
theorem dX10_nodes_210 : decode cX10_nodes 210 = .ok (.iadd, 1) := by decide +kernel
theorem dX10_nodes_211 : decode cX10_nodes 211 = .ok (.istore_n 2, 1) := by decide +kernel
theorem dX10_nodes_212 : decode cX10_nodes 212 = .ok (.iinc 3 1, 3) := by decide +kernel
theorem dX10_nodes_215 : decode cX10_nodes 215 = .ok (.goto (-156), 3) := by decide +kernel
theorem dX10_nodes_218 : decode cX10_nodes 218 = .ok (.iload_n 2, 1) := by decide +kernel
theorem dX10_nodes_219 : decode cX10_nodes 219 = .ok (.ireturn, 1) := by decide +kernel
theorem dX10_errorOfWhy_0 : decode cX10_errorOfWhy 0 = .ok (.aload_n 0, 1) := by decide +kernel
theorem dX10_errorOfWhy_1 : decode cX10_errorOfWhy 1 = .ok (.iload_n 1, 1) := by decide +kernel
theorem dX10_errorOfWhy_2 : decode cX10_errorOfWhy 2 = .ok (.iload_n 2, 1) := by decide +kernel
theorem dX10_errorOfWhy_3 : decode cX10_errorOfWhy 3 = .ok (.invokevirtual 114, 3) := by decide +kernel
theorem dX10_errorOfWhy_6 : decode cX10_errorOfWhy 6 = .ok (.ifCond .ne 7, 3) := by decide +kernel
theorem dX10_errorOfWhy_9 : decode cX10_errorOfWhy 9 = .ok (.iconst 1, 1) := by decide +kernel
theorem dX10_errorOfWhy_10 : decode cX10_errorOfWhy 10 = .ok (.goto 17, 3) := by decide +kernel
theorem dX10_errorOfWhy_13 : decode cX10_errorOfWhy 13 = .ok (.aload_n 0, 1) := by decide +kernel
theorem dX10_errorOfWhy_14 : decode cX10_errorOfWhy 14 = .ok (.iload_n 1, 1) := by decide +kernel
theorem dX10_errorOfWhy_15 : decode cX10_errorOfWhy 15 = .ok (.iload_n 2, 1) := by decide +kernel
theorem dX10_errorOfWhy_16 : decode cX10_errorOfWhy 16 = .ok (.invokevirtual 152, 3) := by decide +kernel
theorem dX10_errorOfWhy_19 : decode cX10_errorOfWhy 19 = .ok (.ifCond .eq 7, 3) := by decide +kernel
theorem dX10_errorOfWhy_22 : decode cX10_errorOfWhy 22 = .ok (.iconst 0, 1) := by decide +kernel
theorem dX10_errorOfWhy_23 : decode cX10_errorOfWhy 23 = .ok (.goto 4, 3) := by decide +kernel
theorem dX10_errorOfWhy_26 : decode cX10_errorOfWhy 26 = .ok (.iconst 2, 1) := by decide +kernel
theorem dX10_errorOfWhy_27 : decode cX10_errorOfWhy 27 = .ok (.ireturn, 1) := by decide +kernel
theorem dX10_whyByRules_0 : decode cX10_whyByRules 0 = .ok (.aload_n 0, 1) := by decide +kernel
theorem dX10_whyByRules_1 : decode cX10_whyByRules 1 = .ok (.aload_n 0, 1) := by decide +kernel
theorem dX10_whyByRules_2 : decode cX10_whyByRules 2 = .ok (.iload_n 1, 1) := by decide +kernel
theorem dX10_whyByRules_3 : decode cX10_whyByRules 3 = .ok (.iload_n 2, 1) := by decide +kernel
theorem dX10_whyByRules_4 : decode cX10_whyByRules 4 = .ok (.invokevirtual 175, 3) := by decide +kernel
theorem dX10_whyByRules_7 : decode cX10_whyByRules 7 = .ok (.putfield 70, 3) := by decide +kernel
theorem dX10_whyByRules_10 : decode cX10_whyByRules 10 = .ok (.aload_n 0, 1) := by decide +kernel
theorem dX10_whyByRules_11 : decode cX10_whyByRules 11 = .ok (.getfield 70, 3) := by decide +kernel
theorem dX10_whyByRules_14 : decode cX10_whyByRules 14 = .ok (.ifCond .le 7, 3) := by decide +kernel
theorem dX10_whyByRules_17 : decode cX10_whyByRules 17 = .ok (.iconst 0, 1) := by decide +kernel
theorem dX10_whyByRules_18 : decode cX10_whyByRules 18 = .ok (.goto 7, 3) := by decide +kernel
theorem dX10_whyByRules_21 : decode cX10_whyByRules 21 = .ok (.aload_n 0, 1) := by decide +kernel
theorem dX10_whyByRules_22 : decode cX10_whyByRules 22 = .ok (.getfield 142, 3) := by decide +kernel
theorem dX10_whyByRules_25 : decode cX10_whyByRules 25 = .ok (.ireturn, 1) := by decide +kernel
theorem dX10_whyByChoices_0 : decode cX10_whyByChoices 0 = .ok (.aload_n 0, 1) := by decide +kernel
theorem dX10_whyByChoices_1 : decode cX10_whyByChoices 1 = .ok (.aload_n 0, 1) := by decide +kernel
theorem dX10_whyByChoices_2 : decode cX10_whyByChoices 2 = .ok (.iload_n 1, 1) := by decide +kernel
theorem dX10_whyByChoices_3 : decode cX10_whyByChoices 3 = .ok (.iload_n 2, 1) := by decide +kernel
theorem dX10_whyByChoices_4 : decode cX10_whyByChoices 4 = .ok (.invokevirtual 175, 3) := by decide +kernel
theorem dX10_whyByChoices_7 : decode cX10_whyByChoices 7 = .ok (.putfield 70, 3) := by decide +kernel
theorem dX10_whyByChoices_10 : decode cX10_whyByChoices 10 = .ok (.aload_n 0, 1) := by decide +kernel
theorem dX10_whyByChoices_11 : decode cX10_whyByChoices 11 = .ok (.getfield 70, 3) := by decide +kernel
theorem dX10_whyByChoices_14 : decode cX10_whyByChoices 14 = .ok (.ifCond .le 7, 3) := by decide +kernel
theorem dX10_whyByChoices_17 : decode cX10_whyByChoices 17 = .ok (.iconst 0, 1) := by decide +kernel
theorem dX10_whyByChoices_18 : decode cX10_whyByChoices 18 = .ok (.goto 7, 3) := by decide +kernel
theorem dX10_whyByChoices_21 : decode cX10_whyByChoices 21 = .ok (.aload_n 0, 1) := by decide +kernel
theorem dX10_whyByChoices_22 : decode cX10_whyByChoices 22 = .ok (.getfield 145, 3) := by decide +kernel
theorem dX10_whyByChoices_25 : decode cX10_whyByChoices 25 = .ok (.ireturn, 1) := by decide +kernel
theorem dX10_costs_0 : decode cX10_costs 0 = .ok (.iconst 0, 1) := by decide +kernel
theorem dX10_costs_1 : decode cX10_costs 1 = .ok (.istore_n 1, 1) := by decide +kernel
theorem dX10_costs_2 : decode cX10_costs 2 = .ok (.iconst 0, 1) := by decide +kernel
theorem dX10_costs_3 : decode cX10_costs 3 = .ok (.istore_n 2, 1) := by decide +kernel
theorem dX10_costs_4 : decode cX10_costs 4 = .ok (.iload_n 2, 1) := by decide +kernel
theorem dX10_costs_5 : decode cX10_costs 5 = .ok (.aload_n 0, 1) := by decide +kernel
theorem dX10_costs_6 : decode cX10_costs 6 = .ok (.getfield 74, 3) := by decide +kernel
theorem dX10_costs_9 : decode cX10_costs 9 = .ok (.if_icmp .ge 27, 3) := by decide +kernel
theorem dX10_costs_12 : decode cX10_costs 12 = .ok (.iload_n 1, 1) := by decide +kernel
theorem dX10_costs_13 : decode cX10_costs 13 = .ok (.aload_n 0, 1) := by decide +kernel
theorem dX10_costs_14 : decode cX10_costs 14 = .ok (.getfield 28, 3) := by decide +kernel
theorem dX10_costs_17 : decode cX10_costs 17 = .ok (.iconst 5, 1) := by decide +kernel
theorem dX10_costs_18 : decode cX10_costs 18 = .ok (.iload_n 2, 1) := by decide +kernel
theorem dX10_costs_19 : decode cX10_costs 19 = .ok (.imul, 1) := by decide +kernel
theorem dX10_costs_20 : decode cX10_costs 20 = .ok (.aload_n 0, 1) := by decide +kernel
theorem dX10_costs_21 : decode cX10_costs 21 = .ok (.getfield 61, 3) := by decide +kernel
theorem dX10_costs_24 : decode cX10_costs 24 = .ok (.iload_n 2, 1) := by decide +kernel
theorem dX10_costs_25 : decode cX10_costs 25 = .ok (.iaload, 1) := by decide +kernel
theorem dX10_costs_26 : decode cX10_costs 26 = .ok (.iadd, 1) := by decide +kernel
theorem dX10_costs_27 : decode cX10_costs 27 = .ok (.iaload, 1) := by decide +kernel
theorem dX10_costs_28 : decode cX10_costs 28 = .ok (.iadd, 1) := by decide +kernel
theorem dX10_costs_29 : decode cX10_costs 29 = .ok (.istore_n 1, 1) := by decide +kernel
theorem dX10_costs_30 : decode cX10_costs 30 = .ok (.iinc 2 1, 3) := by decide +kernel
theorem dX10_costs_33 : decode cX10_costs 33 = .ok (.goto (-29), 3) := by decide +kernel
theorem dX10_costs_36 : decode cX10_costs 36 = .ok (.iconst 0, 1) := by decide +kernel
theorem dX10_costs_37 : decode cX10_costs 37 = .ok (.istore_n 2, 1) := by decide +kernel
theorem dX10_costs_38 : decode cX10_costs 38 = .ok (.iload_n 2, 1) := by decide +kernel
theorem dX10_costs_39 : decode cX10_costs 39 = .ok (.aload_n 0, 1) := by decide +kernel
theorem dX10_costs_40 : decode cX10_costs 40 = .ok (.getfield 123, 3) := by decide +kernel
theorem dX10_costs_43 : decode cX10_costs 43 = .ok (.if_icmp .ge 62, 3) := by decide +kernel
theorem dX10_costs_46 : decode cX10_costs 46 = .ok (.iload_n 1, 1) := by decide +kernel
theorem dX10_costs_47 : decode cX10_costs 47 = .ok (.aload_n 0, 1) := by decide +kernel
theorem dX10_costs_48 : decode cX10_costs 48 = .ok (.getfield 61, 3) := by decide +kernel
theorem dX10_costs_51 : decode cX10_costs 51 = .ok (.aload_n 0, 1) := by decide +kernel
theorem dX10_costs_52 : decode cX10_costs 52 = .ok (.getfield 31, 3) := by decide +kernel
theorem dX10_costs_55 : decode cX10_costs 55 = .ok (.iload_n 2, 1) := by decide +kernel
theorem dX10_costs_56 : decode cX10_costs 56 = .ok (.iaload, 1) := by decide +kernel
theorem dX10_costs_57 : decode cX10_costs 57 = .ok (.iaload, 1) := by decide +kernel
theorem dX10_costs_58 : decode cX10_costs 58 = .ok (.aload_n 0, 1) := by decide +kernel
theorem dX10_costs_59 : decode cX10_costs 59 = .ok (.getfield 34, 3) := by decide +kernel
theorem dX10_costs_62 : decode cX10_costs 62 = .ok (.iload_n 2, 1) := by decide +kernel
theorem dX10_costs_63 : decode cX10_costs 63 = .ok (.iaload, 1) := by decide +kernel
theorem dX10_costs_64 : decode cX10_costs 64 = .ok (.if_icmp .ne 32, 3) := by decide +kernel
theorem dX10_costs_67 : decode cX10_costs 67 = .ok (.aload_n 0, 1) := by decide +kernel
theorem dX10_costs_68 : decode cX10_costs 68 = .ok (.getfield 61, 3) := by decide +kernel
theorem dX10_costs_71 : decode cX10_costs 71 = .ok (.aload_n 0, 1) := by decide +kernel
theorem dX10_costs_72 : decode cX10_costs 72 = .ok (.getfield 37, 3) := by decide +kernel
theorem dX10_costs_75 : decode cX10_costs 75 = .ok (.iload_n 2, 1) := by decide +kernel
theorem dX10_costs_76 : decode cX10_costs 76 = .ok (.iaload, 1) := by decide +kernel
theorem dX10_costs_77 : decode cX10_costs 77 = .ok (.iaload, 1) := by decide +kernel
theorem dX10_costs_78 : decode cX10_costs 78 = .ok (.aload_n 0, 1) := by decide +kernel
theorem dX10_costs_79 : decode cX10_costs 79 = .ok (.getfield 40, 3) := by decide +kernel
theorem dX10_costs_82 : decode cX10_costs 82 = .ok (.iload_n 2, 1) := by decide +kernel
theorem dX10_costs_83 : decode cX10_costs 83 = .ok (.iaload, 1) := by decide +kernel
theorem dX10_costs_84 : decode cX10_costs 84 = .ok (.if_icmp .ne 12, 3) := by decide +kernel
theorem dX10_costs_87 : decode cX10_costs 87 = .ok (.aload_n 0, 1) := by decide +kernel
theorem dX10_costs_88 : decode cX10_costs 88 = .ok (.getfield 43, 3) := by decide +kernel
theorem dX10_costs_91 : decode cX10_costs 91 = .ok (.iload_n 2, 1) := by decide +kernel
theorem dX10_costs_92 : decode cX10_costs 92 = .ok (.iaload, 1) := by decide +kernel
theorem dX10_costs_93 : decode cX10_costs 93 = .ok (.goto 4, 3) := by decide +kernel
theorem dX10_costs_96 : decode cX10_costs 96 = .ok (.iconst 0, 1) := by decide +kernel
theorem dX10_costs_97 : decode cX10_costs 97 = .ok (.iadd, 1) := by decide +kernel
theorem dX10_costs_98 : decode cX10_costs 98 = .ok (.istore_n 1, 1) := by decide +kernel
theorem dX10_costs_99 : decode cX10_costs 99 = .ok (.iinc 2 1, 3) := by decide +kernel
theorem dX10_costs_102 : decode cX10_costs 102 = .ok (.goto (-64), 3) := by decide +kernel
theorem dX10_costs_105 : decode cX10_costs 105 = .ok (.iload_n 1, 1) := by decide +kernel
theorem dX10_costs_106 : decode cX10_costs 106 = .ok (.ireturn, 1) := by decide +kernel
theorem dX10_price_0 : decode cX10_price 0 = .ok (.aload_n 0, 1) := by decide +kernel
theorem dX10_price_1 : decode cX10_price 1 = .ok (.aload_n 0, 1) := by decide +kernel
theorem dX10_price_2 : decode cX10_price 2 = .ok (.getfield 129, 3) := by decide +kernel
theorem dX10_price_5 : decode cX10_price 5 = .ok (.aload_n 0, 1) := by decide +kernel
theorem dX10_price_6 : decode cX10_price 6 = .ok (.getfield 74, 3) := by decide +kernel
theorem dX10_price_9 : decode cX10_price 9 = .ok (.if_icmp .ge 7, 3) := by decide +kernel
theorem dX10_price_12 : decode cX10_price 12 = .ok (.iconst 1, 1) := by decide +kernel
theorem dX10_price_13 : decode cX10_price 13 = .ok (.goto 4, 3) := by decide +kernel
theorem dX10_price_16 : decode cX10_price 16 = .ok (.iconst 0, 1) := by decide +kernel
theorem dX10_price_17 : decode cX10_price 17 = .ok (.putfield 70, 3) := by decide +kernel
theorem dX10_price_20 : decode cX10_price 20 = .ok (.aload_n 0, 1) := by decide +kernel
theorem dX10_price_21 : decode cX10_price 21 = .ok (.getfield 70, 3) := by decide +kernel
theorem dX10_price_24 : decode cX10_price 24 = .ok (.ifCond .le 5, 3) := by decide +kernel
theorem dX10_price_27 : decode cX10_price 27 = .ok (.iconst 0, 1) := by decide +kernel
theorem dX10_price_28 : decode cX10_price 28 = .ok (.ireturn, 1) := by decide +kernel
theorem dX10_price_29 : decode cX10_price 29 = .ok (.iconst 0, 1) := by decide +kernel
theorem dX10_price_30 : decode cX10_price 30 = .ok (.istore_n 1, 1) := by decide +kernel
theorem dX10_price_31 : decode cX10_price 31 = .ok (.iload_n 1, 1) := by decide +kernel
theorem dX10_price_32 : decode cX10_price 32 = .ok (.aload_n 0, 1) := by decide +kernel
theorem dX10_price_33 : decode cX10_price 33 = .ok (.getfield 74, 3) := by decide +kernel
theorem dX10_price_36 : decode cX10_price 36 = .ok (.if_icmp .ge 21, 3) := by decide +kernel
theorem dX10_price_39 : decode cX10_price 39 = .ok (.aload_n 0, 1) := by decide +kernel
theorem dX10_price_40 : decode cX10_price 40 = .ok (.getfield 61, 3) := by decide +kernel
theorem dX10_price_43 : decode cX10_price 43 = .ok (.iload_n 1, 1) := by decide +kernel
theorem dX10_price_44 : decode cX10_price 44 = .ok (.aload_n 0, 1) := by decide +kernel
theorem dX10_price_45 : decode cX10_price 45 = .ok (.getfield 55, 3) := by decide +kernel
theorem dX10_price_48 : decode cX10_price 48 = .ok (.iload_n 1, 1) := by decide +kernel
theorem dX10_price_49 : decode cX10_price 49 = .ok (.iaload, 1) := by decide +kernel
theorem dX10_price_50 : decode cX10_price 50 = .ok (.iastore, 1) := by decide +kernel
theorem dX10_price_51 : decode cX10_price 51 = .ok (.iinc 1 1, 3) := by decide +kernel
theorem dX10_price_54 : decode cX10_price 54 = .ok (.goto (-23), 3) := by decide +kernel
theorem dX10_price_57 : decode cX10_price 57 = .ok (.aload_n 0, 1) := by decide +kernel
theorem dX10_price_58 : decode cX10_price 58 = .ok (.invokevirtual 179, 3) := by decide +kernel
theorem dX10_price_61 : decode cX10_price 61 = .ok (.ireturn, 1) := by decide +kernel
theorem dX10_least_0 : decode cX10_least 0 = .ok (.aload_n 0, 1) := by decide +kernel
theorem dX10_least_1 : decode cX10_least 1 = .ok (.aload_n 0, 1) := by decide +kernel
theorem dX10_least_2 : decode cX10_least 2 = .ok (.getfield 111, 3) := by decide +kernel
theorem dX10_least_5 : decode cX10_least 5 = .ok (.iconst 0, 1) := by decide +kernel
theorem dX10_least_6 : decode cX10_least 6 = .ok (.invokevirtual 107, 3) := by decide +kernel
theorem dX10_least_9 : decode cX10_least 9 = .ok (.istore_n 2, 1) := by decide +kernel
theorem dX10_least_10 : decode cX10_least 10 = .ok (.aload_n 0, 1) := by decide +kernel
theorem dX10_least_11 : decode cX10_least 11 = .ok (.invokevirtual 179, 3) := by decide +kernel
theorem dX10_least_14 : decode cX10_least 14 = .ok (.istore_n 3, 1) := by decide +kernel
theorem dX10_least_15 : decode cX10_least 15 = .ok (.iload_n 2, 1) := by decide +kernel
theorem dX10_least_16 : decode cX10_least 16 = .ok (.ifCond .eq 54, 3) := by decide +kernel
theorem dX10_least_19 : decode cX10_least 19 = .ok (.aload_n 0, 1) := by decide +kernel
theorem dX10_least_20 : decode cX10_least 20 = .ok (.invokevirtual 179, 3) := by decide +kernel
theorem dX10_least_23 : decode cX10_least 23 = .ok (.istore 4, 2) := by decide +kernel
theorem dX10_least_25 : decode cX10_least 25 = .ok (.iload_n 1, 1) := by decide +kernel
theorem dX10_least_26 : decode cX10_least 26 = .ok (.ifCond .eq 18, 3) := by decide +kernel
theorem dX10_least_29 : decode cX10_least 29 = .ok (.iload 4, 2) := by decide +kernel
theorem dX10_least_31 : decode cX10_least 31 = .ok (.iload_n 3, 1) := by decide +kernel
theorem dX10_least_32 : decode cX10_least 32 = .ok (.if_icmp .le 8, 3) := by decide +kernel
theorem dX10_least_35 : decode cX10_least 35 = .ok (.iload 4, 2) := by decide +kernel
theorem dX10_least_37 : decode cX10_least 37 = .ok (.goto 19, 3) := by decide +kernel
theorem dX10_least_40 : decode cX10_least 40 = .ok (.iload_n 3, 1) := by decide +kernel
theorem dX10_least_41 : decode cX10_least 41 = .ok (.goto 15, 3) := by decide +kernel
theorem dX10_least_44 : decode cX10_least 44 = .ok (.iload 4, 2) := by decide +kernel
theorem dX10_least_46 : decode cX10_least 46 = .ok (.iload_n 3, 1) := by decide +kernel
theorem dX10_least_47 : decode cX10_least 47 = .ok (.if_icmp .ge 8, 3) := by decide +kernel
theorem dX10_least_50 : decode cX10_least 50 = .ok (.iload 4, 2) := by decide +kernel
theorem dX10_least_52 : decode cX10_least 52 = .ok (.goto 4, 3) := by decide +kernel
theorem dX10_least_55 : decode cX10_least 55 = .ok (.iload_n 3, 1) := by decide +kernel
theorem dX10_least_56 : decode cX10_least 56 = .ok (.istore_n 3, 1) := by decide +kernel
theorem dX10_least_57 : decode cX10_least 57 = .ok (.aload_n 0, 1) := by decide +kernel
theorem dX10_least_58 : decode cX10_least 58 = .ok (.aload_n 0, 1) := by decide +kernel
theorem dX10_least_59 : decode cX10_least 59 = .ok (.getfield 111, 3) := by decide +kernel
theorem dX10_least_62 : decode cX10_least 62 = .ok (.iconst 1, 1) := by decide +kernel
theorem dX10_least_63 : decode cX10_least 63 = .ok (.invokevirtual 107, 3) := by decide +kernel
theorem dX10_least_66 : decode cX10_least 66 = .ok (.istore_n 2, 1) := by decide +kernel
theorem dX10_least_67 : decode cX10_least 67 = .ok (.goto (-52), 3) := by decide +kernel
theorem dX10_least_70 : decode cX10_least 70 = .ok (.iload_n 3, 1) := by decide +kernel
theorem dX10_least_71 : decode cX10_least 71 = .ok (.ireturn, 1) := by decide +kernel
theorem dX10_leastPrice_0 : decode cX10_leastPrice 0 = .ok (.aload_n 0, 1) := by decide +kernel
theorem dX10_leastPrice_1 : decode cX10_leastPrice 1 = .ok (.iconst 0, 1) := by decide +kernel
theorem dX10_leastPrice_2 : decode cX10_leastPrice 2 = .ok (.putfield 70, 3) := by decide +kernel
theorem dX10_leastPrice_5 : decode cX10_leastPrice 5 = .ok (.aload_n 0, 1) := by decide +kernel
theorem dX10_leastPrice_6 : decode cX10_leastPrice 6 = .ok (.bipush 63, 2) := by decide +kernel
theorem dX10_leastPrice_8 : decode cX10_leastPrice 8 = .ok (.invokevirtual 103, 3) := by decide +kernel
theorem dX10_leastPrice_11 : decode cX10_leastPrice 11 = .ok (.aload_n 0, 1) := by decide +kernel
theorem dX10_leastPrice_12 : decode cX10_leastPrice 12 = .ok (.iconst 0, 1) := by decide +kernel
theorem dX10_leastPrice_13 : decode cX10_leastPrice 13 = .ok (.invokevirtual 182, 3) := by decide +kernel
theorem dX10_leastPrice_16 : decode cX10_leastPrice 16 = .ok (.ireturn, 1) := by decide +kernel
theorem dX10_greatestPrice_0 : decode cX10_greatestPrice 0 = .ok (.aload_n 0, 1) := by decide +kernel
theorem dX10_greatestPrice_1 : decode cX10_greatestPrice 1 = .ok (.iconst 0, 1) := by decide +kernel
theorem dX10_greatestPrice_2 : decode cX10_greatestPrice 2 = .ok (.putfield 70, 3) := by decide +kernel
theorem dX10_greatestPrice_5 : decode cX10_greatestPrice 5 = .ok (.aload_n 0, 1) := by decide +kernel
theorem dX10_greatestPrice_6 : decode cX10_greatestPrice 6 = .ok (.bipush 63, 2) := by decide +kernel
theorem dX10_greatestPrice_8 : decode cX10_greatestPrice 8 = .ok (.invokevirtual 103, 3) := by decide +kernel
theorem dX10_greatestPrice_11 : decode cX10_greatestPrice 11 = .ok (.aload_n 0, 1) := by decide +kernel
theorem dX10_greatestPrice_12 : decode cX10_greatestPrice 12 = .ok (.iconst 1, 1) := by decide +kernel
theorem dX10_greatestPrice_13 : decode cX10_greatestPrice 13 = .ok (.invokevirtual 182, 3) := by decide +kernel
theorem dX10_greatestPrice_16 : decode cX10_greatestPrice 16 = .ok (.ireturn, 1) := by decide +kernel
theorem dX10_cheapest_0 : decode cX10_cheapest 0 = .ok (.aload_n 0, 1) := by decide +kernel
theorem dX10_cheapest_1 : decode cX10_cheapest 1 = .ok (.aload_n 0, 1) := by decide +kernel
theorem dX10_cheapest_2 : decode cX10_cheapest 2 = .ok (.iload_n 1, 1) := by decide +kernel
theorem dX10_cheapest_3 : decode cX10_cheapest 3 = .ok (.invokevirtual 81, 3) := by decide +kernel
theorem dX10_cheapest_6 : decode cX10_cheapest 6 = .ok (.ifCond .eq 7, 3) := by decide +kernel
theorem dX10_cheapest_9 : decode cX10_cheapest 9 = .ok (.iconst 0, 1) := by decide +kernel
theorem dX10_cheapest_10 : decode cX10_cheapest 10 = .ok (.goto 4, 3) := by decide +kernel
theorem dX10_cheapest_13 : decode cX10_cheapest 13 = .ok (.iconst 1, 1) := by decide +kernel
theorem dX10_cheapest_14 : decode cX10_cheapest 14 = .ok (.putfield 70, 3) := by decide +kernel
theorem dX10_cheapest_17 : decode cX10_cheapest 17 = .ok (.aload_n 0, 1) := by decide +kernel
theorem dX10_cheapest_18 : decode cX10_cheapest 18 = .ok (.getfield 70, 3) := by decide +kernel
theorem dX10_cheapest_21 : decode cX10_cheapest 21 = .ok (.ifCond .le 5, 3) := by decide +kernel
theorem dX10_cheapest_24 : decode cX10_cheapest 24 = .ok (.iconst 0, 1) := by decide +kernel
theorem dX10_cheapest_25 : decode cX10_cheapest 25 = .ok (.ireturn, 1) := by decide +kernel
theorem dX10_cheapest_26 : decode cX10_cheapest 26 = .ok (.aload_n 0, 1) := by decide +kernel
theorem dX10_cheapest_27 : decode cX10_cheapest 27 = .ok (.bipush 63, 2) := by decide +kernel
theorem dX10_cheapest_29 : decode cX10_cheapest 29 = .ok (.invokevirtual 103, 3) := by decide +kernel
theorem dX10_cheapest_32 : decode cX10_cheapest 32 = .ok (.aload_n 0, 1) := by decide +kernel
theorem dX10_cheapest_33 : decode cX10_cheapest 33 = .ok (.iconst 0, 1) := by decide +kernel
theorem dX10_cheapest_34 : decode cX10_cheapest 34 = .ok (.invokevirtual 182, 3) := by decide +kernel
theorem dX10_cheapest_37 : decode cX10_cheapest 37 = .ok (.istore_n 2, 1) := by decide +kernel
theorem dX10_cheapest_38 : decode cX10_cheapest 38 = .ok (.aload_n 0, 1) := by decide +kernel
theorem dX10_cheapest_39 : decode cX10_cheapest 39 = .ok (.aload_n 0, 1) := by decide +kernel
theorem dX10_cheapest_40 : decode cX10_cheapest 40 = .ok (.getfield 111, 3) := by decide +kernel
theorem dX10_cheapest_43 : decode cX10_cheapest 43 = .ok (.iconst 0, 1) := by decide +kernel
theorem dX10_cheapest_44 : decode cX10_cheapest 44 = .ok (.invokevirtual 107, 3) := by decide +kernel
theorem dX10_cheapest_47 : decode cX10_cheapest 47 = .ok (.istore_n 3, 1) := by decide +kernel
theorem dX10_cheapest_48 : decode cX10_cheapest 48 = .ok (.iload_n 3, 1) := by decide +kernel
theorem dX10_cheapest_49 : decode cX10_cheapest 49 = .ok (.ifCond .eq 24, 3) := by decide +kernel
theorem dX10_cheapest_52 : decode cX10_cheapest 52 = .ok (.aload_n 0, 1) := by decide +kernel
theorem dX10_cheapest_53 : decode cX10_cheapest 53 = .ok (.invokevirtual 179, 3) := by decide +kernel
theorem dX10_cheapest_56 : decode cX10_cheapest 56 = .ok (.iload_n 2, 1) := by decide +kernel
theorem dX10_cheapest_57 : decode cX10_cheapest 57 = .ok (.if_icmp .eq 16, 3) := by decide +kernel
theorem dX10_cheapest_60 : decode cX10_cheapest 60 = .ok (.aload_n 0, 1) := by decide +kernel
theorem dX10_cheapest_61 : decode cX10_cheapest 61 = .ok (.aload_n 0, 1) := by decide +kernel
theorem dX10_cheapest_62 : decode cX10_cheapest 62 = .ok (.getfield 111, 3) := by decide +kernel
theorem dX10_cheapest_65 : decode cX10_cheapest 65 = .ok (.iconst 1, 1) := by decide +kernel
theorem dX10_cheapest_66 : decode cX10_cheapest 66 = .ok (.invokevirtual 107, 3) := by decide +kernel
theorem dX10_cheapest_69 : decode cX10_cheapest 69 = .ok (.istore_n 3, 1) := by decide +kernel
theorem dX10_cheapest_70 : decode cX10_cheapest 70 = .ok (.goto (-22), 3) := by decide +kernel
theorem dX10_cheapest_73 : decode cX10_cheapest 73 = .ok (.aload_n 0, 1) := by decide +kernel
theorem dX10_cheapest_74 : decode cX10_cheapest 74 = .ok (.getfield 61, 3) := by decide +kernel
theorem dX10_cheapest_77 : decode cX10_cheapest 77 = .ok (.iload_n 1, 1) := by decide +kernel
theorem dX10_cheapest_78 : decode cX10_cheapest 78 = .ok (.iaload, 1) := by decide +kernel
theorem dX10_cheapest_79 : decode cX10_cheapest 79 = .ok (.ireturn, 1) := by decide +kernel
theorem dX10_leastWith_0 : decode cX10_leastWith 0 = .ok (.aload_n 0, 1) := by decide +kernel
theorem dX10_leastWith_1 : decode cX10_leastWith 1 = .ok (.aload_n 0, 1) := by decide +kernel
theorem dX10_leastWith_2 : decode cX10_leastWith 2 = .ok (.iload_n 1, 1) := by decide +kernel
theorem dX10_leastWith_3 : decode cX10_leastWith 3 = .ok (.iload_n 2, 1) := by decide +kernel
theorem dX10_leastWith_4 : decode cX10_leastWith 4 = .ok (.invokevirtual 114, 3) := by decide +kernel
theorem dX10_leastWith_7 : decode cX10_leastWith 7 = .ok (.ifCond .ne 7, 3) := by decide +kernel
theorem dX10_leastWith_10 : decode cX10_leastWith 10 = .ok (.iconst 1, 1) := by decide +kernel
theorem dX10_leastWith_11 : decode cX10_leastWith 11 = .ok (.goto 17, 3) := by decide +kernel
theorem dX10_leastWith_14 : decode cX10_leastWith 14 = .ok (.aload_n 0, 1) := by decide +kernel
theorem dX10_leastWith_15 : decode cX10_leastWith 15 = .ok (.iload_n 1, 1) := by decide +kernel
theorem dX10_leastWith_16 : decode cX10_leastWith 16 = .ok (.iload_n 2, 1) := by decide +kernel
theorem dX10_leastWith_17 : decode cX10_leastWith 17 = .ok (.invokevirtual 132, 3) := by decide +kernel
theorem dX10_leastWith_20 : decode cX10_leastWith 20 = .ok (.ifCond .eq 7, 3) := by decide +kernel
theorem dX10_leastWith_23 : decode cX10_leastWith 23 = .ok (.iconst 0, 1) := by decide +kernel
theorem dX10_leastWith_24 : decode cX10_leastWith 24 = .ok (.goto 4, 3) := by decide +kernel
theorem dX10_leastWith_27 : decode cX10_leastWith 27 = .ok (.iconst 2, 1) := by decide +kernel
theorem dX10_leastWith_28 : decode cX10_leastWith 28 = .ok (.putfield 70, 3) := by decide +kernel
theorem dX10_leastWith_31 : decode cX10_leastWith 31 = .ok (.aload_n 0, 1) := by decide +kernel
theorem dX10_leastWith_32 : decode cX10_leastWith 32 = .ok (.getfield 70, 3) := by decide +kernel
theorem dX10_leastWith_35 : decode cX10_leastWith 35 = .ok (.ifCond .le 7, 3) := by decide +kernel
theorem dX10_leastWith_38 : decode cX10_leastWith 38 = .ok (.iconst 0, 1) := by decide +kernel
theorem dX10_leastWith_39 : decode cX10_leastWith 39 = .ok (.goto 8, 3) := by decide +kernel
theorem dX10_leastWith_42 : decode cX10_leastWith 42 = .ok (.aload_n 0, 1) := by decide +kernel
theorem dX10_leastWith_43 : decode cX10_leastWith 43 = .ok (.iconst 0, 1) := by decide +kernel
theorem dX10_leastWith_44 : decode cX10_leastWith 44 = .ok (.invokevirtual 182, 3) := by decide +kernel
theorem dX10_leastWith_47 : decode cX10_leastWith 47 = .ok (.ireturn, 1) := by decide +kernel
