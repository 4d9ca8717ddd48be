theorem dL_cost_22 : decode cL_cost 22 = .ok (.aload_n 3, 1) := by decide +kernel
theorem dL_cost_23 : decode cL_cost 23 = .ok (.iload 4, 2) := by decide +kernel
theorem dL_cost_25 : decode cL_cost 25 = .ok (.iload 6, 2) := by decide +kernel
theorem dL_cost_27 : decode cL_cost 27 = .ok (.invokestatic 64, 3) := by decide +kernel
theorem dL_cost_30 : decode cL_cost 30 = .ok (.iadd, 1) := by decide +kernel
theorem dL_cost_31 : decode cL_cost 31 = .ok (.iaload, 1) := by decide +kernel
theorem dL_cost_32 : decode cL_cost 32 = .ok (.iadd, 1) := by decide +kernel
theorem dL_cost_33 : decode cL_cost 33 = .ok (.istore 5, 2) := by decide +kernel
theorem dL_cost_35 : decode cL_cost 35 = .ok (.iinc 6 1, 3) := by decide +kernel
theorem dL_cost_38 : decode cL_cost 38 = .ok (.goto (-32), 3) := by decide +kernel
theorem dL_cost_41 : decode cL_cost 41 = .ok (.iconst 0, 1) := by decide +kernel
theorem dL_cost_42 : decode cL_cost 42 = .ok (.istore 6, 2) := by decide +kernel
theorem dL_cost_44 : decode cL_cost 44 = .ok (.iload 6, 2) := by decide +kernel
theorem dL_cost_46 : decode cL_cost 46 = .ok (.aload_n 3, 1) := by decide +kernel
theorem dL_cost_47 : decode cL_cost 47 = .ok (.iconst 3, 1) := by decide +kernel
theorem dL_cost_48 : decode cL_cost 48 = .ok (.iaload, 1) := by decide +kernel
theorem dL_cost_49 : decode cL_cost 49 = .ok (.if_icmp .ge 84, 3) := by decide +kernel
theorem dL_cost_52 : decode cL_cost 52 = .ok (.aload_n 0, 1) := by decide +kernel
theorem dL_cost_53 : decode cL_cost 53 = .ok (.aload_n 3, 1) := by decide +kernel
theorem dL_cost_54 : decode cL_cost 54 = .ok (.iload 4, 2) := by decide +kernel
theorem dL_cost_56 : decode cL_cost 56 = .ok (.aload_n 2, 1) := by decide +kernel
theorem dL_cost_57 : decode cL_cost 57 = .ok (.iload 6, 2) := by decide +kernel
theorem dL_cost_59 : decode cL_cost 59 = .ok (.iaload, 1) := by decide +kernel
theorem dL_cost_60 : decode cL_cost 60 = .ok (.sipush 1000, 3) := by decide +kernel
theorem dL_cost_63 : decode cL_cost 63 = .ok (.idiv, 1) := by decide +kernel
theorem dL_cost_64 : decode cL_cost 64 = .ok (.bipush 10, 2) := by decide +kernel
theorem dL_cost_66 : decode cL_cost 66 = .ok (.irem, 1) := by decide +kernel
theorem dL_cost_67 : decode cL_cost 67 = .ok (.invokestatic 64, 3) := by decide +kernel
theorem dL_cost_70 : decode cL_cost 70 = .ok (.aload_n 2, 1) := by decide +kernel
theorem dL_cost_71 : decode cL_cost 71 = .ok (.iload 6, 2) := by decide +kernel
theorem dL_cost_73 : decode cL_cost 73 = .ok (.iaload, 1) := by decide +kernel
theorem dL_cost_74 : decode cL_cost 74 = .ok (.bipush 100, 2) := by decide +kernel
theorem dL_cost_76 : decode cL_cost 76 = .ok (.idiv, 1) := by decide +kernel
theorem dL_cost_77 : decode cL_cost 77 = .ok (.bipush 10, 2) := by decide +kernel
theorem dL_cost_79 : decode cL_cost 79 = .ok (.irem, 1) := by decide +kernel
theorem dL_cost_80 : decode cL_cost 80 = .ok (.if_icmp .ne 47, 3) := by decide +kernel
theorem dL_cost_83 : decode cL_cost 83 = .ok (.aload_n 0, 1) := by decide +kernel
theorem dL_cost_84 : decode cL_cost 84 = .ok (.aload_n 3, 1) := by decide +kernel
theorem dL_cost_85 : decode cL_cost 85 = .ok (.iload 4, 2) := by decide +kernel
theorem dL_cost_87 : decode cL_cost 87 = .ok (.aload_n 2, 1) := by decide +kernel
theorem dL_cost_88 : decode cL_cost 88 = .ok (.iload 6, 2) := by decide +kernel
theorem dL_cost_90 : decode cL_cost 90 = .ok (.iaload, 1) := by decide +kernel
theorem dL_cost_91 : decode cL_cost 91 = .ok (.bipush 10, 2) := by decide +kernel
theorem dL_cost_93 : decode cL_cost 93 = .ok (.idiv, 1) := by decide +kernel
theorem dL_cost_94 : decode cL_cost 94 = .ok (.bipush 10, 2) := by decide +kernel
theorem dL_cost_96 : decode cL_cost 96 = .ok (.irem, 1) := by decide +kernel
theorem dL_cost_97 : decode cL_cost 97 = .ok (.invokestatic 64, 3) := by decide +kernel
theorem dL_cost_100 : decode cL_cost 100 = .ok (.aload_n 2, 1) := by decide +kernel
theorem dL_cost_101 : decode cL_cost 101 = .ok (.iload 6, 2) := by decide +kernel
theorem dL_cost_103 : decode cL_cost 103 = .ok (.iaload, 1) := by decide +kernel
theorem dL_cost_104 : decode cL_cost 104 = .ok (.bipush 10, 2) := by decide +kernel
theorem dL_cost_106 : decode cL_cost 106 = .ok (.irem, 1) := by decide +kernel
theorem dL_cost_107 : decode cL_cost 107 = .ok (.if_icmp .ne 20, 3) := by decide +kernel
theorem dL_cost_110 : decode cL_cost 110 = .ok (.iload 5, 2) := by decide +kernel
theorem dL_cost_112 : decode cL_cost 112 = .ok (.aload_n 2, 1) := by decide +kernel
theorem dL_cost_113 : decode cL_cost 113 = .ok (.iload 6, 2) := by decide +kernel
theorem dL_cost_115 : decode cL_cost 115 = .ok (.iaload, 1) := by decide +kernel
theorem dL_cost_116 : decode cL_cost 116 = .ok (.sipush 10000, 3) := by decide +kernel
theorem dL_cost_119 : decode cL_cost 119 = .ok (.idiv, 1) := by decide +kernel
theorem dL_cost_120 : decode cL_cost 120 = .ok (.sipush 500, 3) := by decide +kernel
theorem dL_cost_123 : decode cL_cost 123 = .ok (.isub, 1) := by decide +kernel
theorem dL_cost_124 : decode cL_cost 124 = .ok (.iadd, 1) := by decide +kernel
theorem dL_cost_125 : decode cL_cost 125 = .ok (.istore 5, 2) := by decide +kernel
theorem dL_cost_127 : decode cL_cost 127 = .ok (.iinc 6 1, 3) := by decide +kernel
theorem dL_cost_130 : decode cL_cost 130 = .ok (.goto (-86), 3) := by decide +kernel
theorem dL_cost_133 : decode cL_cost 133 = .ok (.iload 5, 2) := by decide +kernel
theorem dL_cost_135 : decode cL_cost 135 = .ok (.ireturn, 1) := by decide +kernel
theorem dL_together_0 : decode cL_together 0 = .ok (.iconst 0, 1) := by decide +kernel
theorem dL_together_1 : decode cL_together 1 = .ok (.istore 6, 2) := by decide +kernel
theorem dL_together_3 : decode cL_together 3 = .ok (.iload 6, 2) := by decide +kernel
theorem dL_together_5 : decode cL_together 5 = .ok (.aload_n 1, 1) := by decide +kernel
theorem dL_together_6 : decode cL_together 6 = .ok (.iconst 1, 1) := by decide +kernel
theorem dL_together_7 : decode cL_together 7 = .ok (.iaload, 1) := by decide +kernel
theorem dL_together_8 : decode cL_together 8 = .ok (.if_icmp .ge 102, 3) := by decide +kernel
theorem dL_together_11 : decode cL_together 11 = .ok (.aload_n 1, 1) := by decide +kernel
theorem dL_together_12 : decode cL_together 12 = .ok (.iconst 2, 1) := by decide +kernel
theorem dL_together_13 : decode cL_together 13 = .ok (.iaload, 1) := by decide +kernel
theorem dL_together_14 : decode cL_together 14 = .ok (.iload 6, 2) := by decide +kernel
theorem dL_together_16 : decode cL_together 16 = .ok (.ishr, 1) := by decide +kernel
theorem dL_together_17 : decode cL_together 17 = .ok (.iconst 1, 1) := by decide +kernel
theorem dL_together_18 : decode cL_together 18 = .ok (.iand, 1) := by decide +kernel
theorem dL_together_19 : decode cL_together 19 = .ok (.ifCond .ne 6, 3) := by decide +kernel
theorem dL_together_22 : decode cL_together 22 = .ok (.goto 82, 3) := by decide +kernel
theorem dL_together_25 : decode cL_together 25 = .ok (.aload_n 0, 1) := by decide +kernel
theorem dL_together_26 : decode cL_together 26 = .ok (.iload 6, 2) := by decide +kernel
theorem dL_together_28 : decode cL_together 28 = .ok (.iaload, 1) := by decide +kernel
theorem dL_together_29 : decode cL_together 29 = .ok (.sipush 1000, 3) := by decide +kernel
theorem dL_together_32 : decode cL_together 32 = .ok (.idiv, 1) := by decide +kernel
theorem dL_together_33 : decode cL_together 33 = .ok (.bipush 10, 2) := by decide +kernel
theorem dL_together_35 : decode cL_together 35 = .ok (.irem, 1) := by decide +kernel
theorem dL_together_36 : decode cL_together 36 = .ok (.istore 7, 2) := by decide +kernel
theorem dL_together_38 : decode cL_together 38 = .ok (.aload_n 0, 1) := by decide +kernel
theorem dL_together_39 : decode cL_together 39 = .ok (.iload 6, 2) := by decide +kernel
theorem dL_together_41 : decode cL_together 41 = .ok (.iaload, 1) := by decide +kernel
theorem dL_together_42 : decode cL_together 42 = .ok (.bipush 10, 2) := by decide +kernel
theorem dL_together_44 : decode cL_together 44 = .ok (.idiv, 1) := by decide +kernel
theorem dL_together_45 : decode cL_together 45 = .ok (.bipush 10, 2) := by decide +kernel
theorem dL_together_47 : decode cL_together 47 = .ok (.irem, 1) := by decide +kernel
theorem dL_together_48 : decode cL_together 48 = .ok (.istore 8, 2) := by decide +kernel
theorem dL_together_50 : decode cL_together 50 = .ok (.iload 7, 2) := by decide +kernel
theorem dL_together_52 : decode cL_together 52 = .ok (.iload_n 2, 1) := by decide +kernel
theorem dL_together_53 : decode cL_together 53 = .ok (.if_icmp .ne 23, 3) := by decide +kernel
theorem dL_together_56 : decode cL_together 56 = .ok (.iload 8, 2) := by decide +kernel
theorem dL_together_58 : decode cL_together 58 = .ok (.iload 4, 2) := by decide +kernel
theorem dL_together_60 : decode cL_together 60 = .ok (.if_icmp .ne 16, 3) := by decide +kernel
theorem dL_together_63 : decode cL_together 63 = .ok (.aload_n 0, 1) := by decide +kernel
theorem dL_together_64 : decode cL_together 64 = .ok (.iload 6, 2) := by decide +kernel
theorem dL_together_66 : decode cL_together 66 = .ok (.iaload, 1) := by decide +kernel
theorem dL_together_67 : decode cL_together 67 = .ok (.iload_n 3, 1) := by decide +kernel
theorem dL_together_68 : decode cL_together 68 = .ok (.iload 5, 2) := by decide +kernel
theorem dL_together_70 : decode cL_together 70 = .ok (.invokestatic 70, 3) := by decide +kernel
theorem dL_together_73 : decode cL_together 73 = .ok (.ifCond .eq 29, 3) := by decide +kernel
theorem dL_together_76 : decode cL_together 76 = .ok (.iload 7, 2) := by decide +kernel
theorem dL_together_78 : decode cL_together 78 = .ok (.iload 4, 2) := by decide +kernel
theorem dL_together_80 : decode cL_together 80 = .ok (.if_icmp .ne 24, 3) := by decide +kernel
theorem dL_together_83 : decode cL_together 83 = .ok (.iload 8, 2) := by decide +kernel
theorem dL_together_85 : decode cL_together 85 = .ok (.iload_n 2, 1) := by decide +kernel
theorem dL_together_86 : decode cL_together 86 = .ok (.if_icmp .ne 18, 3) := by decide +kernel
theorem dL_together_89 : decode cL_together 89 = .ok (.aload_n 0, 1) := by decide +kernel
theorem dL_together_90 : decode cL_together 90 = .ok (.iload 6, 2) := by decide +kernel
theorem dL_together_92 : decode cL_together 92 = .ok (.iaload, 1) := by decide +kernel
theorem dL_together_93 : decode cL_together 93 = .ok (.iload 5, 2) := by decide +kernel
theorem dL_together_95 : decode cL_together 95 = .ok (.iload_n 3, 1) := by decide +kernel
theorem dL_together_96 : decode cL_together 96 = .ok (.invokestatic 70, 3) := by decide +kernel
theorem dL_together_99 : decode cL_together 99 = .ok (.ifCond .ne 5, 3) := by decide +kernel
theorem dL_together_102 : decode cL_together 102 = .ok (.iconst 0, 1) := by decide +kernel
theorem dL_together_103 : decode cL_together 103 = .ok (.ireturn, 1) := by decide +kernel
theorem dL_together_104 : decode cL_together 104 = .ok (.iinc 6 1, 3) := by decide +kernel
theorem dL_together_107 : decode cL_together 107 = .ok (.goto (-104), 3) := by decide +kernel
theorem dL_together_110 : decode cL_together 110 = .ok (.iconst 1, 1) := by decide +kernel
theorem dL_together_111 : decode cL_together 111 = .ok (.ireturn, 1) := by decide +kernel
theorem dL_narrowed_0 : decode cL_narrowed 0 = .ok (.iconst 0, 1) := by decide +kernel
theorem dL_narrowed_1 : decode cL_narrowed 1 = .ok (.istore 4, 2) := by decide +kernel
theorem dL_narrowed_3 : decode cL_narrowed 3 = .ok (.iconst 0, 1) := by decide +kernel
theorem dL_narrowed_4 : decode cL_narrowed 4 = .ok (.istore 5, 2) := by decide +kernel
theorem dL_narrowed_6 : decode cL_narrowed 6 = .ok (.iload 5, 2) := by decide +kernel
theorem dL_narrowed_8 : decode cL_narrowed 8 = .ok (.aload_n 3, 1) := by decide +kernel
theorem dL_narrowed_9 : decode cL_narrowed 9 = .ok (.iconst 0, 1) := by decide +kernel
theorem dL_narrowed_10 : decode cL_narrowed 10 = .ok (.iaload, 1) := by decide +kernel
theorem dL_narrowed_11 : decode cL_narrowed 11 = .ok (.if_icmp .ge 45, 3) := by decide +kernel
theorem dL_narrowed_14 : decode cL_narrowed 14 = .ok (.iload 4, 2) := by decide +kernel
theorem dL_narrowed_16 : decode cL_narrowed 16 = .ok (.aload_n 2, 1) := by decide +kernel
theorem dL_narrowed_17 : decode cL_narrowed 17 = .ok (.iload 5, 2) := by decide +kernel
theorem dL_narrowed_19 : decode cL_narrowed 19 = .ok (.iaload, 1) := by decide +kernel
theorem dL_narrowed_20 : decode cL_narrowed 20 = .ok (.ifCond .le 14, 3) := by decide +kernel
theorem dL_narrowed_23 : decode cL_narrowed 23 = .ok (.iconst 1, 1) := by decide +kernel
theorem dL_narrowed_24 : decode cL_narrowed 24 = .ok (.aload_n 2, 1) := by decide +kernel
theorem dL_narrowed_25 : decode cL_narrowed 25 = .ok (.iload 5, 2) := by decide +kernel
theorem dL_narrowed_27 : decode cL_narrowed 27 = .ok (.iaload, 1) := by decide +kernel
theorem dL_narrowed_28 : decode cL_narrowed 28 = .ok (.iconst 1, 1) := by decide +kernel
theorem dL_narrowed_29 : decode cL_narrowed 29 = .ok (.isub, 1) := by decide +kernel
theorem dL_narrowed_30 : decode cL_narrowed 30 = .ok (.ishl, 1) := by decide +kernel
theorem dL_narrowed_31 : decode cL_narrowed 31 = .ok (.goto 11, 3) := by decide +kernel
theorem dL_narrowed_34 : decode cL_narrowed 34 = .ok (.iconst 1, 1) := by decide +kernel
theorem dL_narrowed_35 : decode cL_narrowed 35 = .ok (.aload_n 0, 1) := by decide +kernel
theorem dL_narrowed_36 : decode cL_narrowed 36 = .ok (.iload 5, 2) := by decide +kernel
theorem dL_narrowed_38 : decode cL_narrowed 38 = .ok (.iaload, 1) := by decide +kernel
theorem dL_narrowed_39 : decode cL_narrowed 39 = .ok (.ishl, 1) := by decide +kernel
theorem dL_narrowed_40 : decode cL_narrowed 40 = .ok (.iconst 1, 1) := by decide +kernel
theorem dL_narrowed_41 : decode cL_narrowed 41 = .ok (.isub, 1) := by decide +kernel
theorem dL_narrowed_42 : decode cL_narrowed 42 = .ok (.iconst 5, 1) := by decide +kernel
theorem dL_narrowed_43 : decode cL_narrowed 43 = .ok (.iload 5, 2) := by decide +kernel
theorem dL_narrowed_45 : decode cL_narrowed 45 = .ok (.imul, 1) := by decide +kernel
theorem dL_narrowed_46 : decode cL_narrowed 46 = .ok (.ishl, 1) := by decide +kernel
theorem dL_narrowed_47 : decode cL_narrowed 47 = .ok (.ior, 1) := by decide +kernel
theorem dL_narrowed_48 : decode cL_narrowed 48 = .ok (.istore 4, 2) := by decide +kernel
theorem dL_narrowed_50 : decode cL_narrowed 50 = .ok (.iinc 5 1, 3) := by decide +kernel
theorem dL_narrowed_53 : decode cL_narrowed 53 = .ok (.goto (-47), 3) := by decide +kernel
theorem dL_narrowed_56 : decode cL_narrowed 56 = .ok (.iconst (-1), 1) := by decide +kernel
theorem dL_narrowed_57 : decode cL_narrowed 57 = .ok (.istore 5, 2) := by decide +kernel
theorem dL_narrowed_59 : decode cL_narrowed 59 = .ok (.iload 4, 2) := by decide +kernel
theorem dL_narrowed_61 : decode cL_narrowed 61 = .ok (.iload 5, 2) := by decide +kernel
theorem dL_narrowed_63 : decode cL_narrowed 63 = .ok (.if_icmp .eq 167, 3) := by decide +kernel
theorem dL_narrowed_66 : decode cL_narrowed 66 = .ok (.iload 4, 2) := by decide +kernel
theorem dL_narrowed_68 : decode cL_narrowed 68 = .ok (.istore 5, 2) := by decide +kernel
theorem dL_narrowed_70 : decode cL_narrowed 70 = .ok (.iconst 0, 1) := by decide +kernel
theorem dL_narrowed_71 : decode cL_narrowed 71 = .ok (.istore 6, 2) := by decide +kernel
theorem dL_narrowed_73 : decode cL_narrowed 73 = .ok (.iload 6, 2) := by decide +kernel
theorem dL_narrowed_75 : decode cL_narrowed 75 = .ok (.aload_n 3, 1) := by decide +kernel
theorem dL_narrowed_76 : decode cL_narrowed 76 = .ok (.iconst 0, 1) := by decide +kernel
theorem dL_narrowed_77 : decode cL_narrowed 77 = .ok (.iaload, 1) := by decide +kernel
theorem dL_narrowed_78 : decode cL_narrowed 78 = .ok (.if_icmp .ge 149, 3) := by decide +kernel
theorem dL_narrowed_81 : decode cL_narrowed 81 = .ok (.iconst 0, 1) := by decide +kernel
theorem dL_narrowed_82 : decode cL_narrowed 82 = .ok (.istore 7, 2) := by decide +kernel
theorem dL_narrowed_84 : decode cL_narrowed 84 = .ok (.iload 7, 2) := by decide +kernel
theorem dL_narrowed_86 : decode cL_narrowed 86 = .ok (.aload_n 0, 1) := by decide +kernel
theorem dL_narrowed_87 : decode cL_narrowed 87 = .ok (.iload 6, 2) := by decide +kernel
theorem dL_narrowed_89 : decode cL_narrowed 89 = .ok (.iaload, 1) := by decide +kernel
theorem dL_narrowed_90 : decode cL_narrowed 90 = .ok (.if_icmp .ge 131, 3) := by decide +kernel
theorem dL_narrowed_93 : decode cL_narrowed 93 = .ok (.iconst 1, 1) := by decide +kernel
theorem dL_narrowed_94 : decode cL_narrowed 94 = .ok (.istore 8, 2) := by decide +kernel
theorem dL_narrowed_96 : decode cL_narrowed 96 = .ok (.iconst 0, 1) := by decide +kernel
theorem dL_narrowed_97 : decode cL_narrowed 97 = .ok (.istore 9, 2) := by decide +kernel
theorem dL_narrowed_99 : decode cL_narrowed 99 = .ok (.iload 9, 2) := by decide +kernel
theorem dL_narrowed_101 : decode cL_narrowed 101 = .ok (.aload_n 3, 1) := by decide +kernel
theorem dL_narrowed_102 : decode cL_narrowed 102 = .ok (.iconst 0, 1) := by decide +kernel
theorem dL_narrowed_103 : decode cL_narrowed 103 = .ok (.iaload, 1) := by decide +kernel
theorem dL_narrowed_104 : decode cL_narrowed 104 = .ok (.if_icmp .ge 90, 3) := by decide +kernel
theorem dL_narrowed_107 : decode cL_narrowed 107 = .ok (.iload 9, 2) := by decide +kernel
theorem dL_narrowed_109 : decode cL_narrowed 109 = .ok (.iload 6, 2) := by decide +kernel
theorem dL_narrowed_111 : decode cL_narrowed 111 = .ok (.if_icmp .ne 7, 3) := by decide +kernel
theorem dL_narrowed_114 : decode cL_narrowed 114 = .ok (.iconst 1, 1) := by decide +kernel
theorem dL_narrowed_115 : decode cL_narrowed 115 = .ok (.goto 4, 3) := by decide +kernel
theorem dL_narrowed_118 : decode cL_narrowed 118 = .ok (.iconst 0, 1) := by decide +kernel
theorem dL_narrowed_119 : decode cL_narrowed 119 = .ok (.istore 10, 2) := by decide +kernel
theorem dL_narrowed_121 : decode cL_narrowed 121 = .ok (.iconst 0, 1) := by decide +kernel
theorem dL_narrowed_122 : decode cL_narrowed 122 = .ok (.istore 11, 2) := by decide +kernel
theorem dL_narrowed_124 : decode cL_narrowed 124 = .ok (.iload 11, 2) := by decide +kernel
theorem dL_narrowed_126 : decode cL_narrowed 126 = .ok (.aload_n 0, 1) := by decide +kernel
theorem dL_narrowed_127 : decode cL_narrowed 127 = .ok (.iload 9, 2) := by decide +kernel
theorem dL_narrowed_129 : decode cL_narrowed 129 = .ok (.iaload, 1) := by decide +kernel
theorem dL_narrowed_130 : decode cL_narrowed 130 = .ok (.if_icmp .ge 51, 3) := by decide +kernel
theorem dL_narrowed_133 : decode cL_narrowed 133 = .ok (.iload 10, 2) := by decide +kernel
theorem dL_narrowed_135 : decode cL_narrowed 135 = .ok (.iload 5, 2) := by decide +kernel
theorem dL_narrowed_137 : decode cL_narrowed 137 = .ok (.iconst 5, 1) := by decide +kernel
theorem dL_narrowed_138 : decode cL_narrowed 138 = .ok (.iload 9, 2) := by decide +kernel
theorem dL_narrowed_140 : decode cL_narrowed 140 = .ok (.imul, 1) := by decide +kernel
theorem dL_narrowed_141 : decode cL_narrowed 141 = .ok (.iload 11, 2) := by decide +kernel
theorem dL_narrowed_143 : decode cL_narrowed 143 = .ok (.iadd, 1) := by decide +kernel
theorem dL_narrowed_144 : decode cL_narrowed 144 = .ok (.ishr, 1) := by decide +kernel
theorem dL_narrowed_145 : decode cL_narrowed 145 = .ok (.iconst 1, 1) := by decide +kernel
theorem dL_narrowed_146 : decode cL_narrowed 146 = .ok (.iand, 1) := by decide +kernel
theorem dL_narrowed_147 : decode cL_narrowed 147 = .ok (.iconst 1, 1) := by decide +kernel
theorem dL_narrowed_148 : decode cL_narrowed 148 = .ok (.if_icmp .ne 23, 3) := by decide +kernel
theorem dL_narrowed_151 : decode cL_narrowed 151 = .ok (.aload_n 1, 1) := by decide +kernel
theorem dL_narrowed_152 : decode cL_narrowed 152 = .ok (.aload_n 3, 1) := by decide +kernel
theorem dL_narrowed_153 : decode cL_narrowed 153 = .ok (.iload 6, 2) := by decide +kernel
theorem dL_narrowed_155 : decode cL_narrowed 155 = .ok (.iload 7, 2) := by decide +kernel
theorem dL_narrowed_157 : decode cL_narrowed 157 = .ok (.iload 9, 2) := by decide +kernel
theorem dL_narrowed_159 : decode cL_narrowed 159 = .ok (.iload 11, 2) := by decide +kernel
theorem dL_narrowed_161 : decode cL_narrowed 161 = .ok (.invokestatic 85, 3) := by decide +kernel
theorem dL_narrowed_164 : decode cL_narrowed 164 = .ok (.ifCond .eq 7, 3) := by decide +kernel
theorem dL_narrowed_167 : decode cL_narrowed 167 = .ok (.iconst 1, 1) := by decide +kernel
theorem dL_narrowed_168 : decode cL_narrowed 168 = .ok (.goto 4, 3) := by decide +kernel
theorem dL_narrowed_171 : decode cL_narrowed 171 = .ok (.iconst 0, 1) := by decide +kernel
theorem dL_narrowed_172 : decode cL_narrowed 172 = .ok (.ior, 1) := by decide +kernel
theorem dL_narrowed_173 : decode cL_narrowed 173 = .ok (.istore 10, 2) := by decide +kernel
theorem dL_narrowed_175 : decode cL_narrowed 175 = .ok (.iinc 11 1, 3) := by decide +kernel
theorem dL_narrowed_178 : decode cL_narrowed 178 = .ok (.goto (-54), 3) := by decide +kernel
theorem dL_narrowed_181 : decode cL_narrowed 181 = .ok (.iload 8, 2) := by decide +kernel
theorem dL_narrowed_183 : decode cL_narrowed 183 = .ok (.iload 10, 2) := by decide +kernel
theorem dL_narrowed_185 : decode cL_narrowed 185 = .ok (.iand, 1) := by decide +kernel
theorem dL_narrowed_186 : decode cL_narrowed 186 = .ok (.istore 8, 2) := by decide +kernel
theorem dL_narrowed_188 : decode cL_narrowed 188 = .ok (.iinc 9 1, 3) := by decide +kernel
theorem dL_narrowed_191 : decode cL_narrowed 191 = .ok (.goto (-92), 3) := by decide +kernel
theorem dL_narrowed_194 : decode cL_narrowed 194 = .ok (.iload 8, 2) := by decide +kernel
theorem dL_narrowed_196 : decode cL_narrowed 196 = .ok (.ifCond .ne 19, 3) := by decide +kernel
theorem dL_narrowed_199 : decode cL_narrowed 199 = .ok (.iload 4, 2) := by decide +kernel
theorem dL_narrowed_201 : decode cL_narrowed 201 = .ok (.iconst 1, 1) := by decide +kernel
theorem dL_narrowed_202 : decode cL_narrowed 202 = .ok (.iconst 5, 1) := by decide +kernel
theorem dL_narrowed_203 : decode cL_narrowed 203 = .ok (.iload 6, 2) := by decide +kernel
theorem dL_narrowed_205 : decode cL_narrowed 205 = .ok (.imul, 1) := by decide +kernel
theorem dL_narrowed_206 : decode cL_narrowed 206 = .ok (.iload 7, 2) := by decide +kernel
theorem dL_narrowed_208 : decode cL_narrowed 208 = .ok (.iadd, 1) := by decide +kernel
theorem dL_narrowed_209 : decode cL_narrowed 209 = .ok (.ishl, 1) := by decide +kernel
theorem dL_narrowed_210 : decode cL_narrowed 210 = .ok (.iconst (-1), 1) := by decide +kernel
theorem dL_narrowed_211 : decode cL_narrowed 211 = .ok (.ixor, 1) := by decide +kernel
theorem dL_narrowed_212 : decode cL_narrowed 212 = .ok (.iand, 1) := by decide +kernel
theorem dL_narrowed_213 : decode cL_narrowed 213 = .ok (.istore 4, 2) := by decide +kernel
theorem dL_narrowed_215 : decode cL_narrowed 215 = .ok (.iinc 7 1, 3) := by decide +kernel
theorem dL_narrowed_218 : decode cL_narrowed 218 = .ok (.goto (-134), 3) := by decide +kernel
theorem dL_narrowed_221 : decode cL_narrowed 221 = .ok (.iinc 6 1, 3) := by decide +kernel
theorem dL_narrowed_224 : decode cL_narrowed 224 = .ok (.goto (-151), 3) := by decide +kernel
theorem dL_narrowed_227 : decode cL_narrowed 227 = .ok (.goto (-168), 3) := by decide +kernel
theorem dL_narrowed_230 : decode cL_narrowed 230 = .ok (.iload 4, 2) := by decide +kernel
theorem dL_narrowed_232 : decode cL_narrowed 232 = .ok (.ireturn, 1) := by decide +kernel
theorem dL_left_0 : decode cL_left 0 = .ok (.iconst 0, 1) := by decide +kernel
theorem dL_left_1 : decode cL_left 1 = .ok (.istore 6, 2) := by decide +kernel
theorem dL_left_3 : decode cL_left 3 = .ok (.iconst 0, 1) := by decide +kernel
theorem dL_left_4 : decode cL_left 4 = .ok (.istore 7, 2) := by decide +kernel
theorem dL_left_6 : decode cL_left 6 = .ok (.iload 7, 2) := by decide +kernel
theorem dL_left_8 : decode cL_left 8 = .ok (.aload_n 3, 1) := by decide +kernel
theorem dL_left_9 : decode cL_left 9 = .ok (.iconst 0, 1) := by decide +kernel
theorem dL_left_10 : decode cL_left 10 = .ok (.iaload, 1) := by decide +kernel
theorem dL_left_11 : decode cL_left 11 = .ok (.if_icmp .ge 171, 3) := by decide +kernel
theorem dL_left_14 : decode cL_left 14 = .ok (.iconst 0, 1) := by decide +kernel
theorem dL_left_15 : decode cL_left 15 = .ok (.istore 8, 2) := by decide +kernel
theorem dL_left_17 : decode cL_left 17 = .ok (.iconst 0, 1) := by decide +kernel
theorem dL_left_18 : decode cL_left 18 = .ok (.istore 9, 2) := by decide +kernel
theorem dL_left_20 : decode cL_left 20 = .ok (.iload 9, 2) := by decide +kernel
theorem dL_left_22 : decode cL_left 22 = .ok (.aload_n 0, 1) := by decide +kernel
theorem dL_left_23 : decode cL_left 23 = .ok (.iload 7, 2) := by decide +kernel
theorem dL_left_25 : decode cL_left 25 = .ok (.iaload, 1) := by decide +kernel
theorem dL_left_26 : decode cL_left 26 = .ok (.if_icmp .ge 124, 3) := by decide +kernel
theorem dL_left_29 : decode cL_left 29 = .ok (.aload_n 2, 1) := by decide +kernel
theorem dL_left_30 : decode cL_left 30 = .ok (.iload 7, 2) := by decide +kernel
theorem dL_left_32 : decode cL_left 32 = .ok (.iaload, 1) := by decide +kernel
theorem dL_left_33 : decode cL_left 33 = .ok (.ifCond .eq 14, 3) := by decide +kernel
theorem dL_left_36 : decode cL_left 36 = .ok (.aload_n 2, 1) := by decide +kernel
theorem dL_left_37 : decode cL_left 37 = .ok (.iload 7, 2) := by decide +kernel
theorem dL_left_39 : decode cL_left 39 = .ok (.iaload, 1) := by decide +kernel
theorem dL_left_40 : decode cL_left 40 = .ok (.iload 9, 2) := by decide +kernel
theorem dL_left_42 : decode cL_left 42 = .ok (.iconst 1, 1) := by decide +kernel
theorem dL_left_43 : decode cL_left 43 = .ok (.iadd, 1) := by decide +kernel
theorem dL_left_44 : decode cL_left 44 = .ok (.if_icmp .ne 7, 3) := by decide +kernel
theorem dL_left_47 : decode cL_left 47 = .ok (.iconst 1, 1) := by decide +kernel
theorem dL_left_48 : decode cL_left 48 = .ok (.goto 4, 3) := by decide +kernel
theorem dL_left_51 : decode cL_left 51 = .ok (.iconst 0, 1) := by decide +kernel
theorem dL_left_52 : decode cL_left 52 = .ok (.istore 10, 2) := by decide +kernel
theorem dL_left_54 : decode cL_left 54 = .ok (.iconst 0, 1) := by decide +kernel
theorem dL_left_55 : decode cL_left 55 = .ok (.istore 11, 2) := by decide +kernel
theorem dL_left_57 : decode cL_left 57 = .ok (.iload 11, 2) := by decide +kernel
theorem dL_left_59 : decode cL_left 59 = .ok (.iload 4, 2) := by decide +kernel
theorem dL_left_61 : decode cL_left 61 = .ok (.if_icmp .ge 65, 3) := by decide +kernel
theorem dL_left_64 : decode cL_left 64 = .ok (.iload 10, 2) := by decide +kernel
theorem dL_left_66 : decode cL_left 66 = .ok (.iload 11, 2) := by decide +kernel
theorem dL_left_68 : decode cL_left 68 = .ok (.iload 7, 2) := by decide +kernel
theorem dL_left_70 : decode cL_left 70 = .ok (.if_icmp .ne 26, 3) := by decide +kernel
theorem dL_left_73 : decode cL_left 73 = .ok (.iload 9, 2) := by decide +kernel
theorem dL_left_75 : decode cL_left 75 = .ok (.aload_n 0, 1) := by decide +kernel
theorem dL_left_76 : decode cL_left 76 = .ok (.iload 4, 2) := by decide +kernel
theorem dL_left_78 : decode cL_left 78 = .ok (.iload 5, 2) := by decide +kernel
theorem dL_left_80 : decode cL_left 80 = .ok (.iload 11, 2) := by decide +kernel
theorem dL_left_82 : decode cL_left 82 = .ok (.invokestatic 89, 3) := by decide +kernel
theorem dL_left_85 : decode cL_left 85 = .ok (.if_icmp .ne 7, 3) := by decide +kernel
theorem dL_left_88 : decode cL_left 88 = .ok (.iconst 1, 1) := by decide +kernel
theorem dL_left_89 : decode cL_left 89 = .ok (.goto 28, 3) := by decide +kernel
theorem dL_left_92 : decode cL_left 92 = .ok (.iconst 0, 1) := by decide +kernel
theorem dL_left_93 : decode cL_left 93 = .ok (.goto 24, 3) := by decide +kernel
theorem dL_left_96 : decode cL_left 96 = .ok (.aload_n 1, 1) := by decide +kernel
theorem dL_left_97 : decode cL_left 97 = .ok (.aload_n 3, 1) := by decide +kernel
theorem dL_left_98 : decode cL_left 98 = .ok (.iload 11, 2) := by decide +kernel
theorem dL_left_100 : decode cL_left 100 = .ok (.aload_n 0, 1) := by decide +kernel
theorem dL_left_101 : decode cL_left 101 = .ok (.iload 4, 2) := by decide +kernel
theorem dL_left_103 : decode cL_left 103 = .ok (.iload 5, 2) := by decide +kernel
theorem dL_left_105 : decode cL_left 105 = .ok (.iload 11, 2) := by decide +kernel
theorem dL_left_107 : decode cL_left 107 = .ok (.invokestatic 89, 3) := by decide +kernel
theorem dL_left_110 : decode cL_left 110 = .ok (.iload 7, 2) := by decide +kernel
theorem dL_left_112 : decode cL_left 112 = .ok (.iload 9, 2) := by decide +kernel
theorem dL_left_114 : decode cL_left 114 = .ok (.invokestatic 85, 3) := by decide +kernel
theorem dL_left_117 : decode cL_left 117 = .ok (.iand, 1) := by decide +kernel
theorem dL_left_118 : decode cL_left 118 = .ok (.istore 10, 2) := by decide +kernel
theorem dL_left_120 : decode cL_left 120 = .ok (.iinc 11 1, 3) := by decide +kernel
theorem dL_left_123 : decode cL_left 123 = .ok (.goto (-66), 3) := by decide +kernel
theorem dL_left_126 : decode cL_left 126 = .ok (.iload 8, 2) := by decide +kernel
theorem dL_left_128 : decode cL_left 128 = .ok (.iload 10, 2) := by decide +kernel
theorem dL_left_130 : decode cL_left 130 = .ok (.ifCond .eq 10, 3) := by decide +kernel
theorem dL_left_133 : decode cL_left 133 = .ok (.iconst 1, 1) := by decide +kernel
theorem dL_left_134 : decode cL_left 134 = .ok (.iload 9, 2) := by decide +kernel
theorem dL_left_136 : decode cL_left 136 = .ok (.ishl, 1) := by decide +kernel
theorem dL_left_137 : decode cL_left 137 = .ok (.goto 4, 3) := by decide +kernel
theorem dL_left_140 : decode cL_left 140 = .ok (.iconst 0, 1) := by decide +kernel
theorem dL_left_141 : decode cL_left 141 = .ok (.ior, 1) := by decide +kernel
theorem dL_left_142 : decode cL_left 142 = .ok (.istore 8, 2) := by decide +kernel
theorem dL_left_144 : decode cL_left 144 = .ok (.iinc 9 1, 3) := by decide +kernel
theorem dL_left_147 : decode cL_left 147 = .ok (.goto (-127), 3) := by decide +kernel
theorem dL_left_150 : decode cL_left 150 = .ok (.iload 8, 2) := by decide +kernel
theorem dL_left_152 : decode cL_left 152 = .ok (.ifCond .ne 5, 3) := by decide +kernel
theorem dL_left_155 : decode cL_left 155 = .ok (.iconst (-1), 1) := by decide +kernel
theorem dL_left_156 : decode cL_left 156 = .ok (.ireturn, 1) := by decide +kernel
theorem dL_left_157 : decode cL_left 157 = .ok (.iload 7, 2) := by decide +kernel
theorem dL_left_159 : decode cL_left 159 = .ok (.iload 4, 2) := by decide +kernel
theorem dL_left_161 : decode cL_left 161 = .ok (.if_icmp .lt 15, 3) := by decide +kernel
theorem dL_left_164 : decode cL_left 164 = .ok (.iload 6, 2) := by decide +kernel
theorem dL_left_166 : decode cL_left 166 = .ok (.iload 8, 2) := by decide +kernel
theorem dL_left_168 : decode cL_left 168 = .ok (.iconst 5, 1) := by decide +kernel
theorem dL_left_169 : decode cL_left 169 = .ok (.iload 7, 2) := by decide +kernel
theorem dL_left_171 : decode cL_left 171 = .ok (.imul, 1) := by decide +kernel
theorem dL_left_172 : decode cL_left 172 = .ok (.ishl, 1) := by decide +kernel
theorem dL_left_173 : decode cL_left 173 = .ok (.ior, 1) := by decide +kernel
theorem dL_left_174 : decode cL_left 174 = .ok (.istore 6, 2) := by decide +kernel
theorem dL_left_176 : decode cL_left 176 = .ok (.iinc 7 1, 3) := by decide +kernel
theorem dL_left_179 : decode cL_left 179 = .ok (.goto (-173), 3) := by decide +kernel
theorem dL_left_182 : decode cL_left 182 = .ok (.iload 6, 2) := by decide +kernel
theorem dL_left_184 : decode cL_left 184 = .ok (.ireturn, 1) := by decide +kernel
theorem dL_taken_0 : decode cL_taken 0 = .ok (.iload_n 2, 1) := by decide +kernel
theorem dL_taken_1 : decode cL_taken 1 = .ok (.istore 4, 2) := by decide +kernel
theorem dL_taken_3 : decode cL_taken 3 = .ok (.iload_n 1, 1) := by decide +kernel
theorem dL_taken_4 : decode cL_taken 4 = .ok (.iconst 1, 1) := by decide +kernel
theorem dL_taken_5 : decode cL_taken 5 = .ok (.isub, 1) := by decide +kernel
theorem dL_taken_6 : decode cL_taken 6 = .ok (.istore 5, 2) := by decide +kernel
theorem dL_taken_8 : decode cL_taken 8 = .ok (.iload 5, 2) := by decide +kernel
theorem dL_taken_10 : decode cL_taken 10 = .ok (.iload_n 3, 1) := by decide +kernel
theorem dL_taken_11 : decode cL_taken 11 = .ok (.if_icmp .le 18, 3) := by decide +kernel
theorem dL_taken_14 : decode cL_taken 14 = .ok (.iload 4, 2) := by decide +kernel
theorem dL_taken_16 : decode cL_taken 16 = .ok (.aload_n 0, 1) := by decide +kernel
theorem dL_taken_17 : decode cL_taken 17 = .ok (.iload 5, 2) := by decide +kernel
theorem dL_taken_19 : decode cL_taken 19 = .ok (.iaload, 1) := by decide +kernel
theorem dL_taken_20 : decode cL_taken 20 = .ok (.idiv, 1) := by decide +kernel
theorem dL_taken_21 : decode cL_taken 21 = .ok (.istore 4, 2) := by decide +kernel
theorem dL_taken_23 : decode cL_taken 23 = .ok (.iinc 5 (-1), 3) := by decide +kernel
theorem dL_taken_26 : decode cL_taken 26 = .ok (.goto (-18), 3) := by decide +kernel
theorem dL_taken_29 : decode cL_taken 29 = .ok (.iload 4, 2) := by decide +kernel
theorem dL_taken_31 : decode cL_taken 31 = .ok (.aload_n 0, 1) := by decide +kernel
theorem dL_taken_32 : decode cL_taken 32 = .ok (.iload_n 3, 1) := by decide +kernel
theorem dL_taken_33 : decode cL_taken 33 = .ok (.iaload, 1) := by decide +kernel
theorem dL_taken_34 : decode cL_taken 34 = .ok (.irem, 1) := by decide +kernel
theorem dL_taken_35 : decode cL_taken 35 = .ok (.ireturn, 1) := by decide +kernel
theorem dL_nodes_0 : decode cL_nodes 0 = .ok (.iconst 0, 1) := by decide +kernel
theorem dL_nodes_1 : decode cL_nodes 1 = .ok (.istore 5, 2) := by decide +kernel
theorem dL_nodes_3 : decode cL_nodes 3 = .ok (.iconst 1, 1) := by decide +kernel
theorem dL_nodes_4 : decode cL_nodes 4 = .ok (.istore 6, 2) := by decide +kernel
theorem dL_nodes_6 : decode cL_nodes 6 = .ok (.iconst 0, 1) := by decide +kernel
theorem dL_nodes_7 : decode cL_nodes 7 = .ok (.istore 7, 2) := by decide +kernel
theorem dL_nodes_9 : decode cL_nodes 9 = .ok (.iload 7, 2) := by decide +kernel
theorem dL_nodes_11 : decode cL_nodes 11 = .ok (.aload_n 3, 1) := by decide +kernel
theorem dL_nodes_12 : decode cL_nodes 12 = .ok (.iconst 0, 1) := by decide +kernel
theorem dL_nodes_13 : decode cL_nodes 13 = .ok (.iaload, 1) := by decide +kernel
theorem dL_nodes_14 : decode cL_nodes 14 = .ok (.if_icmp .gt 175, 3) := by decide +kernel
theorem dL_nodes_17 : decode cL_nodes 17 = .ok (.iconst 0, 1) := by decide +kernel
theorem dL_nodes_18 : decode cL_nodes 18 = .ok (.istore 8, 2) := by decide +kernel
theorem dL_nodes_20 : decode cL_nodes 20 = .ok (.iconst 0, 1) := by decide +kernel
theorem dL_nodes_21 : decode cL_nodes 21 = .ok (.istore 9, 2) := by decide +kernel
theorem dL_nodes_23 : decode cL_nodes 23 = .ok (.iload 9, 2) := by decide +kernel
theorem dL_nodes_25 : decode cL_nodes 25 = .ok (.iload 6, 2) := by decide +kernel
theorem dL_nodes_27 : decode cL_nodes 27 = .ok (.if_icmp .ge 132, 3) := by decide +kernel
theorem dL_nodes_30 : decode cL_nodes 30 = .ok (.aload_n 0, 1) := by decide +kernel
theorem dL_nodes_31 : decode cL_nodes 31 = .ok (.aload_n 1, 1) := by decide +kernel
theorem dL_nodes_32 : decode cL_nodes 32 = .ok (.aload_n 2, 1) := by decide +kernel
theorem dL_nodes_33 : decode cL_nodes 33 = .ok (.aload_n 3, 1) := by decide +kernel
theorem dL_nodes_34 : decode cL_nodes 34 = .ok (.iload 7, 2) := by decide +kernel
theorem dL_nodes_36 : decode cL_nodes 36 = .ok (.iload 9, 2) := by decide +kernel
theorem dL_nodes_38 : decode cL_nodes 38 = .ok (.invokestatic 93, 3) := by decide +kernel
theorem dL_nodes_41 : decode cL_nodes 41 = .ok (.istore 10, 2) := by decide +kernel
theorem dL_nodes_43 : decode cL_nodes 43 = .ok (.iload 10, 2) := by decide +kernel
theorem dL_nodes_45 : decode cL_nodes 45 = .ok (.ifCond .lt 7, 3) := by decide +kernel
theorem dL_nodes_48 : decode cL_nodes 48 = .ok (.iconst 1, 1) := by decide +kernel
theorem dL_nodes_49 : decode cL_nodes 49 = .ok (.goto 4, 3) := by decide +kernel
theorem dL_nodes_52 : decode cL_nodes 52 = .ok (.iconst 0, 1) := by decide +kernel
theorem dL_nodes_53 : decode cL_nodes 53 = .ok (.istore 11, 2) := by decide +kernel
theorem dL_nodes_55 : decode cL_nodes 55 = .ok (.iconst 0, 1) := by decide +kernel
theorem dL_nodes_56 : decode cL_nodes 56 = .ok (.istore 12, 2) := by decide +kernel
theorem dL_nodes_58 : decode cL_nodes 58 = .ok (.iload 12, 2) := by decide +kernel
theorem dL_nodes_60 : decode cL_nodes 60 = .ok (.iload 8, 2) := by decide +kernel
theorem dL_nodes_62 : decode cL_nodes 62 = .ok (.if_icmp .ge 46, 3) := by decide +kernel
theorem dL_nodes_65 : decode cL_nodes 65 = .ok (.iload 11, 2) := by decide +kernel
theorem dL_nodes_67 : decode cL_nodes 67 = .ok (.ifCond .eq 41, 3) := by decide +kernel
theorem dL_nodes_70 : decode cL_nodes 70 = .ok (.aload 4, 2) := by decide +kernel
theorem dL_nodes_72 : decode cL_nodes 72 = .ok (.iload 12, 2) := by decide +kernel
theorem dL_nodes_74 : decode cL_nodes 74 = .ok (.iconst 2, 1) := by decide +kernel
theorem dL_nodes_75 : decode cL_nodes 75 = .ok (.idiv, 1) := by decide +kernel
theorem dL_nodes_76 : decode cL_nodes 76 = .ok (.laload, 1) := by decide +kernel
theorem dL_nodes_77 : decode cL_nodes 77 = .ok (.bipush 30, 2) := by decide +kernel
theorem dL_nodes_79 : decode cL_nodes 79 = .ok (.iload 12, 2) := by decide +kernel
theorem dL_nodes_81 : decode cL_nodes 81 = .ok (.iconst 2, 1) := by decide +kernel
theorem dL_nodes_82 : decode cL_nodes 82 = .ok (.irem, 1) := by decide +kernel
theorem dL_nodes_83 : decode cL_nodes 83 = .ok (.imul, 1) := by decide +kernel
theorem dL_nodes_84 : decode cL_nodes 84 = .ok (.lshr, 1) := by decide +kernel
theorem dL_nodes_85 : decode cL_nodes 85 = .ok (.ldc2_w 97, 3) := by decide +kernel
theorem dL_nodes_88 : decode cL_nodes 88 = .ok (.land, 1) := by decide +kernel
theorem dL_nodes_89 : decode cL_nodes 89 = .ok (.l2i, 1) := by decide +kernel
theorem dL_nodes_90 : decode cL_nodes 90 = .ok (.iload 10, 2) := by decide +kernel
theorem dL_nodes_92 : decode cL_nodes 92 = .ok (.if_icmp .eq 7, 3) := by decide +kernel
theorem dL_nodes_95 : decode cL_nodes 95 = .ok (.iconst 1, 1) := by decide +kernel
theorem dL_nodes_96 : decode cL_nodes 96 = .ok (.goto 4, 3) := by decide +kernel
theorem dL_nodes_99 : decode cL_nodes 99 = .ok (.iconst 0, 1) := by decide +kernel
theorem dL_nodes_100 : decode cL_nodes 100 = .ok (.istore 11, 2) := by decide +kernel
theorem dL_nodes_102 : decode cL_nodes 102 = .ok (.iinc 12 1, 3) := by decide +kernel
theorem dL_nodes_105 : decode cL_nodes 105 = .ok (.goto (-47), 3) := by decide +kernel
theorem dL_nodes_108 : decode cL_nodes 108 = .ok (.iload 11, 2) := by decide +kernel
theorem dL_nodes_110 : decode cL_nodes 110 = .ok (.ifCond .ne 6, 3) := by decide +kernel
theorem dL_nodes_113 : decode cL_nodes 113 = .ok (.goto 40, 3) := by decide +kernel
theorem dL_nodes_116 : decode cL_nodes 116 = .ok (.aload 4, 2) := by decide +kernel
theorem dL_nodes_118 : decode cL_nodes 118 = .ok (.iload 8, 2) := by decide +kernel
theorem dL_nodes_120 : decode cL_nodes 120 = .ok (.iconst 2, 1) := by decide +kernel
theorem dL_nodes_121 : decode cL_nodes 121 = .ok (.idiv, 1) := by decide +kernel
theorem dL_nodes_122 : decode cL_nodes 122 = .ok (.iload 8, 2) := by decide +kernel
theorem dL_nodes_124 : decode cL_nodes 124 = .ok (.iconst 2, 1) := by decide +kernel
theorem dL_nodes_125 : decode cL_nodes 125 = .ok (.irem, 1) := by decide +kernel
theorem dL_nodes_126 : decode cL_nodes 126 = .ok (.ifCond .ne 9, 3) := by decide +kernel
theorem dL_nodes_129 : decode cL_nodes 129 = .ok (.iload 10, 2) := by decide +kernel
theorem dL_nodes_131 : decode cL_nodes 131 = .ok (.i2l, 1) := by decide +kernel
theorem dL_nodes_132 : decode cL_nodes 132 = .ok (.goto 17, 3) := by decide +kernel
theorem dL_nodes_135 : decode cL_nodes 135 = .ok (.aload 4, 2) := by decide +kernel
theorem dL_nodes_137 : decode cL_nodes 137 = .ok (.iload 8, 2) := by decide +kernel
theorem dL_nodes_139 : decode cL_nodes 139 = .ok (.iconst 2, 1) := by decide +kernel
theorem dL_nodes_140 : decode cL_nodes 140 = .ok (.idiv, 1) := by decide +kernel
theorem dL_nodes_141 : decode cL_nodes 141 = .ok (.laload, 1) := by decide +kernel
theorem dL_nodes_142 : decode cL_nodes 142 = .ok (.iload 10, 2) := by decide +kernel
theorem dL_nodes_144 : decode cL_nodes 144 = .ok (.i2l, 1) := by decide +kernel
theorem dL_nodes_145 : decode cL_nodes 145 = .ok (.bipush 30, 2) := by decide +kernel
theorem dL_nodes_147 : decode cL_nodes 147 = .ok (.lshl, 1) := by decide +kernel
theorem dL_nodes_148 : decode cL_nodes 148 = .ok (.lor, 1) := by decide +kernel
theorem dL_nodes_149 : decode cL_nodes 149 = .ok (.lastore, 1) := by decide +kernel
theorem dL_nodes_150 : decode cL_nodes 150 = .ok (.iinc 8 1, 3) := by decide +kernel
theorem dL_nodes_153 : decode cL_nodes 153 = .ok (.iinc 9 1, 3) := by decide +kernel
theorem dL_nodes_156 : decode cL_nodes 156 = .ok (.goto (-133), 3) := by decide +kernel
theorem dL_nodes_159 : decode cL_nodes 159 = .ok (.iload 5, 2) := by decide +kernel
theorem dL_nodes_161 : decode cL_nodes 161 = .ok (.iload 8, 2) := by decide +kernel
theorem dL_nodes_163 : decode cL_nodes 163 = .ok (.iadd, 1) := by decide +kernel
theorem dL_nodes_164 : decode cL_nodes 164 = .ok (.istore 5, 2) := by decide +kernel
theorem dL_nodes_166 : decode cL_nodes 166 = .ok (.iload 7, 2) := by decide +kernel
theorem dL_nodes_168 : decode cL_nodes 168 = .ok (.aload_n 3, 1) := by decide +kernel
theorem dL_nodes_169 : decode cL_nodes 169 = .ok (.iconst 0, 1) := by decide +kernel
theorem dL_nodes_170 : decode cL_nodes 170 = .ok (.iaload, 1) := by decide +kernel
theorem dL_nodes_171 : decode cL_nodes 171 = .ok (.if_icmp .ge 12, 3) := by decide +kernel
theorem dL_nodes_174 : decode cL_nodes 174 = .ok (.iload 6, 2) := by decide +kernel
theorem dL_nodes_176 : decode cL_nodes 176 = .ok (.aload_n 0, 1) := by decide +kernel
theorem dL_nodes_177 : decode cL_nodes 177 = .ok (.iload 7, 2) := by decide +kernel
theorem dL_nodes_179 : decode cL_nodes 179 = .ok (.iaload, 1) := by decide +kernel
theorem dL_nodes_180 : decode cL_nodes 180 = .ok (.imul, 1) := by decide +kernel
theorem dL_nodes_181 : decode cL_nodes 181 = .ok (.istore 6, 2) := by decide +kernel
theorem dL_nodes_183 : decode cL_nodes 183 = .ok (.iinc 7 1, 3) := by decide +kernel
theorem dL_nodes_186 : decode cL_nodes 186 = .ok (.goto (-177), 3) := by decide +kernel
theorem dL_nodes_189 : decode cL_nodes 189 = .ok (.iload 5, 2) := by decide +kernel
theorem dL_nodes_191 : decode cL_nodes 191 = .ok (.ireturn, 1) := by decide +kernel
theorem dL_product_0 : decode cL_product 0 = .ok (.aload 9, 2) := by decide +kernel
theorem dL_product_2 : decode cL_product 2 = .ok (.iconst 0, 1) := by decide +kernel
theorem dL_product_3 : decode cL_product 3 = .ok (.iaload, 1) := by decide +kernel
theorem dL_product_4 : decode cL_product 4 = .ok (.iconst 2, 1) := by decide +kernel
theorem dL_product_5 : decode cL_product 5 = .ok (.if_icmp .lt 12, 3) := by decide +kernel
theorem dL_product_8 : decode cL_product 8 = .ok (.iload_n 1, 1) := by decide +kernel
theorem dL_product_9 : decode cL_product 9 = .ok (.bipush 9, 2) := by decide +kernel
theorem dL_product_11 : decode cL_product 11 = .ok (.invokestatic 99, 3) := by decide +kernel
theorem dL_product_14 : decode cL_product 14 = .ok (.ifCond .ne 110, 3) := by decide +kernel
theorem dL_product_17 : decode cL_product 17 = .ok (.aload 9, 2) := by decide +kernel
theorem dL_product_19 : decode cL_product 19 = .ok (.iconst 0, 1) := by decide +kernel
theorem dL_product_20 : decode cL_product 20 = .ok (.iaload, 1) := by decide +kernel
theorem dL_product_21 : decode cL_product 21 = .ok (.iconst 5, 1) := by decide +kernel
theorem dL_product_22 : decode cL_product 22 = .ok (.if_icmp .ne 32, 3) := by decide +kernel
theorem dL_product_25 : decode cL_product 25 = .ok (.aload_n 0, 1) := by decide +kernel
theorem dL_product_26 : decode cL_product 26 = .ok (.bipush 6, 2) := by decide +kernel
theorem dL_product_28 : decode cL_product 28 = .ok (.invokestatic 102, 3) := by decide +kernel
theorem dL_product_31 : decode cL_product 31 = .ok (.sipush (-7002), 3) := by decide +kernel
theorem dL_product_34 : decode cL_product 34 = .ok (.if_icmp .ne 18, 3) := by decide +kernel
theorem dL_product_37 : decode cL_product 37 = .ok (.aload_n 0, 1) := by decide +kernel
theorem dL_product_38 : decode cL_product 38 = .ok (.iconst 1, 1) := by decide +kernel
theorem dL_product_39 : decode cL_product 39 = .ok (.invokestatic 102, 3) := by decide +kernel
theorem dL_product_42 : decode cL_product 42 = .ok (.sipush (-7002), 3) := by decide +kernel
theorem dL_product_45 : decode cL_product 45 = .ok (.if_icmp .ne 7, 3) := by decide +kernel
theorem dL_product_48 : decode cL_product 48 = .ok (.iconst 1, 1) := by decide +kernel
theorem dL_product_49 : decode cL_product 49 = .ok (.goto 4, 3) := by decide +kernel
theorem dL_product_52 : decode cL_product 52 = .ok (.iconst 0, 1) := by decide +kernel
theorem dL_product_53 : decode cL_product 53 = .ok (.ireturn, 1) := by decide +kernel
theorem dL_product_54 : decode cL_product 54 = .ok (.aload_n 3, 1) := by decide +kernel
theorem dL_product_55 : decode cL_product 55 = .ok (.aload 9, 2) := by decide +kernel
theorem dL_product_57 : decode cL_product 57 = .ok (.iconst 0, 1) := by decide +kernel
theorem dL_product_58 : decode cL_product 58 = .ok (.iaload, 1) := by decide +kernel
theorem dL_product_59 : decode cL_product 59 = .ok (.iconst 2, 1) := by decide +kernel
theorem dL_product_60 : decode cL_product 60 = .ok (.iload_n 2, 1) := by decide +kernel
theorem dL_product_61 : decode cL_product 61 = .ok (.iconst 2, 1) := by decide +kernel
theorem dL_product_62 : decode cL_product 62 = .ok (.invokestatic 99, 3) := by decide +kernel
theorem dL_product_65 : decode cL_product 65 = .ok (.iadd, 1) := by decide +kernel
theorem dL_product_66 : decode cL_product 66 = .ok (.iastore, 1) := by decide +kernel
theorem dL_product_67 : decode cL_product 67 = .ok (.aload 8, 2) := by decide +kernel
theorem dL_product_69 : decode cL_product 69 = .ok (.aload 9, 2) := by decide +kernel
theorem dL_product_71 : decode cL_product 71 = .ok (.iconst 0, 1) := by decide +kernel
theorem dL_product_72 : decode cL_product 72 = .ok (.iaload, 1) := by decide +kernel
theorem dL_product_73 : decode cL_product 73 = .ok (.iconst 0, 1) := by decide +kernel
theorem dL_product_74 : decode cL_product 74 = .ok (.iastore, 1) := by decide +kernel
theorem dL_product_75 : decode cL_product 75 = .ok (.aload 9, 2) := by decide +kernel
theorem dL_product_77 : decode cL_product 77 = .ok (.bipush 6, 2) := by decide +kernel
theorem dL_product_79 : decode cL_product 79 = .ok (.dup2, 1) := by decide +kernel
theorem dL_product_80 : decode cL_product 80 = .ok (.iaload, 1) := by decide +kernel
theorem dL_product_81 : decode cL_product 81 = .ok (.aload_n 3, 1) := by decide +kernel
theorem dL_product_82 : decode cL_product 82 = .ok (.aload 9, 2) := by decide +kernel
theorem dL_product_84 : decode cL_product 84 = .ok (.iconst 0, 1) := by decide +kernel
theorem dL_product_85 : decode cL_product 85 = .ok (.iaload, 1) := by decide +kernel
theorem dL_product_86 : decode cL_product 86 = .ok (.iaload, 1) := by decide +kernel
theorem dL_product_87 : decode cL_product 87 = .ok (.imul, 1) := by decide +kernel
theorem dL_product_88 : decode cL_product 88 = .ok (.iastore, 1) := by decide +kernel
theorem dL_product_89 : decode cL_product 89 = .ok (.aload 9, 2) := by decide +kernel
theorem dL_product_91 : decode cL_product 91 = .ok (.iconst 0, 1) := by decide +kernel
theorem dL_product_92 : decode cL_product 92 = .ok (.dup2, 1) := by decide +kernel
theorem dL_product_93 : decode cL_product 93 = .ok (.iaload, 1) := by decide +kernel
theorem dL_product_94 : decode cL_product 94 = .ok (.iconst 1, 1) := by decide +kernel
theorem dL_product_95 : decode cL_product 95 = .ok (.iadd, 1) := by decide +kernel
theorem dL_product_96 : decode cL_product 96 = .ok (.iastore, 1) := by decide +kernel
theorem dL_product_97 : decode cL_product 97 = .ok (.aload_n 0, 1) := by decide +kernel
theorem dL_product_98 : decode cL_product 98 = .ok (.aload_n 3, 1) := by decide +kernel
theorem dL_product_99 : decode cL_product 99 = .ok (.aload 9, 2) := by decide +kernel
theorem dL_product_101 : decode cL_product 101 = .ok (.iconst 0, 1) := by decide +kernel
theorem dL_product_102 : decode cL_product 102 = .ok (.iaload, 1) := by decide +kernel
theorem dL_product_103 : decode cL_product 103 = .ok (.iconst 1, 1) := by decide +kernel
theorem dL_product_104 : decode cL_product 104 = .ok (.isub, 1) := by decide +kernel
theorem dL_product_105 : decode cL_product 105 = .ok (.iaload, 1) := by decide +kernel
theorem dL_product_106 : decode cL_product 106 = .ok (.invokestatic 102, 3) := by decide +kernel
theorem dL_product_109 : decode cL_product 109 = .ok (.aload 9, 2) := by decide +kernel
theorem dL_product_111 : decode cL_product 111 = .ok (.iconst 0, 1) := by decide +kernel
theorem dL_product_112 : decode cL_product 112 = .ok (.iaload, 1) := by decide +kernel
theorem dL_product_113 : decode cL_product 113 = .ok (.iconst 1, 1) := by decide +kernel
theorem dL_product_114 : decode cL_product 114 = .ok (.isub, 1) := by decide +kernel
theorem dL_product_115 : decode cL_product 115 = .ok (.if_icmp .ne 7, 3) := by decide +kernel
theorem dL_product_118 : decode cL_product 118 = .ok (.iconst 1, 1) := by decide +kernel
theorem dL_product_119 : decode cL_product 119 = .ok (.goto 4, 3) := by decide +kernel
theorem dL_product_122 : decode cL_product 122 = .ok (.iconst 0, 1) := by decide +kernel
theorem dL_product_123 : decode cL_product 123 = .ok (.ireturn, 1) := by decide +kernel
theorem dL_product_124 : decode cL_product 124 = .ok (.iload_n 2, 1) := by decide +kernel
theorem dL_product_125 : decode cL_product 125 = .ok (.aload 9, 2) := by decide +kernel
theorem dL_product_127 : decode cL_product 127 = .ok (.iconst 0, 1) := by decide +kernel
theorem dL_product_128 : decode cL_product 128 = .ok (.iaload, 1) := by decide +kernel
theorem dL_product_129 : decode cL_product 129 = .ok (.invokestatic 99, 3) := by decide +kernel
theorem dL_product_132 : decode cL_product 132 = .ok (.istore 10, 2) := by decide +kernel
theorem dL_product_134 : decode cL_product 134 = .ok (.iload 10, 2) := by decide +kernel
theorem dL_product_136 : decode cL_product 136 = .ok (.iconst 1, 1) := by decide +kernel
theorem dL_product_137 : decode cL_product 137 = .ok (.iadd, 1) := by decide +kernel
theorem dL_product_138 : decode cL_product 138 = .ok (.iload_n 2, 1) := by decide +kernel
theorem dL_product_139 : decode cL_product 139 = .ok (.iconst 4, 1) := by decide +kernel
theorem dL_product_140 : decode cL_product 140 = .ok (.ishr, 1) := by decide +kernel
theorem dL_product_141 : decode cL_product 141 = .ok (.aload 9, 2) := by decide +kernel
theorem dL_product_143 : decode cL_product 143 = .ok (.iconst 0, 1) := by decide +kernel
theorem dL_product_144 : decode cL_product 144 = .ok (.iaload, 1) := by decide +kernel
theorem dL_product_145 : decode cL_product 145 = .ok (.iconst 1, 1) := by decide +kernel
theorem dL_product_146 : decode cL_product 146 = .ok (.isub, 1) := by decide +kernel
theorem dL_product_147 : decode cL_product 147 = .ok (.invokestatic 99, 3) := by decide +kernel
theorem dL_product_150 : decode cL_product 150 = .ok (.iadd, 1) := by decide +kernel
theorem dL_product_151 : decode cL_product 151 = .ok (.aload 9, 2) := by decide +kernel
theorem dL_product_153 : decode cL_product 153 = .ok (.iconst 0, 1) := by decide +kernel
theorem dL_product_154 : decode cL_product 154 = .ok (.iaload, 1) := by decide +kernel
theorem dL_product_155 : decode cL_product 155 = .ok (.irem, 1) := by decide +kernel
theorem dL_product_156 : decode cL_product 156 = .ok (.istore 11, 2) := by decide +kernel
theorem dL_product_158 : decode cL_product 158 = .ok (.iload_n 2, 1) := by decide +kernel
theorem dL_product_159 : decode cL_product 159 = .ok (.bipush 8, 2) := by decide +kernel
theorem dL_product_161 : decode cL_product 161 = .ok (.ishr, 1) := by decide +kernel
theorem dL_product_162 : decode cL_product 162 = .ok (.aload_n 3, 1) := by decide +kernel
theorem dL_product_163 : decode cL_product 163 = .ok (.iload 10, 2) := by decide +kernel
theorem dL_product_165 : decode cL_product 165 = .ok (.iaload, 1) := by decide +kernel
theorem dL_product_166 : decode cL_product 166 = .ok (.invokestatic 99, 3) := by decide +kernel
theorem dL_product_169 : decode cL_product 169 = .ok (.istore 12, 2) := by decide +kernel
theorem dL_product_171 : decode cL_product 171 = .ok (.iload_n 2, 1) := by decide +kernel
theorem dL_product_172 : decode cL_product 172 = .ok (.bipush 11, 2) := by decide +kernel
theorem dL_product_174 : decode cL_product 174 = .ok (.ishr, 1) := by decide +kernel
theorem dL_product_175 : decode cL_product 175 = .ok (.aload_n 3, 1) := by decide +kernel
theorem dL_product_176 : decode cL_product 176 = .ok (.iload 11, 2) := by decide +kernel
theorem dL_product_178 : decode cL_product 178 = .ok (.iaload, 1) := by decide +kernel
theorem dL_product_179 : decode cL_product 179 = .ok (.invokestatic 99, 3) := by decide +kernel
theorem dL_product_182 : decode cL_product 182 = .ok (.istore 13, 2) := by decide +kernel
theorem dL_product_184 : decode cL_product 184 = .ok (.iload_n 2, 1) := by decide +kernel
theorem dL_product_185 : decode cL_product 185 = .ok (.bipush 14, 2) := by decide +kernel
theorem dL_product_187 : decode cL_product 187 = .ok (.ishr, 1) := by decide +kernel
theorem dL_product_188 : decode cL_product 188 = .ok (.iconst 3, 1) := by decide +kernel
theorem dL_product_189 : decode cL_product 189 = .ok (.invokestatic 99, 3) := by decide +kernel
theorem dL_product_192 : decode cL_product 192 = .ok (.istore 14, 2) := by decide +kernel
theorem dL_product_194 : decode cL_product 194 = .ok (.iload_n 1, 1) := by decide +kernel
theorem dL_product_195 : decode cL_product 195 = .ok (.bipush 9, 2) := by decide +kernel
theorem dL_product_197 : decode cL_product 197 = .ok (.invokestatic 99, 3) := by decide +kernel
theorem dL_product_200 : decode cL_product 200 = .ok (.tableswitch 779 1 7 #[44, 44, 44, 44, 315, 495, 590], 44) := by decide +kernel
theorem dL_product_244 : decode cL_product 244 = .ok (.aload_n 0, 1) := by decide +kernel
theorem dL_product_245 : decode cL_product 245 = .ok (.iconst 3, 1) := by decide +kernel
theorem dL_product_246 : decode cL_product 246 = .ok (.iload 10, 2) := by decide +kernel
theorem dL_product_248 : decode cL_product 248 = .ok (.iload 12, 2) := by decide +kernel
theorem dL_product_250 : decode cL_product 250 = .ok (.iload 11, 2) := by decide +kernel
theorem dL_product_252 : decode cL_product 252 = .ok (.iload 13, 2) := by decide +kernel
theorem dL_product_254 : decode cL_product 254 = .ok (.invokestatic 105, 3) := by decide +kernel
theorem dL_product_257 : decode cL_product 257 = .ok (.sipush (-7002), 3) := by decide +kernel
theorem dL_product_260 : decode cL_product 260 = .ok (.if_icmp .ne 66, 3) := by decide +kernel
