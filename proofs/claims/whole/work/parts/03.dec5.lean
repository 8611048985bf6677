theorem dX5_markTold_54 : decode cX5_markTold 54 = .ok (.iadd, 1) := by decide +kernel
theorem dX5_markTold_55 : decode cX5_markTold 55 = .ok (.istore 4, 2) := by decide +kernel
theorem dX5_markTold_57 : decode cX5_markTold 57 = .ok (.iinc 5 1, 3) := by decide +kernel
theorem dX5_markTold_60 : decode cX5_markTold 60 = .ok (.goto (-30), 3) := by decide +kernel
theorem dX5_markTold_63 : decode cX5_markTold 63 = .ok (.iload_n 2, 1) := by decide +kernel
theorem dX5_markTold_64 : decode cX5_markTold 64 = .ok (.ifCond .ne 20, 3) := by decide +kernel
theorem dX5_markTold_67 : decode cX5_markTold 67 = .ok (.aload_n 0, 1) := by decide +kernel
theorem dX5_markTold_68 : decode cX5_markTold 68 = .ok (.getfield 45, 3) := by decide +kernel
theorem dX5_markTold_71 : decode cX5_markTold 71 = .ok (.iload_n 3, 1) := by decide +kernel
theorem dX5_markTold_72 : decode cX5_markTold 72 = .ok (.baload, 1) := by decide +kernel
theorem dX5_markTold_73 : decode cX5_markTold 73 = .ok (.ifCond .eq 7, 3) := by decide +kernel
theorem dX5_markTold_76 : decode cX5_markTold 76 = .ok (.iconst 1, 1) := by decide +kernel
theorem dX5_markTold_77 : decode cX5_markTold 77 = .ok (.goto 79, 3) := by decide +kernel
theorem dX5_markTold_80 : decode cX5_markTold 80 = .ok (.iconst 0, 1) := by decide +kernel
theorem dX5_markTold_81 : decode cX5_markTold 81 = .ok (.goto 75, 3) := by decide +kernel
theorem dX5_markTold_84 : decode cX5_markTold 84 = .ok (.iload_n 2, 1) := by decide +kernel
theorem dX5_markTold_85 : decode cX5_markTold 85 = .ok (.iconst 1, 1) := by decide +kernel
theorem dX5_markTold_86 : decode cX5_markTold 86 = .ok (.if_icmp .ne 12, 3) := by decide +kernel
theorem dX5_markTold_89 : decode cX5_markTold 89 = .ok (.aload_n 0, 1) := by decide +kernel
theorem dX5_markTold_90 : decode cX5_markTold 90 = .ok (.getfield 48, 3) := by decide +kernel
theorem dX5_markTold_93 : decode cX5_markTold 93 = .ok (.iload_n 3, 1) := by decide +kernel
theorem dX5_markTold_94 : decode cX5_markTold 94 = .ok (.iaload, 1) := by decide +kernel
theorem dX5_markTold_95 : decode cX5_markTold 95 = .ok (.goto 61, 3) := by decide +kernel
theorem dX5_markTold_98 : decode cX5_markTold 98 = .ok (.iload_n 2, 1) := by decide +kernel
theorem dX5_markTold_99 : decode cX5_markTold 99 = .ok (.iconst 2, 1) := by decide +kernel
theorem dX5_markTold_100 : decode cX5_markTold 100 = .ok (.if_icmp .ne 12, 3) := by decide +kernel
theorem dX5_markTold_103 : decode cX5_markTold 103 = .ok (.aload_n 0, 1) := by decide +kernel
theorem dX5_markTold_104 : decode cX5_markTold 104 = .ok (.getfield 51, 3) := by decide +kernel
theorem dX5_markTold_107 : decode cX5_markTold 107 = .ok (.iload_n 3, 1) := by decide +kernel
theorem dX5_markTold_108 : decode cX5_markTold 108 = .ok (.iaload, 1) := by decide +kernel
theorem dX5_markTold_109 : decode cX5_markTold 109 = .ok (.goto 47, 3) := by decide +kernel
theorem dX5_markTold_112 : decode cX5_markTold 112 = .ok (.iload_n 2, 1) := by decide +kernel
theorem dX5_markTold_113 : decode cX5_markTold 113 = .ok (.iconst 3, 1) := by decide +kernel
theorem dX5_markTold_114 : decode cX5_markTold 114 = .ok (.if_icmp .ne 8, 3) := by decide +kernel
theorem dX5_markTold_117 : decode cX5_markTold 117 = .ok (.iload 4, 2) := by decide +kernel
theorem dX5_markTold_119 : decode cX5_markTold 119 = .ok (.goto 37, 3) := by decide +kernel
theorem dX5_markTold_122 : decode cX5_markTold 122 = .ok (.iload_n 2, 1) := by decide +kernel
theorem dX5_markTold_123 : decode cX5_markTold 123 = .ok (.iconst 4, 1) := by decide +kernel
theorem dX5_markTold_124 : decode cX5_markTold 124 = .ok (.if_icmp .ne 12, 3) := by decide +kernel
theorem dX5_markTold_127 : decode cX5_markTold 127 = .ok (.aload_n 0, 1) := by decide +kernel
theorem dX5_markTold_128 : decode cX5_markTold 128 = .ok (.getfield 60, 3) := by decide +kernel
theorem dX5_markTold_131 : decode cX5_markTold 131 = .ok (.iload_n 3, 1) := by decide +kernel
theorem dX5_markTold_132 : decode cX5_markTold 132 = .ok (.iaload, 1) := by decide +kernel
theorem dX5_markTold_133 : decode cX5_markTold 133 = .ok (.goto 23, 3) := by decide +kernel
theorem dX5_markTold_136 : decode cX5_markTold 136 = .ok (.iload_n 2, 1) := by decide +kernel
theorem dX5_markTold_137 : decode cX5_markTold 137 = .ok (.iconst 5, 1) := by decide +kernel
theorem dX5_markTold_138 : decode cX5_markTold 138 = .ok (.if_icmp .ne 12, 3) := by decide +kernel
theorem dX5_markTold_141 : decode cX5_markTold 141 = .ok (.aload_n 0, 1) := by decide +kernel
theorem dX5_markTold_142 : decode cX5_markTold 142 = .ok (.getfield 63, 3) := by decide +kernel
theorem dX5_markTold_145 : decode cX5_markTold 145 = .ok (.iload_n 3, 1) := by decide +kernel
theorem dX5_markTold_146 : decode cX5_markTold 146 = .ok (.iaload, 1) := by decide +kernel
theorem dX5_markTold_147 : decode cX5_markTold 147 = .ok (.goto 9, 3) := by decide +kernel
theorem dX5_markTold_150 : decode cX5_markTold 150 = .ok (.aload_n 0, 1) := by decide +kernel
theorem dX5_markTold_151 : decode cX5_markTold 151 = .ok (.getfield 66, 3) := by decide +kernel
theorem dX5_markTold_154 : decode cX5_markTold 154 = .ok (.iload_n 3, 1) := by decide +kernel
theorem dX5_markTold_155 : decode cX5_markTold 155 = .ok (.iaload, 1) := by decide +kernel
theorem dX5_markTold_156 : decode cX5_markTold 156 = .ok (.ireturn, 1) := by decide +kernel
theorem dX5_list_0 : decode cX5_list 0 = .ok (.aload_n 0, 1) := by decide +kernel
theorem dX5_list_1 : decode cX5_list 1 = .ok (.iload_n 1, 1) := by decide +kernel
theorem dX5_list_2 : decode cX5_list 2 = .ok (.invokevirtual 137, 3) := by decide +kernel
theorem dX5_list_5 : decode cX5_list 5 = .ok (.istore 4, 2) := by decide +kernel
theorem dX5_list_7 : decode cX5_list 7 = .ok (.iload 4, 2) := by decide +kernel
theorem dX5_list_9 : decode cX5_list 9 = .ok (.iconst (-1), 1) := by decide +kernel
theorem dX5_list_10 : decode cX5_list 10 = .ok (.if_icmp .eq 24, 3) := by decide +kernel
theorem dX5_list_13 : decode cX5_list 13 = .ok (.iload_n 2, 1) := by decide +kernel
theorem dX5_list_14 : decode cX5_list 14 = .ok (.iconst 0, 1) := by decide +kernel
theorem dX5_list_15 : decode cX5_list 15 = .ok (.aload_n 0, 1) := by decide +kernel
theorem dX5_list_16 : decode cX5_list 16 = .ok (.getfield 51, 3) := by decide +kernel
theorem dX5_list_19 : decode cX5_list 19 = .ok (.iload 4, 2) := by decide +kernel
theorem dX5_list_21 : decode cX5_list 21 = .ok (.iaload, 1) := by decide +kernel
theorem dX5_list_22 : decode cX5_list 22 = .ok (.iconst 1, 1) := by decide +kernel
theorem dX5_list_23 : decode cX5_list 23 = .ok (.isub, 1) := by decide +kernel
theorem dX5_list_24 : decode cX5_list 24 = .ok (.invokestatic 72, 3) := by decide +kernel
theorem dX5_list_27 : decode cX5_list 27 = .ok (.ifCond .eq 7, 3) := by decide +kernel
theorem dX5_list_30 : decode cX5_list 30 = .ok (.iload_n 3, 1) := by decide +kernel
theorem dX5_list_31 : decode cX5_list 31 = .ok (.ifCond .ge 6, 3) := by decide +kernel
theorem dX5_list_34 : decode cX5_list 34 = .ok (.bipush (-2), 2) := by decide +kernel
theorem dX5_list_36 : decode cX5_list 36 = .ok (.ireturn, 1) := by decide +kernel
theorem dX5_list_37 : decode cX5_list 37 = .ok (.iload_n 3, 1) := by decide +kernel
theorem dX5_list_38 : decode cX5_list 38 = .ok (.aload_n 0, 1) := by decide +kernel
theorem dX5_list_39 : decode cX5_list 39 = .ok (.getfield 54, 3) := by decide +kernel
theorem dX5_list_42 : decode cX5_list 42 = .ok (.iconst 4, 1) := by decide +kernel
theorem dX5_list_43 : decode cX5_list 43 = .ok (.iload 4, 2) := by decide +kernel
theorem dX5_list_45 : decode cX5_list 45 = .ok (.imul, 1) := by decide +kernel
theorem dX5_list_46 : decode cX5_list 46 = .ok (.iload_n 2, 1) := by decide +kernel
theorem dX5_list_47 : decode cX5_list 47 = .ok (.iadd, 1) := by decide +kernel
theorem dX5_list_48 : decode cX5_list 48 = .ok (.iaload, 1) := by decide +kernel
theorem dX5_list_49 : decode cX5_list 49 = .ok (.if_icmp .ge 22, 3) := by decide +kernel
theorem dX5_list_52 : decode cX5_list 52 = .ok (.aload_n 0, 1) := by decide +kernel
theorem dX5_list_53 : decode cX5_list 53 = .ok (.getfield 57, 3) := by decide +kernel
theorem dX5_list_56 : decode cX5_list 56 = .ok (.bipush 80, 2) := by decide +kernel
theorem dX5_list_58 : decode cX5_list 58 = .ok (.iconst 4, 1) := by decide +kernel
theorem dX5_list_59 : decode cX5_list 59 = .ok (.iload 4, 2) := by decide +kernel
theorem dX5_list_61 : decode cX5_list 61 = .ok (.imul, 1) := by decide +kernel
theorem dX5_list_62 : decode cX5_list 62 = .ok (.iload_n 2, 1) := by decide +kernel
theorem dX5_list_63 : decode cX5_list 63 = .ok (.iadd, 1) := by decide +kernel
theorem dX5_list_64 : decode cX5_list 64 = .ok (.imul, 1) := by decide +kernel
theorem dX5_list_65 : decode cX5_list 65 = .ok (.iload_n 3, 1) := by decide +kernel
theorem dX5_list_66 : decode cX5_list 66 = .ok (.iadd, 1) := by decide +kernel
theorem dX5_list_67 : decode cX5_list 67 = .ok (.iaload, 1) := by decide +kernel
theorem dX5_list_68 : decode cX5_list 68 = .ok (.goto 4, 3) := by decide +kernel
theorem dX5_list_71 : decode cX5_list 71 = .ok (.iconst (-1), 1) := by decide +kernel
theorem dX5_list_72 : decode cX5_list 72 = .ok (.ireturn, 1) := by decide +kernel
theorem dX5_same_0 : decode cX5_same 0 = .ok (.aload_n 0, 1) := by decide +kernel
theorem dX5_same_1 : decode cX5_same 1 = .ok (.iload_n 1, 1) := by decide +kernel
theorem dX5_same_2 : decode cX5_same 2 = .ok (.invokevirtual 137, 3) := by decide +kernel
theorem dX5_same_5 : decode cX5_same 5 = .ok (.istore_n 3, 1) := by decide +kernel
theorem dX5_same_6 : decode cX5_same 6 = .ok (.aload_n 0, 1) := by decide +kernel
theorem dX5_same_7 : decode cX5_same 7 = .ok (.iload_n 2, 1) := by decide +kernel
theorem dX5_same_8 : decode cX5_same 8 = .ok (.invokevirtual 137, 3) := by decide +kernel
theorem dX5_same_11 : decode cX5_same 11 = .ok (.istore 4, 2) := by decide +kernel
theorem dX5_same_13 : decode cX5_same 13 = .ok (.iload_n 3, 1) := by decide +kernel
theorem dX5_same_14 : decode cX5_same 14 = .ok (.iconst (-1), 1) := by decide +kernel
theorem dX5_same_15 : decode cX5_same 15 = .ok (.if_icmp .eq 29, 3) := by decide +kernel
theorem dX5_same_18 : decode cX5_same 18 = .ok (.iload 4, 2) := by decide +kernel
theorem dX5_same_20 : decode cX5_same 20 = .ok (.iconst (-1), 1) := by decide +kernel
theorem dX5_same_21 : decode cX5_same 21 = .ok (.if_icmp .eq 23, 3) := by decide +kernel
theorem dX5_same_24 : decode cX5_same 24 = .ok (.aload_n 0, 1) := by decide +kernel
theorem dX5_same_25 : decode cX5_same 25 = .ok (.getfield 51, 3) := by decide +kernel
theorem dX5_same_28 : decode cX5_same 28 = .ok (.iload_n 3, 1) := by decide +kernel
theorem dX5_same_29 : decode cX5_same 29 = .ok (.iaload, 1) := by decide +kernel
theorem dX5_same_30 : decode cX5_same 30 = .ok (.aload_n 0, 1) := by decide +kernel
theorem dX5_same_31 : decode cX5_same 31 = .ok (.getfield 51, 3) := by decide +kernel
theorem dX5_same_34 : decode cX5_same 34 = .ok (.iload 4, 2) := by decide +kernel
theorem dX5_same_36 : decode cX5_same 36 = .ok (.iaload, 1) := by decide +kernel
theorem dX5_same_37 : decode cX5_same 37 = .ok (.if_icmp .ne 7, 3) := by decide +kernel
theorem dX5_same_40 : decode cX5_same 40 = .ok (.iconst 1, 1) := by decide +kernel
theorem dX5_same_41 : decode cX5_same 41 = .ok (.goto 4, 3) := by decide +kernel
theorem dX5_same_44 : decode cX5_same 44 = .ok (.iconst 0, 1) := by decide +kernel
theorem dX5_same_45 : decode cX5_same 45 = .ok (.istore 5, 2) := by decide +kernel
theorem dX5_same_47 : decode cX5_same 47 = .ok (.iconst 0, 1) := by decide +kernel
theorem dX5_same_48 : decode cX5_same 48 = .ok (.istore 6, 2) := by decide +kernel
theorem dX5_same_50 : decode cX5_same 50 = .ok (.iload 5, 2) := by decide +kernel
theorem dX5_same_52 : decode cX5_same 52 = .ok (.ifCond .eq 128, 3) := by decide +kernel
theorem dX5_same_55 : decode cX5_same 55 = .ok (.iload 6, 2) := by decide +kernel
theorem dX5_same_57 : decode cX5_same 57 = .ok (.aload_n 0, 1) := by decide +kernel
theorem dX5_same_58 : decode cX5_same 58 = .ok (.getfield 51, 3) := by decide +kernel
theorem dX5_same_61 : decode cX5_same 61 = .ok (.iload_n 3, 1) := by decide +kernel
theorem dX5_same_62 : decode cX5_same 62 = .ok (.iaload, 1) := by decide +kernel
theorem dX5_same_63 : decode cX5_same 63 = .ok (.if_icmp .ge 117, 3) := by decide +kernel
theorem dX5_same_66 : decode cX5_same 66 = .ok (.aload_n 0, 1) := by decide +kernel
theorem dX5_same_67 : decode cX5_same 67 = .ok (.getfield 54, 3) := by decide +kernel
theorem dX5_same_70 : decode cX5_same 70 = .ok (.iconst 4, 1) := by decide +kernel
theorem dX5_same_71 : decode cX5_same 71 = .ok (.iload_n 3, 1) := by decide +kernel
theorem dX5_same_72 : decode cX5_same 72 = .ok (.imul, 1) := by decide +kernel
theorem dX5_same_73 : decode cX5_same 73 = .ok (.iload 6, 2) := by decide +kernel
theorem dX5_same_75 : decode cX5_same 75 = .ok (.iadd, 1) := by decide +kernel
theorem dX5_same_76 : decode cX5_same 76 = .ok (.iaload, 1) := by decide +kernel
theorem dX5_same_77 : decode cX5_same 77 = .ok (.aload_n 0, 1) := by decide +kernel
theorem dX5_same_78 : decode cX5_same 78 = .ok (.getfield 54, 3) := by decide +kernel
theorem dX5_same_81 : decode cX5_same 81 = .ok (.iconst 4, 1) := by decide +kernel
theorem dX5_same_82 : decode cX5_same 82 = .ok (.iload 4, 2) := by decide +kernel
theorem dX5_same_84 : decode cX5_same 84 = .ok (.imul, 1) := by decide +kernel
theorem dX5_same_85 : decode cX5_same 85 = .ok (.iload 6, 2) := by decide +kernel
theorem dX5_same_87 : decode cX5_same 87 = .ok (.iadd, 1) := by decide +kernel
theorem dX5_same_88 : decode cX5_same 88 = .ok (.iaload, 1) := by decide +kernel
theorem dX5_same_89 : decode cX5_same 89 = .ok (.if_icmp .ne 7, 3) := by decide +kernel
theorem dX5_same_92 : decode cX5_same 92 = .ok (.iconst 1, 1) := by decide +kernel
theorem dX5_same_93 : decode cX5_same 93 = .ok (.goto 4, 3) := by decide +kernel
theorem dX5_same_96 : decode cX5_same 96 = .ok (.iconst 0, 1) := by decide +kernel
theorem dX5_same_97 : decode cX5_same 97 = .ok (.istore 5, 2) := by decide +kernel
theorem dX5_same_99 : decode cX5_same 99 = .ok (.iconst 0, 1) := by decide +kernel
theorem dX5_same_100 : decode cX5_same 100 = .ok (.istore 7, 2) := by decide +kernel
theorem dX5_same_102 : decode cX5_same 102 = .ok (.iload 5, 2) := by decide +kernel
theorem dX5_same_104 : decode cX5_same 104 = .ok (.ifCond .eq 70, 3) := by decide +kernel
theorem dX5_same_107 : decode cX5_same 107 = .ok (.iload 7, 2) := by decide +kernel
theorem dX5_same_109 : decode cX5_same 109 = .ok (.aload_n 0, 1) := by decide +kernel
theorem dX5_same_110 : decode cX5_same 110 = .ok (.getfield 54, 3) := by decide +kernel
theorem dX5_same_113 : decode cX5_same 113 = .ok (.iconst 4, 1) := by decide +kernel
theorem dX5_same_114 : decode cX5_same 114 = .ok (.iload_n 3, 1) := by decide +kernel
theorem dX5_same_115 : decode cX5_same 115 = .ok (.imul, 1) := by decide +kernel
theorem dX5_same_116 : decode cX5_same 116 = .ok (.iload 6, 2) := by decide +kernel
theorem dX5_same_118 : decode cX5_same 118 = .ok (.iadd, 1) := by decide +kernel
theorem dX5_same_119 : decode cX5_same 119 = .ok (.iaload, 1) := by decide +kernel
theorem dX5_same_120 : decode cX5_same 120 = .ok (.if_icmp .ge 54, 3) := by decide +kernel
theorem dX5_same_123 : decode cX5_same 123 = .ok (.aload_n 0, 1) := by decide +kernel
theorem dX5_same_124 : decode cX5_same 124 = .ok (.getfield 57, 3) := by decide +kernel
theorem dX5_same_127 : decode cX5_same 127 = .ok (.bipush 80, 2) := by decide +kernel
theorem dX5_same_129 : decode cX5_same 129 = .ok (.iconst 4, 1) := by decide +kernel
theorem dX5_same_130 : decode cX5_same 130 = .ok (.iload_n 3, 1) := by decide +kernel
theorem dX5_same_131 : decode cX5_same 131 = .ok (.imul, 1) := by decide +kernel
theorem dX5_same_132 : decode cX5_same 132 = .ok (.iload 6, 2) := by decide +kernel
theorem dX5_same_134 : decode cX5_same 134 = .ok (.iadd, 1) := by decide +kernel
theorem dX5_same_135 : decode cX5_same 135 = .ok (.imul, 1) := by decide +kernel
theorem dX5_same_136 : decode cX5_same 136 = .ok (.iload 7, 2) := by decide +kernel
theorem dX5_same_138 : decode cX5_same 138 = .ok (.iadd, 1) := by decide +kernel
theorem dX5_same_139 : decode cX5_same 139 = .ok (.iaload, 1) := by decide +kernel
theorem dX5_same_140 : decode cX5_same 140 = .ok (.aload_n 0, 1) := by decide +kernel
theorem dX5_same_141 : decode cX5_same 141 = .ok (.getfield 57, 3) := by decide +kernel
theorem dX5_same_144 : decode cX5_same 144 = .ok (.bipush 80, 2) := by decide +kernel
theorem dX5_same_146 : decode cX5_same 146 = .ok (.iconst 4, 1) := by decide +kernel
theorem dX5_same_147 : decode cX5_same 147 = .ok (.iload 4, 2) := by decide +kernel
theorem dX5_same_149 : decode cX5_same 149 = .ok (.imul, 1) := by decide +kernel
theorem dX5_same_150 : decode cX5_same 150 = .ok (.iload 6, 2) := by decide +kernel
theorem dX5_same_152 : decode cX5_same 152 = .ok (.iadd, 1) := by decide +kernel
theorem dX5_same_153 : decode cX5_same 153 = .ok (.imul, 1) := by decide +kernel
theorem dX5_same_154 : decode cX5_same 154 = .ok (.iload 7, 2) := by decide +kernel
theorem dX5_same_156 : decode cX5_same 156 = .ok (.iadd, 1) := by decide +kernel
theorem dX5_same_157 : decode cX5_same 157 = .ok (.iaload, 1) := by decide +kernel
theorem dX5_same_158 : decode cX5_same 158 = .ok (.if_icmp .ne 7, 3) := by decide +kernel
theorem dX5_same_161 : decode cX5_same 161 = .ok (.iconst 1, 1) := by decide +kernel
theorem dX5_same_162 : decode cX5_same 162 = .ok (.goto 4, 3) := by decide +kernel
theorem dX5_same_165 : decode cX5_same 165 = .ok (.iconst 0, 1) := by decide +kernel
theorem dX5_same_166 : decode cX5_same 166 = .ok (.istore 5, 2) := by decide +kernel
theorem dX5_same_168 : decode cX5_same 168 = .ok (.iinc 7 1, 3) := by decide +kernel
theorem dX5_same_171 : decode cX5_same 171 = .ok (.goto (-69), 3) := by decide +kernel
theorem dX5_same_174 : decode cX5_same 174 = .ok (.iinc 6 1, 3) := by decide +kernel
theorem dX5_same_177 : decode cX5_same 177 = .ok (.goto (-127), 3) := by decide +kernel
theorem dX5_same_180 : decode cX5_same 180 = .ok (.iload 5, 2) := by decide +kernel
theorem dX5_same_182 : decode cX5_same 182 = .ok (.ireturn, 1) := by decide +kernel
theorem dX5_told_0 : decode cX5_told 0 = .ok (.iconst 0, 1) := by decide +kernel
theorem dX5_told_1 : decode cX5_told 1 = .ok (.istore_n 2, 1) := by decide +kernel
theorem dX5_told_2 : decode cX5_told 2 = .ok (.iload_n 1, 1) := by decide +kernel
theorem dX5_told_3 : decode cX5_told 3 = .ok (.tableswitch 247 0 8 #[49, 54, 97, 102, 135, 140, 145, 186, 220], 49) := by decide +kernel
theorem dX5_told_52 : decode cX5_told 52 = .ok (.aload_n 0, 1) := by decide +kernel
theorem dX5_told_53 : decode cX5_told 53 = .ok (.getfield 7, 3) := by decide +kernel
theorem dX5_told_56 : decode cX5_told 56 = .ok (.ireturn, 1) := by decide +kernel
theorem dX5_told_57 : decode cX5_told 57 = .ok (.iconst 0, 1) := by decide +kernel
theorem dX5_told_58 : decode cX5_told 58 = .ok (.istore_n 3, 1) := by decide +kernel
theorem dX5_told_59 : decode cX5_told 59 = .ok (.iload_n 3, 1) := by decide +kernel
theorem dX5_told_60 : decode cX5_told 60 = .ok (.bipush 12, 2) := by decide +kernel
theorem dX5_told_62 : decode cX5_told 62 = .ok (.if_icmp .ge 36, 3) := by decide +kernel
theorem dX5_told_65 : decode cX5_told 65 = .ok (.iload_n 2, 1) := by decide +kernel
theorem dX5_told_66 : decode cX5_told 66 = .ok (.aload_n 0, 1) := by decide +kernel
theorem dX5_told_67 : decode cX5_told 67 = .ok (.getfield 42, 3) := by decide +kernel
theorem dX5_told_70 : decode cX5_told 70 = .ok (.iload_n 3, 1) := by decide +kernel
theorem dX5_told_71 : decode cX5_told 71 = .ok (.iaload, 1) := by decide +kernel
theorem dX5_told_72 : decode cX5_told 72 = .ok (.iconst (-1), 1) := by decide +kernel
theorem dX5_told_73 : decode cX5_told 73 = .ok (.if_icmp .eq 16, 3) := by decide +kernel
theorem dX5_told_76 : decode cX5_told 76 = .ok (.aload_n 0, 1) := by decide +kernel
theorem dX5_told_77 : decode cX5_told 77 = .ok (.getfield 45, 3) := by decide +kernel
theorem dX5_told_80 : decode cX5_told 80 = .ok (.iload_n 3, 1) := by decide +kernel
theorem dX5_told_81 : decode cX5_told 81 = .ok (.baload, 1) := by decide +kernel
theorem dX5_told_82 : decode cX5_told 82 = .ok (.ifCond .eq 7, 3) := by decide +kernel
theorem dX5_told_85 : decode cX5_told 85 = .ok (.iconst 1, 1) := by decide +kernel
theorem dX5_told_86 : decode cX5_told 86 = .ok (.goto 4, 3) := by decide +kernel
theorem dX5_told_89 : decode cX5_told 89 = .ok (.iconst 0, 1) := by decide +kernel
theorem dX5_told_90 : decode cX5_told 90 = .ok (.iadd, 1) := by decide +kernel
theorem dX5_told_91 : decode cX5_told 91 = .ok (.istore_n 2, 1) := by decide +kernel
theorem dX5_told_92 : decode cX5_told 92 = .ok (.iinc 3 1, 3) := by decide +kernel
theorem dX5_told_95 : decode cX5_told 95 = .ok (.goto (-36), 3) := by decide +kernel
theorem dX5_told_98 : decode cX5_told 98 = .ok (.iload_n 2, 1) := by decide +kernel
theorem dX5_told_99 : decode cX5_told 99 = .ok (.ireturn, 1) := by decide +kernel
theorem dX5_told_100 : decode cX5_told 100 = .ok (.aload_n 0, 1) := by decide +kernel
theorem dX5_told_101 : decode cX5_told 101 = .ok (.invokevirtual 118, 3) := by decide +kernel
theorem dX5_told_104 : decode cX5_told 104 = .ok (.ireturn, 1) := by decide +kernel
theorem dX5_told_105 : decode cX5_told 105 = .ok (.iconst 0, 1) := by decide +kernel
theorem dX5_told_106 : decode cX5_told 106 = .ok (.istore_n 3, 1) := by decide +kernel
theorem dX5_told_107 : decode cX5_told 107 = .ok (.iload_n 3, 1) := by decide +kernel
theorem dX5_told_108 : decode cX5_told 108 = .ok (.bipush 120, 2) := by decide +kernel
theorem dX5_told_110 : decode cX5_told 110 = .ok (.if_icmp .ge 26, 3) := by decide +kernel
theorem dX5_told_113 : decode cX5_told 113 = .ok (.iload_n 2, 1) := by decide +kernel
theorem dX5_told_114 : decode cX5_told 114 = .ok (.aload_n 0, 1) := by decide +kernel
theorem dX5_told_115 : decode cX5_told 115 = .ok (.getfield 23, 3) := by decide +kernel
theorem dX5_told_118 : decode cX5_told 118 = .ok (.iload_n 3, 1) := by decide +kernel
theorem dX5_told_119 : decode cX5_told 119 = .ok (.iaload, 1) := by decide +kernel
theorem dX5_told_120 : decode cX5_told 120 = .ok (.ifCond .le 7, 3) := by decide +kernel
theorem dX5_told_123 : decode cX5_told 123 = .ok (.iconst 1, 1) := by decide +kernel
theorem dX5_told_124 : decode cX5_told 124 = .ok (.goto 4, 3) := by decide +kernel
theorem dX5_told_127 : decode cX5_told 127 = .ok (.iconst 0, 1) := by decide +kernel
theorem dX5_told_128 : decode cX5_told 128 = .ok (.iadd, 1) := by decide +kernel
theorem dX5_told_129 : decode cX5_told 129 = .ok (.istore_n 2, 1) := by decide +kernel
theorem dX5_told_130 : decode cX5_told 130 = .ok (.iinc 3 1, 3) := by decide +kernel
theorem dX5_told_133 : decode cX5_told 133 = .ok (.goto (-26), 3) := by decide +kernel
theorem dX5_told_136 : decode cX5_told 136 = .ok (.iload_n 2, 1) := by decide +kernel
theorem dX5_told_137 : decode cX5_told 137 = .ok (.ireturn, 1) := by decide +kernel
theorem dX5_told_138 : decode cX5_told 138 = .ok (.aload_n 0, 1) := by decide +kernel
theorem dX5_told_139 : decode cX5_told 139 = .ok (.invokevirtual 125, 3) := by decide +kernel
theorem dX5_told_142 : decode cX5_told 142 = .ok (.ireturn, 1) := by decide +kernel
theorem dX5_told_143 : decode cX5_told 143 = .ok (.aload_n 0, 1) := by decide +kernel
theorem dX5_told_144 : decode cX5_told 144 = .ok (.getfield 128, 3) := by decide +kernel
theorem dX5_told_147 : decode cX5_told 147 = .ok (.ireturn, 1) := by decide +kernel
theorem dX5_told_148 : decode cX5_told 148 = .ok (.iconst 0, 1) := by decide +kernel
theorem dX5_told_149 : decode cX5_told 149 = .ok (.istore_n 3, 1) := by decide +kernel
theorem dX5_told_150 : decode cX5_told 150 = .ok (.iload_n 3, 1) := by decide +kernel
theorem dX5_told_151 : decode cX5_told 151 = .ok (.bipush 120, 2) := by decide +kernel
theorem dX5_told_153 : decode cX5_told 153 = .ok (.if_icmp .ge 34, 3) := by decide +kernel
theorem dX5_told_156 : decode cX5_told 156 = .ok (.iload_n 2, 1) := by decide +kernel
theorem dX5_told_157 : decode cX5_told 157 = .ok (.aload_n 0, 1) := by decide +kernel
theorem dX5_told_158 : decode cX5_told 158 = .ok (.getfield 23, 3) := by decide +kernel
theorem dX5_told_161 : decode cX5_told 161 = .ok (.iload_n 3, 1) := by decide +kernel
theorem dX5_told_162 : decode cX5_told 162 = .ok (.iaload, 1) := by decide +kernel
theorem dX5_told_163 : decode cX5_told 163 = .ok (.ifCond .le 15, 3) := by decide +kernel
theorem dX5_told_166 : decode cX5_told 166 = .ok (.aload_n 0, 1) := by decide +kernel
theorem dX5_told_167 : decode cX5_told 167 = .ok (.iload_n 3, 1) := by decide +kernel
theorem dX5_told_168 : decode cX5_told 168 = .ok (.invokevirtual 97, 3) := by decide +kernel
theorem dX5_told_171 : decode cX5_told 171 = .ok (.ifCond .eq 7, 3) := by decide +kernel
theorem dX5_told_174 : decode cX5_told 174 = .ok (.iconst 1, 1) := by decide +kernel
theorem dX5_told_175 : decode cX5_told 175 = .ok (.goto 4, 3) := by decide +kernel
theorem dX5_told_178 : decode cX5_told 178 = .ok (.iconst 0, 1) := by decide +kernel
theorem dX5_told_179 : decode cX5_told 179 = .ok (.iadd, 1) := by decide +kernel
theorem dX5_told_180 : decode cX5_told 180 = .ok (.istore_n 2, 1) := by decide +kernel
theorem dX5_told_181 : decode cX5_told 181 = .ok (.iinc 3 1, 3) := by decide +kernel
theorem dX5_told_184 : decode cX5_told 184 = .ok (.goto (-34), 3) := by decide +kernel
theorem dX5_told_187 : decode cX5_told 187 = .ok (.iload_n 2, 1) := by decide +kernel
theorem dX5_told_188 : decode cX5_told 188 = .ok (.ireturn, 1) := by decide +kernel
theorem dX5_told_189 : decode cX5_told 189 = .ok (.iconst 0, 1) := by decide +kernel
theorem dX5_told_190 : decode cX5_told 190 = .ok (.istore_n 3, 1) := by decide +kernel
theorem dX5_told_191 : decode cX5_told 191 = .ok (.iload_n 3, 1) := by decide +kernel
theorem dX5_told_192 : decode cX5_told 192 = .ok (.sipush 480, 3) := by decide +kernel
theorem dX5_told_195 : decode cX5_told 195 = .ok (.if_icmp .ge 26, 3) := by decide +kernel
theorem dX5_told_198 : decode cX5_told 198 = .ok (.iload_n 2, 1) := by decide +kernel
theorem dX5_told_199 : decode cX5_told 199 = .ok (.aload_n 0, 1) := by decide +kernel
theorem dX5_told_200 : decode cX5_told 200 = .ok (.getfield 36, 3) := by decide +kernel
theorem dX5_told_203 : decode cX5_told 203 = .ok (.iload_n 3, 1) := by decide +kernel
theorem dX5_told_204 : decode cX5_told 204 = .ok (.baload, 1) := by decide +kernel
theorem dX5_told_205 : decode cX5_told 205 = .ok (.ifCond .eq 7, 3) := by decide +kernel
theorem dX5_told_208 : decode cX5_told 208 = .ok (.iconst 1, 1) := by decide +kernel
theorem dX5_told_209 : decode cX5_told 209 = .ok (.goto 4, 3) := by decide +kernel
theorem dX5_told_212 : decode cX5_told 212 = .ok (.iconst 0, 1) := by decide +kernel
theorem dX5_told_213 : decode cX5_told 213 = .ok (.iadd, 1) := by decide +kernel
theorem dX5_told_214 : decode cX5_told 214 = .ok (.istore_n 2, 1) := by decide +kernel
theorem dX5_told_215 : decode cX5_told 215 = .ok (.iinc 3 1, 3) := by decide +kernel
theorem dX5_told_218 : decode cX5_told 218 = .ok (.goto (-27), 3) := by decide +kernel
theorem dX5_told_221 : decode cX5_told 221 = .ok (.iload_n 2, 1) := by decide +kernel
theorem dX5_told_222 : decode cX5_told 222 = .ok (.ireturn, 1) := by decide +kernel
theorem dX5_told_223 : decode cX5_told 223 = .ok (.iconst 0, 1) := by decide +kernel
theorem dX5_told_224 : decode cX5_told 224 = .ok (.istore_n 3, 1) := by decide +kernel
theorem dX5_told_225 : decode cX5_told 225 = .ok (.iload_n 3, 1) := by decide +kernel
theorem dX5_told_226 : decode cX5_told 226 = .ok (.aload_n 0, 1) := by decide +kernel
theorem dX5_told_227 : decode cX5_told 227 = .ok (.getfield 7, 3) := by decide +kernel
theorem dX5_told_230 : decode cX5_told 230 = .ok (.if_icmp .ge 18, 3) := by decide +kernel
theorem dX5_told_233 : decode cX5_told 233 = .ok (.iload_n 2, 1) := by decide +kernel
theorem dX5_told_234 : decode cX5_told 234 = .ok (.aload_n 0, 1) := by decide +kernel
theorem dX5_told_235 : decode cX5_told 235 = .ok (.getfield 13, 3) := by decide +kernel
theorem dX5_told_238 : decode cX5_told 238 = .ok (.iload_n 3, 1) := by decide +kernel
theorem dX5_told_239 : decode cX5_told 239 = .ok (.iaload, 1) := by decide +kernel
theorem dX5_told_240 : decode cX5_told 240 = .ok (.iadd, 1) := by decide +kernel
theorem dX5_told_241 : decode cX5_told 241 = .ok (.istore_n 2, 1) := by decide +kernel
theorem dX5_told_242 : decode cX5_told 242 = .ok (.iinc 3 1, 3) := by decide +kernel
theorem dX5_told_245 : decode cX5_told 245 = .ok (.goto (-20), 3) := by decide +kernel
theorem dX5_told_248 : decode cX5_told 248 = .ok (.iload_n 2, 1) := by decide +kernel
theorem dX5_told_249 : decode cX5_told 249 = .ok (.ireturn, 1) := by decide +kernel
theorem dX5_told_250 : decode cX5_told 250 = .ok (.bipush (-2), 2) := by decide +kernel
theorem dX5_told_252 : decode cX5_told 252 = .ok (.ireturn, 1) := by decide +kernel
theorem dJ9_min_7cf53_0 : decode cJ9_min_7cf53 0 = .ok (.iload_n 0, 1) := by decide +kernel
theorem dJ9_min_7cf53_1 : decode cJ9_min_7cf53 1 = .ok (.iload_n 1, 1) := by decide +kernel
theorem dJ9_min_7cf53_2 : decode cJ9_min_7cf53 2 = .ok (.if_icmp .gt 7, 3) := by decide +kernel
theorem dJ9_min_7cf53_5 : decode cJ9_min_7cf53 5 = .ok (.iload_n 0, 1) := by decide +kernel
theorem dJ9_min_7cf53_6 : decode cJ9_min_7cf53 6 = .ok (.goto 4, 3) := by decide +kernel
theorem dJ9_min_7cf53_9 : decode cJ9_min_7cf53 9 = .ok (.iload_n 1, 1) := by decide +kernel
theorem dJ9_min_7cf53_10 : decode cJ9_min_7cf53 10 = .ok (.ireturn, 1) := by decide +kernel
theorem dL_law_0 : decode cL_law 0 = .ok (.new 7, 3) := by decide +kernel
theorem dL_law_3 : decode cL_law 3 = .ok (.dup, 1) := by decide +kernel
theorem dL_law_4 : decode cL_law 4 = .ok (.invokespecial 9, 3) := by decide +kernel
theorem dL_law_7 : decode cL_law 7 = .ok (.astore_n 1, 1) := by decide +kernel
theorem dL_law_8 : decode cL_law 8 = .ok (.new 10, 3) := by decide +kernel
theorem dL_law_11 : decode cL_law 11 = .ok (.dup, 1) := by decide +kernel
theorem dL_law_12 : decode cL_law 12 = .ok (.invokespecial 12, 3) := by decide +kernel
theorem dL_law_15 : decode cL_law 15 = .ok (.astore_n 2, 1) := by decide +kernel
theorem dL_law_16 : decode cL_law 16 = .ok (.iconst 0, 1) := by decide +kernel
theorem dL_law_17 : decode cL_law 17 = .ok (.istore_n 3, 1) := by decide +kernel
theorem dL_law_18 : decode cL_law 18 = .ok (.iload_n 3, 1) := by decide +kernel
theorem dL_law_19 : decode cL_law 19 = .ok (.aload_n 0, 1) := by decide +kernel
theorem dL_law_20 : decode cL_law 20 = .ok (.arraylength, 1) := by decide +kernel
theorem dL_law_21 : decode cL_law 21 = .ok (.bipush 6, 2) := by decide +kernel
theorem dL_law_23 : decode cL_law 23 = .ok (.isub, 1) := by decide +kernel
theorem dL_law_24 : decode cL_law 24 = .ok (.if_icmp .gt 756, 3) := by decide +kernel
theorem dL_law_27 : decode cL_law 27 = .ok (.aload_n 0, 1) := by decide +kernel
theorem dL_law_28 : decode cL_law 28 = .ok (.iload_n 3, 1) := by decide +kernel
theorem dL_law_29 : decode cL_law 29 = .ok (.iaload, 1) := by decide +kernel
theorem dL_law_30 : decode cL_law 30 = .ok (.bipush 31, 2) := by decide +kernel
theorem dL_law_32 : decode cL_law 32 = .ok (.iand, 1) := by decide +kernel
theorem dL_law_33 : decode cL_law 33 = .ok (.tableswitch 741 0 17 #[87, 170, 213, 266, 299, 332, 355, 378, 401, 424, 447, 480, 523, 556, 589, 632, 685, 718], 87) := by decide +kernel
theorem dL_law_120 : decode cL_law 120 = .ok (.aload_n 1, 1) := by decide +kernel
theorem dL_law_121 : decode cL_law 121 = .ok (.aload_n 0, 1) := by decide +kernel
theorem dL_law_122 : decode cL_law 122 = .ok (.iload_n 3, 1) := by decide +kernel
theorem dL_law_123 : decode cL_law 123 = .ok (.iconst 1, 1) := by decide +kernel
theorem dL_law_124 : decode cL_law 124 = .ok (.iadd, 1) := by decide +kernel
theorem dL_law_125 : decode cL_law 125 = .ok (.iaload, 1) := by decide +kernel
theorem dL_law_126 : decode cL_law 126 = .ok (.aload_n 0, 1) := by decide +kernel
theorem dL_law_127 : decode cL_law 127 = .ok (.iload_n 3, 1) := by decide +kernel
theorem dL_law_128 : decode cL_law 128 = .ok (.iconst 2, 1) := by decide +kernel
theorem dL_law_129 : decode cL_law 129 = .ok (.iadd, 1) := by decide +kernel
theorem dL_law_130 : decode cL_law 130 = .ok (.iaload, 1) := by decide +kernel
theorem dL_law_131 : decode cL_law 131 = .ok (.aload_n 0, 1) := by decide +kernel
theorem dL_law_132 : decode cL_law 132 = .ok (.iload_n 3, 1) := by decide +kernel
theorem dL_law_133 : decode cL_law 133 = .ok (.iconst 3, 1) := by decide +kernel
theorem dL_law_134 : decode cL_law 134 = .ok (.iadd, 1) := by decide +kernel
theorem dL_law_135 : decode cL_law 135 = .ok (.iaload, 1) := by decide +kernel
theorem dL_law_136 : decode cL_law 136 = .ok (.aload_n 0, 1) := by decide +kernel
theorem dL_law_137 : decode cL_law 137 = .ok (.iload_n 3, 1) := by decide +kernel
theorem dL_law_138 : decode cL_law 138 = .ok (.iconst 4, 1) := by decide +kernel
theorem dL_law_139 : decode cL_law 139 = .ok (.iadd, 1) := by decide +kernel
theorem dL_law_140 : decode cL_law 140 = .ok (.iaload, 1) := by decide +kernel
theorem dL_law_141 : decode cL_law 141 = .ok (.i2l, 1) := by decide +kernel
theorem dL_law_142 : decode cL_law 142 = .ok (.bipush 32, 2) := by decide +kernel
theorem dL_law_144 : decode cL_law 144 = .ok (.lshl, 1) := by decide +kernel
theorem dL_law_145 : decode cL_law 145 = .ok (.aload_n 0, 1) := by decide +kernel
theorem dL_law_146 : decode cL_law 146 = .ok (.iload_n 3, 1) := by decide +kernel
theorem dL_law_147 : decode cL_law 147 = .ok (.iconst 5, 1) := by decide +kernel
theorem dL_law_148 : decode cL_law 148 = .ok (.iadd, 1) := by decide +kernel
theorem dL_law_149 : decode cL_law 149 = .ok (.iaload, 1) := by decide +kernel
theorem dL_law_150 : decode cL_law 150 = .ok (.i2l, 1) := by decide +kernel
theorem dL_law_151 : decode cL_law 151 = .ok (.ldc2_w 13, 3) := by decide +kernel
theorem dL_law_154 : decode cL_law 154 = .ok (.land, 1) := by decide +kernel
theorem dL_law_155 : decode cL_law 155 = .ok (.lor, 1) := by decide +kernel
theorem dL_law_156 : decode cL_law 156 = .ok (.invokevirtual 15, 3) := by decide +kernel
theorem dL_law_159 : decode cL_law 159 = .ok (.aload_n 2, 1) := by decide +kernel
theorem dL_law_160 : decode cL_law 160 = .ok (.aload_n 0, 1) := by decide +kernel
theorem dL_law_161 : decode cL_law 161 = .ok (.iload_n 3, 1) := by decide +kernel
theorem dL_law_162 : decode cL_law 162 = .ok (.iconst 1, 1) := by decide +kernel
theorem dL_law_163 : decode cL_law 163 = .ok (.iadd, 1) := by decide +kernel
theorem dL_law_164 : decode cL_law 164 = .ok (.iaload, 1) := by decide +kernel
theorem dL_law_165 : decode cL_law 165 = .ok (.aload_n 0, 1) := by decide +kernel
theorem dL_law_166 : decode cL_law 166 = .ok (.iload_n 3, 1) := by decide +kernel
theorem dL_law_167 : decode cL_law 167 = .ok (.iconst 2, 1) := by decide +kernel
theorem dL_law_168 : decode cL_law 168 = .ok (.iadd, 1) := by decide +kernel
theorem dL_law_169 : decode cL_law 169 = .ok (.iaload, 1) := by decide +kernel
theorem dL_law_170 : decode cL_law 170 = .ok (.aload_n 0, 1) := by decide +kernel
theorem dL_law_171 : decode cL_law 171 = .ok (.iload_n 3, 1) := by decide +kernel
theorem dL_law_172 : decode cL_law 172 = .ok (.iconst 3, 1) := by decide +kernel
theorem dL_law_173 : decode cL_law 173 = .ok (.iadd, 1) := by decide +kernel
theorem dL_law_174 : decode cL_law 174 = .ok (.iaload, 1) := by decide +kernel
theorem dL_law_175 : decode cL_law 175 = .ok (.aload_n 0, 1) := by decide +kernel
theorem dL_law_176 : decode cL_law 176 = .ok (.iload_n 3, 1) := by decide +kernel
theorem dL_law_177 : decode cL_law 177 = .ok (.iconst 4, 1) := by decide +kernel
theorem dL_law_178 : decode cL_law 178 = .ok (.iadd, 1) := by decide +kernel
theorem dL_law_179 : decode cL_law 179 = .ok (.iaload, 1) := by decide +kernel
theorem dL_law_180 : decode cL_law 180 = .ok (.i2l, 1) := by decide +kernel
theorem dL_law_181 : decode cL_law 181 = .ok (.bipush 32, 2) := by decide +kernel
theorem dL_law_183 : decode cL_law 183 = .ok (.lshl, 1) := by decide +kernel
theorem dL_law_184 : decode cL_law 184 = .ok (.aload_n 0, 1) := by decide +kernel
theorem dL_law_185 : decode cL_law 185 = .ok (.iload_n 3, 1) := by decide +kernel
theorem dL_law_186 : decode cL_law 186 = .ok (.iconst 5, 1) := by decide +kernel
theorem dL_law_187 : decode cL_law 187 = .ok (.iadd, 1) := by decide +kernel
theorem dL_law_188 : decode cL_law 188 = .ok (.iaload, 1) := by decide +kernel
theorem dL_law_189 : decode cL_law 189 = .ok (.i2l, 1) := by decide +kernel
theorem dL_law_190 : decode cL_law 190 = .ok (.ldc2_w 13, 3) := by decide +kernel
theorem dL_law_193 : decode cL_law 193 = .ok (.land, 1) := by decide +kernel
theorem dL_law_194 : decode cL_law 194 = .ok (.lor, 1) := by decide +kernel
theorem dL_law_195 : decode cL_law 195 = .ok (.invokevirtual 19, 3) := by decide +kernel
theorem dL_law_198 : decode cL_law 198 = .ok (.if_icmp .eq 576, 3) := by decide +kernel
theorem dL_law_201 : decode cL_law 201 = .ok (.iconst 0, 1) := by decide +kernel
theorem dL_law_202 : decode cL_law 202 = .ok (.ireturn, 1) := by decide +kernel
theorem dL_law_203 : decode cL_law 203 = .ok (.aload_n 1, 1) := by decide +kernel
theorem dL_law_204 : decode cL_law 204 = .ok (.aload_n 0, 1) := by decide +kernel
theorem dL_law_205 : decode cL_law 205 = .ok (.iload_n 3, 1) := by decide +kernel
theorem dL_law_206 : decode cL_law 206 = .ok (.iconst 1, 1) := by decide +kernel
theorem dL_law_207 : decode cL_law 207 = .ok (.iadd, 1) := by decide +kernel
theorem dL_law_208 : decode cL_law 208 = .ok (.iaload, 1) := by decide +kernel
theorem dL_law_209 : decode cL_law 209 = .ok (.aload_n 0, 1) := by decide +kernel
theorem dL_law_210 : decode cL_law 210 = .ok (.iload_n 3, 1) := by decide +kernel
theorem dL_law_211 : decode cL_law 211 = .ok (.iconst 2, 1) := by decide +kernel
theorem dL_law_212 : decode cL_law 212 = .ok (.iadd, 1) := by decide +kernel
theorem dL_law_213 : decode cL_law 213 = .ok (.iaload, 1) := by decide +kernel
theorem dL_law_214 : decode cL_law 214 = .ok (.aload_n 0, 1) := by decide +kernel
theorem dL_law_215 : decode cL_law 215 = .ok (.iload_n 3, 1) := by decide +kernel
theorem dL_law_216 : decode cL_law 216 = .ok (.iconst 3, 1) := by decide +kernel
theorem dL_law_217 : decode cL_law 217 = .ok (.iadd, 1) := by decide +kernel
theorem dL_law_218 : decode cL_law 218 = .ok (.iaload, 1) := by decide +kernel
theorem dL_law_219 : decode cL_law 219 = .ok (.invokevirtual 20, 3) := by decide +kernel
theorem dL_law_222 : decode cL_law 222 = .ok (.aload_n 2, 1) := by decide +kernel
theorem dL_law_223 : decode cL_law 223 = .ok (.aload_n 0, 1) := by decide +kernel
theorem dL_law_224 : decode cL_law 224 = .ok (.iload_n 3, 1) := by decide +kernel
theorem dL_law_225 : decode cL_law 225 = .ok (.iconst 1, 1) := by decide +kernel
theorem dL_law_226 : decode cL_law 226 = .ok (.iadd, 1) := by decide +kernel
theorem dL_law_227 : decode cL_law 227 = .ok (.iaload, 1) := by decide +kernel
theorem dL_law_228 : decode cL_law 228 = .ok (.aload_n 0, 1) := by decide +kernel
theorem dL_law_229 : decode cL_law 229 = .ok (.iload_n 3, 1) := by decide +kernel
theorem dL_law_230 : decode cL_law 230 = .ok (.iconst 2, 1) := by decide +kernel
theorem dL_law_231 : decode cL_law 231 = .ok (.iadd, 1) := by decide +kernel
theorem dL_law_232 : decode cL_law 232 = .ok (.iaload, 1) := by decide +kernel
theorem dL_law_233 : decode cL_law 233 = .ok (.aload_n 0, 1) := by decide +kernel
theorem dL_law_234 : decode cL_law 234 = .ok (.iload_n 3, 1) := by decide +kernel
theorem dL_law_235 : decode cL_law 235 = .ok (.iconst 3, 1) := by decide +kernel
theorem dL_law_236 : decode cL_law 236 = .ok (.iadd, 1) := by decide +kernel
theorem dL_law_237 : decode cL_law 237 = .ok (.iaload, 1) := by decide +kernel
theorem dL_law_238 : decode cL_law 238 = .ok (.invokevirtual 24, 3) := by decide +kernel
theorem dL_law_241 : decode cL_law 241 = .ok (.if_icmp .eq 533, 3) := by decide +kernel
theorem dL_law_244 : decode cL_law 244 = .ok (.iconst 0, 1) := by decide +kernel
theorem dL_law_245 : decode cL_law 245 = .ok (.ireturn, 1) := by decide +kernel
theorem dL_law_246 : decode cL_law 246 = .ok (.aload_n 1, 1) := by decide +kernel
theorem dL_law_247 : decode cL_law 247 = .ok (.aload_n 0, 1) := by decide +kernel
theorem dL_law_248 : decode cL_law 248 = .ok (.iload_n 3, 1) := by decide +kernel
theorem dL_law_249 : decode cL_law 249 = .ok (.iconst 1, 1) := by decide +kernel
theorem dL_law_250 : decode cL_law 250 = .ok (.iadd, 1) := by decide +kernel
theorem dL_law_251 : decode cL_law 251 = .ok (.iaload, 1) := by decide +kernel
theorem dL_law_252 : decode cL_law 252 = .ok (.aload_n 0, 1) := by decide +kernel
theorem dL_law_253 : decode cL_law 253 = .ok (.iload_n 3, 1) := by decide +kernel
theorem dL_law_254 : decode cL_law 254 = .ok (.iconst 2, 1) := by decide +kernel
theorem dL_law_255 : decode cL_law 255 = .ok (.iadd, 1) := by decide +kernel
theorem dL_law_256 : decode cL_law 256 = .ok (.iaload, 1) := by decide +kernel
theorem dL_law_257 : decode cL_law 257 = .ok (.aload_n 0, 1) := by decide +kernel
theorem dL_law_258 : decode cL_law 258 = .ok (.iload_n 3, 1) := by decide +kernel
theorem dL_law_259 : decode cL_law 259 = .ok (.iconst 3, 1) := by decide +kernel
theorem dL_law_260 : decode cL_law 260 = .ok (.iadd, 1) := by decide +kernel
theorem dL_law_261 : decode cL_law 261 = .ok (.iaload, 1) := by decide +kernel
theorem dL_law_262 : decode cL_law 262 = .ok (.aload_n 0, 1) := by decide +kernel
theorem dL_law_263 : decode cL_law 263 = .ok (.iload_n 3, 1) := by decide +kernel
theorem dL_law_264 : decode cL_law 264 = .ok (.iconst 4, 1) := by decide +kernel
theorem dL_law_265 : decode cL_law 265 = .ok (.iadd, 1) := by decide +kernel
theorem dL_law_266 : decode cL_law 266 = .ok (.iaload, 1) := by decide +kernel
theorem dL_law_267 : decode cL_law 267 = .ok (.invokevirtual 25, 3) := by decide +kernel
theorem dL_law_270 : decode cL_law 270 = .ok (.aload_n 2, 1) := by decide +kernel
theorem dL_law_271 : decode cL_law 271 = .ok (.aload_n 0, 1) := by decide +kernel
theorem dL_law_272 : decode cL_law 272 = .ok (.iload_n 3, 1) := by decide +kernel
theorem dL_law_273 : decode cL_law 273 = .ok (.iconst 1, 1) := by decide +kernel
theorem dL_law_274 : decode cL_law 274 = .ok (.iadd, 1) := by decide +kernel
theorem dL_law_275 : decode cL_law 275 = .ok (.iaload, 1) := by decide +kernel
theorem dL_law_276 : decode cL_law 276 = .ok (.aload_n 0, 1) := by decide +kernel
theorem dL_law_277 : decode cL_law 277 = .ok (.iload_n 3, 1) := by decide +kernel
theorem dL_law_278 : decode cL_law 278 = .ok (.iconst 2, 1) := by decide +kernel
theorem dL_law_279 : decode cL_law 279 = .ok (.iadd, 1) := by decide +kernel
theorem dL_law_280 : decode cL_law 280 = .ok (.iaload, 1) := by decide +kernel
theorem dL_law_281 : decode cL_law 281 = .ok (.aload_n 0, 1) := by decide +kernel
theorem dL_law_282 : decode cL_law 282 = .ok (.iload_n 3, 1) := by decide +kernel
theorem dL_law_283 : decode cL_law 283 = .ok (.iconst 3, 1) := by decide +kernel
theorem dL_law_284 : decode cL_law 284 = .ok (.iadd, 1) := by decide +kernel
theorem dL_law_285 : decode cL_law 285 = .ok (.iaload, 1) := by decide +kernel
theorem dL_law_286 : decode cL_law 286 = .ok (.aload_n 0, 1) := by decide +kernel
theorem dL_law_287 : decode cL_law 287 = .ok (.iload_n 3, 1) := by decide +kernel
theorem dL_law_288 : decode cL_law 288 = .ok (.iconst 4, 1) := by decide +kernel
theorem dL_law_289 : decode cL_law 289 = .ok (.iadd, 1) := by decide +kernel
theorem dL_law_290 : decode cL_law 290 = .ok (.iaload, 1) := by decide +kernel
theorem dL_law_291 : decode cL_law 291 = .ok (.invokevirtual 29, 3) := by decide +kernel
theorem dL_law_294 : decode cL_law 294 = .ok (.if_icmp .eq 480, 3) := by decide +kernel
theorem dL_law_297 : decode cL_law 297 = .ok (.iconst 0, 1) := by decide +kernel
theorem dL_law_298 : decode cL_law 298 = .ok (.ireturn, 1) := by decide +kernel
theorem dL_law_299 : decode cL_law 299 = .ok (.aload_n 1, 1) := by decide +kernel
theorem dL_law_300 : decode cL_law 300 = .ok (.aload_n 0, 1) := by decide +kernel
theorem dL_law_301 : decode cL_law 301 = .ok (.iload_n 3, 1) := by decide +kernel
theorem dL_law_302 : decode cL_law 302 = .ok (.iconst 1, 1) := by decide +kernel
theorem dL_law_303 : decode cL_law 303 = .ok (.iadd, 1) := by decide +kernel
theorem dL_law_304 : decode cL_law 304 = .ok (.iaload, 1) := by decide +kernel
theorem dL_law_305 : decode cL_law 305 = .ok (.aload_n 0, 1) := by decide +kernel
theorem dL_law_306 : decode cL_law 306 = .ok (.iload_n 3, 1) := by decide +kernel
theorem dL_law_307 : decode cL_law 307 = .ok (.iconst 2, 1) := by decide +kernel
theorem dL_law_308 : decode cL_law 308 = .ok (.iadd, 1) := by decide +kernel
theorem dL_law_309 : decode cL_law 309 = .ok (.iaload, 1) := by decide +kernel
theorem dL_law_310 : decode cL_law 310 = .ok (.invokevirtual 30, 3) := by decide +kernel
theorem dL_law_313 : decode cL_law 313 = .ok (.aload_n 2, 1) := by decide +kernel
theorem dL_law_314 : decode cL_law 314 = .ok (.aload_n 0, 1) := by decide +kernel
theorem dL_law_315 : decode cL_law 315 = .ok (.iload_n 3, 1) := by decide +kernel
theorem dL_law_316 : decode cL_law 316 = .ok (.iconst 1, 1) := by decide +kernel
theorem dL_law_317 : decode cL_law 317 = .ok (.iadd, 1) := by decide +kernel
theorem dL_law_318 : decode cL_law 318 = .ok (.iaload, 1) := by decide +kernel
theorem dL_law_319 : decode cL_law 319 = .ok (.aload_n 0, 1) := by decide +kernel
theorem dL_law_320 : decode cL_law 320 = .ok (.iload_n 3, 1) := by decide +kernel
theorem dL_law_321 : decode cL_law 321 = .ok (.iconst 2, 1) := by decide +kernel
theorem dL_law_322 : decode cL_law 322 = .ok (.iadd, 1) := by decide +kernel
theorem dL_law_323 : decode cL_law 323 = .ok (.iaload, 1) := by decide +kernel
theorem dL_law_324 : decode cL_law 324 = .ok (.invokevirtual 34, 3) := by decide +kernel
theorem dL_law_327 : decode cL_law 327 = .ok (.if_icmp .eq 447, 3) := by decide +kernel
theorem dL_law_330 : decode cL_law 330 = .ok (.iconst 0, 1) := by decide +kernel
theorem dL_law_331 : decode cL_law 331 = .ok (.ireturn, 1) := by decide +kernel
theorem dL_law_332 : decode cL_law 332 = .ok (.aload_n 1, 1) := by decide +kernel
theorem dL_law_333 : decode cL_law 333 = .ok (.aload_n 0, 1) := by decide +kernel
theorem dL_law_334 : decode cL_law 334 = .ok (.iload_n 3, 1) := by decide +kernel
theorem dL_law_335 : decode cL_law 335 = .ok (.iconst 1, 1) := by decide +kernel
theorem dL_law_336 : decode cL_law 336 = .ok (.iadd, 1) := by decide +kernel
theorem dL_law_337 : decode cL_law 337 = .ok (.iaload, 1) := by decide +kernel
theorem dL_law_338 : decode cL_law 338 = .ok (.aload_n 0, 1) := by decide +kernel
theorem dL_law_339 : decode cL_law 339 = .ok (.iload_n 3, 1) := by decide +kernel
theorem dL_law_340 : decode cL_law 340 = .ok (.iconst 2, 1) := by decide +kernel
theorem dL_law_341 : decode cL_law 341 = .ok (.iadd, 1) := by decide +kernel
theorem dL_law_342 : decode cL_law 342 = .ok (.iaload, 1) := by decide +kernel
theorem dL_law_343 : decode cL_law 343 = .ok (.invokevirtual 35, 3) := by decide +kernel
theorem dL_law_346 : decode cL_law 346 = .ok (.aload_n 2, 1) := by decide +kernel
theorem dL_law_347 : decode cL_law 347 = .ok (.aload_n 0, 1) := by decide +kernel
theorem dL_law_348 : decode cL_law 348 = .ok (.iload_n 3, 1) := by decide +kernel
theorem dL_law_349 : decode cL_law 349 = .ok (.iconst 1, 1) := by decide +kernel
theorem dL_law_350 : decode cL_law 350 = .ok (.iadd, 1) := by decide +kernel
theorem dL_law_351 : decode cL_law 351 = .ok (.iaload, 1) := by decide +kernel
theorem dL_law_352 : decode cL_law 352 = .ok (.aload_n 0, 1) := by decide +kernel
theorem dL_law_353 : decode cL_law 353 = .ok (.iload_n 3, 1) := by decide +kernel
theorem dL_law_354 : decode cL_law 354 = .ok (.iconst 2, 1) := by decide +kernel
theorem dL_law_355 : decode cL_law 355 = .ok (.iadd, 1) := by decide +kernel
theorem dL_law_356 : decode cL_law 356 = .ok (.iaload, 1) := by decide +kernel
theorem dL_law_357 : decode cL_law 357 = .ok (.invokevirtual 38, 3) := by decide +kernel
theorem dL_law_360 : decode cL_law 360 = .ok (.if_icmp .eq 414, 3) := by decide +kernel
theorem dL_law_363 : decode cL_law 363 = .ok (.iconst 0, 1) := by decide +kernel
theorem dL_law_364 : decode cL_law 364 = .ok (.ireturn, 1) := by decide +kernel
theorem dL_law_365 : decode cL_law 365 = .ok (.aload_n 1, 1) := by decide +kernel
theorem dL_law_366 : decode cL_law 366 = .ok (.aload_n 0, 1) := by decide +kernel
theorem dL_law_367 : decode cL_law 367 = .ok (.iload_n 3, 1) := by decide +kernel
theorem dL_law_368 : decode cL_law 368 = .ok (.iconst 1, 1) := by decide +kernel
theorem dL_law_369 : decode cL_law 369 = .ok (.iadd, 1) := by decide +kernel
theorem dL_law_370 : decode cL_law 370 = .ok (.iaload, 1) := by decide +kernel
theorem dL_law_371 : decode cL_law 371 = .ok (.invokevirtual 39, 3) := by decide +kernel
theorem dL_law_374 : decode cL_law 374 = .ok (.aload_n 2, 1) := by decide +kernel
theorem dL_law_375 : decode cL_law 375 = .ok (.aload_n 0, 1) := by decide +kernel
theorem dL_law_376 : decode cL_law 376 = .ok (.iload_n 3, 1) := by decide +kernel
theorem dL_law_377 : decode cL_law 377 = .ok (.iconst 1, 1) := by decide +kernel
theorem dL_law_378 : decode cL_law 378 = .ok (.iadd, 1) := by decide +kernel
theorem dL_law_379 : decode cL_law 379 = .ok (.iaload, 1) := by decide +kernel
theorem dL_law_380 : decode cL_law 380 = .ok (.invokevirtual 43, 3) := by decide +kernel
theorem dL_law_383 : decode cL_law 383 = .ok (.if_icmp .eq 391, 3) := by decide +kernel
theorem dL_law_386 : decode cL_law 386 = .ok (.iconst 0, 1) := by decide +kernel
theorem dL_law_387 : decode cL_law 387 = .ok (.ireturn, 1) := by decide +kernel
theorem dL_law_388 : decode cL_law 388 = .ok (.aload_n 1, 1) := by decide +kernel
theorem dL_law_389 : decode cL_law 389 = .ok (.aload_n 0, 1) := by decide +kernel
theorem dL_law_390 : decode cL_law 390 = .ok (.iload_n 3, 1) := by decide +kernel
theorem dL_law_391 : decode cL_law 391 = .ok (.iconst 1, 1) := by decide +kernel
theorem dL_law_392 : decode cL_law 392 = .ok (.iadd, 1) := by decide +kernel
theorem dL_law_393 : decode cL_law 393 = .ok (.iaload, 1) := by decide +kernel
theorem dL_law_394 : decode cL_law 394 = .ok (.invokevirtual 44, 3) := by decide +kernel
theorem dL_law_397 : decode cL_law 397 = .ok (.aload_n 2, 1) := by decide +kernel
theorem dL_law_398 : decode cL_law 398 = .ok (.aload_n 0, 1) := by decide +kernel
theorem dL_law_399 : decode cL_law 399 = .ok (.iload_n 3, 1) := by decide +kernel
theorem dL_law_400 : decode cL_law 400 = .ok (.iconst 1, 1) := by decide +kernel
theorem dL_law_401 : decode cL_law 401 = .ok (.iadd, 1) := by decide +kernel
theorem dL_law_402 : decode cL_law 402 = .ok (.iaload, 1) := by decide +kernel
theorem dL_law_403 : decode cL_law 403 = .ok (.invokevirtual 47, 3) := by decide +kernel
theorem dL_law_406 : decode cL_law 406 = .ok (.if_icmp .eq 368, 3) := by decide +kernel
theorem dL_law_409 : decode cL_law 409 = .ok (.iconst 0, 1) := by decide +kernel
theorem dL_law_410 : decode cL_law 410 = .ok (.ireturn, 1) := by decide +kernel
theorem dL_law_411 : decode cL_law 411 = .ok (.aload_n 1, 1) := by decide +kernel
theorem dL_law_412 : decode cL_law 412 = .ok (.aload_n 0, 1) := by decide +kernel
theorem dL_law_413 : decode cL_law 413 = .ok (.iload_n 3, 1) := by decide +kernel
theorem dL_law_414 : decode cL_law 414 = .ok (.iconst 1, 1) := by decide +kernel
theorem dL_law_415 : decode cL_law 415 = .ok (.iadd, 1) := by decide +kernel
theorem dL_law_416 : decode cL_law 416 = .ok (.iaload, 1) := by decide +kernel
theorem dL_law_417 : decode cL_law 417 = .ok (.invokevirtual 48, 3) := by decide +kernel
theorem dL_law_420 : decode cL_law 420 = .ok (.aload_n 2, 1) := by decide +kernel
theorem dL_law_421 : decode cL_law 421 = .ok (.aload_n 0, 1) := by decide +kernel
theorem dL_law_422 : decode cL_law 422 = .ok (.iload_n 3, 1) := by decide +kernel
theorem dL_law_423 : decode cL_law 423 = .ok (.iconst 1, 1) := by decide +kernel
theorem dL_law_424 : decode cL_law 424 = .ok (.iadd, 1) := by decide +kernel
theorem dL_law_425 : decode cL_law 425 = .ok (.iaload, 1) := by decide +kernel
theorem dL_law_426 : decode cL_law 426 = .ok (.invokevirtual 51, 3) := by decide +kernel
theorem dL_law_429 : decode cL_law 429 = .ok (.if_icmp .eq 345, 3) := by decide +kernel
theorem dL_law_432 : decode cL_law 432 = .ok (.iconst 0, 1) := by decide +kernel
theorem dL_law_433 : decode cL_law 433 = .ok (.ireturn, 1) := by decide +kernel
theorem dL_law_434 : decode cL_law 434 = .ok (.aload_n 1, 1) := by decide +kernel
theorem dL_law_435 : decode cL_law 435 = .ok (.aload_n 0, 1) := by decide +kernel
theorem dL_law_436 : decode cL_law 436 = .ok (.iload_n 3, 1) := by decide +kernel
theorem dL_law_437 : decode cL_law 437 = .ok (.iconst 1, 1) := by decide +kernel
theorem dL_law_438 : decode cL_law 438 = .ok (.iadd, 1) := by decide +kernel
theorem dL_law_439 : decode cL_law 439 = .ok (.iaload, 1) := by decide +kernel
theorem dL_law_440 : decode cL_law 440 = .ok (.invokevirtual 52, 3) := by decide +kernel
theorem dL_law_443 : decode cL_law 443 = .ok (.aload_n 2, 1) := by decide +kernel
theorem dL_law_444 : decode cL_law 444 = .ok (.aload_n 0, 1) := by decide +kernel
theorem dL_law_445 : decode cL_law 445 = .ok (.iload_n 3, 1) := by decide +kernel
theorem dL_law_446 : decode cL_law 446 = .ok (.iconst 1, 1) := by decide +kernel
theorem dL_law_447 : decode cL_law 447 = .ok (.iadd, 1) := by decide +kernel
theorem dL_law_448 : decode cL_law 448 = .ok (.iaload, 1) := by decide +kernel
theorem dL_law_449 : decode cL_law 449 = .ok (.invokevirtual 55, 3) := by decide +kernel
theorem dL_law_452 : decode cL_law 452 = .ok (.if_icmp .eq 322, 3) := by decide +kernel
theorem dL_law_455 : decode cL_law 455 = .ok (.iconst 0, 1) := by decide +kernel
theorem dL_law_456 : decode cL_law 456 = .ok (.ireturn, 1) := by decide +kernel
theorem dL_law_457 : decode cL_law 457 = .ok (.aload_n 1, 1) := by decide +kernel
theorem dL_law_458 : decode cL_law 458 = .ok (.aload_n 0, 1) := by decide +kernel
theorem dL_law_459 : decode cL_law 459 = .ok (.iload_n 3, 1) := by decide +kernel
theorem dL_law_460 : decode cL_law 460 = .ok (.iconst 1, 1) := by decide +kernel
theorem dL_law_461 : decode cL_law 461 = .ok (.iadd, 1) := by decide +kernel
theorem dL_law_462 : decode cL_law 462 = .ok (.iaload, 1) := by decide +kernel
theorem dL_law_463 : decode cL_law 463 = .ok (.invokevirtual 56, 3) := by decide +kernel
theorem dL_law_466 : decode cL_law 466 = .ok (.aload_n 2, 1) := by decide +kernel
theorem dL_law_467 : decode cL_law 467 = .ok (.aload_n 0, 1) := by decide +kernel
theorem dL_law_468 : decode cL_law 468 = .ok (.iload_n 3, 1) := by decide +kernel
theorem dL_law_469 : decode cL_law 469 = .ok (.iconst 1, 1) := by decide +kernel
theorem dL_law_470 : decode cL_law 470 = .ok (.iadd, 1) := by decide +kernel
theorem dL_law_471 : decode cL_law 471 = .ok (.iaload, 1) := by decide +kernel
theorem dL_law_472 : decode cL_law 472 = .ok (.invokevirtual 59, 3) := by decide +kernel
theorem dL_law_475 : decode cL_law 475 = .ok (.if_icmp .eq 299, 3) := by decide +kernel
theorem dL_law_478 : decode cL_law 478 = .ok (.iconst 0, 1) := by decide +kernel
theorem dL_law_479 : decode cL_law 479 = .ok (.ireturn, 1) := by decide +kernel
theorem dL_law_480 : decode cL_law 480 = .ok (.aload_n 1, 1) := by decide +kernel
theorem dL_law_481 : decode cL_law 481 = .ok (.aload_n 0, 1) := by decide +kernel
theorem dL_law_482 : decode cL_law 482 = .ok (.iload_n 3, 1) := by decide +kernel
theorem dL_law_483 : decode cL_law 483 = .ok (.iconst 1, 1) := by decide +kernel
theorem dL_law_484 : decode cL_law 484 = .ok (.iadd, 1) := by decide +kernel
theorem dL_law_485 : decode cL_law 485 = .ok (.iaload, 1) := by decide +kernel
theorem dL_law_486 : decode cL_law 486 = .ok (.aload_n 0, 1) := by decide +kernel
theorem dL_law_487 : decode cL_law 487 = .ok (.iload_n 3, 1) := by decide +kernel
theorem dL_law_488 : decode cL_law 488 = .ok (.iconst 2, 1) := by decide +kernel
theorem dL_law_489 : decode cL_law 489 = .ok (.iadd, 1) := by decide +kernel
theorem dL_law_490 : decode cL_law 490 = .ok (.iaload, 1) := by decide +kernel
theorem dL_law_491 : decode cL_law 491 = .ok (.invokevirtual 60, 3) := by decide +kernel
theorem dL_law_494 : decode cL_law 494 = .ok (.aload_n 2, 1) := by decide +kernel
theorem dL_law_495 : decode cL_law 495 = .ok (.aload_n 0, 1) := by decide +kernel
theorem dL_law_496 : decode cL_law 496 = .ok (.iload_n 3, 1) := by decide +kernel
theorem dL_law_497 : decode cL_law 497 = .ok (.iconst 1, 1) := by decide +kernel
theorem dL_law_498 : decode cL_law 498 = .ok (.iadd, 1) := by decide +kernel
theorem dL_law_499 : decode cL_law 499 = .ok (.iaload, 1) := by decide +kernel
theorem dL_law_500 : decode cL_law 500 = .ok (.aload_n 0, 1) := by decide +kernel
theorem dL_law_501 : decode cL_law 501 = .ok (.iload_n 3, 1) := by decide +kernel
theorem dL_law_502 : decode cL_law 502 = .ok (.iconst 2, 1) := by decide +kernel
theorem dL_law_503 : decode cL_law 503 = .ok (.iadd, 1) := by decide +kernel
theorem dL_law_504 : decode cL_law 504 = .ok (.iaload, 1) := by decide +kernel
theorem dL_law_505 : decode cL_law 505 = .ok (.invokevirtual 63, 3) := by decide +kernel
theorem dL_law_508 : decode cL_law 508 = .ok (.if_icmp .eq 266, 3) := by decide +kernel
theorem dL_law_511 : decode cL_law 511 = .ok (.iconst 0, 1) := by decide +kernel
theorem dL_law_512 : decode cL_law 512 = .ok (.ireturn, 1) := by decide +kernel
theorem dL_law_513 : decode cL_law 513 = .ok (.aload_n 1, 1) := by decide +kernel
theorem dL_law_514 : decode cL_law 514 = .ok (.aload_n 0, 1) := by decide +kernel
theorem dL_law_515 : decode cL_law 515 = .ok (.iload_n 3, 1) := by decide +kernel
theorem dL_law_516 : decode cL_law 516 = .ok (.iconst 1, 1) := by decide +kernel
theorem dL_law_517 : decode cL_law 517 = .ok (.iadd, 1) := by decide +kernel
theorem dL_law_518 : decode cL_law 518 = .ok (.iaload, 1) := by decide +kernel
theorem dL_law_519 : decode cL_law 519 = .ok (.aload_n 0, 1) := by decide +kernel
theorem dL_law_520 : decode cL_law 520 = .ok (.iload_n 3, 1) := by decide +kernel
theorem dL_law_521 : decode cL_law 521 = .ok (.iconst 2, 1) := by decide +kernel
theorem dL_law_522 : decode cL_law 522 = .ok (.iadd, 1) := by decide +kernel
theorem dL_law_523 : decode cL_law 523 = .ok (.iaload, 1) := by decide +kernel
theorem dL_law_524 : decode cL_law 524 = .ok (.aload_n 0, 1) := by decide +kernel
theorem dL_law_525 : decode cL_law 525 = .ok (.iload_n 3, 1) := by decide +kernel
theorem dL_law_526 : decode cL_law 526 = .ok (.iconst 3, 1) := by decide +kernel
theorem dL_law_527 : decode cL_law 527 = .ok (.iadd, 1) := by decide +kernel
theorem dL_law_528 : decode cL_law 528 = .ok (.iaload, 1) := by decide +kernel
theorem dL_law_529 : decode cL_law 529 = .ok (.invokevirtual 64, 3) := by decide +kernel
theorem dL_law_532 : decode cL_law 532 = .ok (.aload_n 2, 1) := by decide +kernel
theorem dL_law_533 : decode cL_law 533 = .ok (.aload_n 0, 1) := by decide +kernel
theorem dL_law_534 : decode cL_law 534 = .ok (.iload_n 3, 1) := by decide +kernel
theorem dL_law_535 : decode cL_law 535 = .ok (.iconst 1, 1) := by decide +kernel
theorem dL_law_536 : decode cL_law 536 = .ok (.iadd, 1) := by decide +kernel
theorem dL_law_537 : decode cL_law 537 = .ok (.iaload, 1) := by decide +kernel
theorem dL_law_538 : decode cL_law 538 = .ok (.aload_n 0, 1) := by decide +kernel
theorem dL_law_539 : decode cL_law 539 = .ok (.iload_n 3, 1) := by decide +kernel
theorem dL_law_540 : decode cL_law 540 = .ok (.iconst 2, 1) := by decide +kernel
theorem dL_law_541 : decode cL_law 541 = .ok (.iadd, 1) := by decide +kernel
theorem dL_law_542 : decode cL_law 542 = .ok (.iaload, 1) := by decide +kernel
theorem dL_law_543 : decode cL_law 543 = .ok (.aload_n 0, 1) := by decide +kernel
theorem dL_law_544 : decode cL_law 544 = .ok (.iload_n 3, 1) := by decide +kernel
theorem dL_law_545 : decode cL_law 545 = .ok (.iconst 3, 1) := by decide +kernel
theorem dL_law_546 : decode cL_law 546 = .ok (.iadd, 1) := by decide +kernel
theorem dL_law_547 : decode cL_law 547 = .ok (.iaload, 1) := by decide +kernel
theorem dL_law_548 : decode cL_law 548 = .ok (.invokevirtual 67, 3) := by decide +kernel
theorem dL_law_551 : decode cL_law 551 = .ok (.if_icmp .eq 223, 3) := by decide +kernel
theorem dL_law_554 : decode cL_law 554 = .ok (.iconst 0, 1) := by decide +kernel
theorem dL_law_555 : decode cL_law 555 = .ok (.ireturn, 1) := by decide +kernel
theorem dL_law_556 : decode cL_law 556 = .ok (.aload_n 1, 1) := by decide +kernel
theorem dL_law_557 : decode cL_law 557 = .ok (.aload_n 0, 1) := by decide +kernel
theorem dL_law_558 : decode cL_law 558 = .ok (.iload_n 3, 1) := by decide +kernel
theorem dL_law_559 : decode cL_law 559 = .ok (.iconst 1, 1) := by decide +kernel
theorem dL_law_560 : decode cL_law 560 = .ok (.iadd, 1) := by decide +kernel
theorem dL_law_561 : decode cL_law 561 = .ok (.iaload, 1) := by decide +kernel
theorem dL_law_562 : decode cL_law 562 = .ok (.aload_n 0, 1) := by decide +kernel
theorem dL_law_563 : decode cL_law 563 = .ok (.iload_n 3, 1) := by decide +kernel
theorem dL_law_564 : decode cL_law 564 = .ok (.iconst 2, 1) := by decide +kernel
theorem dL_law_565 : decode cL_law 565 = .ok (.iadd, 1) := by decide +kernel
theorem dL_law_566 : decode cL_law 566 = .ok (.iaload, 1) := by decide +kernel
theorem dL_law_567 : decode cL_law 567 = .ok (.invokevirtual 68, 3) := by decide +kernel
theorem dL_law_570 : decode cL_law 570 = .ok (.aload_n 2, 1) := by decide +kernel
theorem dL_law_571 : decode cL_law 571 = .ok (.aload_n 0, 1) := by decide +kernel
theorem dL_law_572 : decode cL_law 572 = .ok (.iload_n 3, 1) := by decide +kernel
theorem dL_law_573 : decode cL_law 573 = .ok (.iconst 1, 1) := by decide +kernel
theorem dL_law_574 : decode cL_law 574 = .ok (.iadd, 1) := by decide +kernel
theorem dL_law_575 : decode cL_law 575 = .ok (.iaload, 1) := by decide +kernel
theorem dL_law_576 : decode cL_law 576 = .ok (.aload_n 0, 1) := by decide +kernel
theorem dL_law_577 : decode cL_law 577 = .ok (.iload_n 3, 1) := by decide +kernel
theorem dL_law_578 : decode cL_law 578 = .ok (.iconst 2, 1) := by decide +kernel
theorem dL_law_579 : decode cL_law 579 = .ok (.iadd, 1) := by decide +kernel
theorem dL_law_580 : decode cL_law 580 = .ok (.iaload, 1) := by decide +kernel
theorem dL_law_581 : decode cL_law 581 = .ok (.invokevirtual 72, 3) := by decide +kernel
theorem dL_law_584 : decode cL_law 584 = .ok (.if_icmp .eq 190, 3) := by decide +kernel
theorem dL_law_587 : decode cL_law 587 = .ok (.iconst 0, 1) := by decide +kernel
theorem dL_law_588 : decode cL_law 588 = .ok (.ireturn, 1) := by decide +kernel
theorem dL_law_589 : decode cL_law 589 = .ok (.aload_n 1, 1) := by decide +kernel
theorem dL_law_590 : decode cL_law 590 = .ok (.aload_n 0, 1) := by decide +kernel
theorem dL_law_591 : decode cL_law 591 = .ok (.iload_n 3, 1) := by decide +kernel
theorem dL_law_592 : decode cL_law 592 = .ok (.iconst 1, 1) := by decide +kernel
theorem dL_law_593 : decode cL_law 593 = .ok (.iadd, 1) := by decide +kernel
theorem dL_law_594 : decode cL_law 594 = .ok (.iaload, 1) := by decide +kernel
theorem dL_law_595 : decode cL_law 595 = .ok (.aload_n 0, 1) := by decide +kernel
theorem dL_law_596 : decode cL_law 596 = .ok (.iload_n 3, 1) := by decide +kernel
theorem dL_law_597 : decode cL_law 597 = .ok (.iconst 2, 1) := by decide +kernel
theorem dL_law_598 : decode cL_law 598 = .ok (.iadd, 1) := by decide +kernel
theorem dL_law_599 : decode cL_law 599 = .ok (.iaload, 1) := by decide +kernel
theorem dL_law_600 : decode cL_law 600 = .ok (.invokevirtual 73, 3) := by decide +kernel
theorem dL_law_603 : decode cL_law 603 = .ok (.aload_n 2, 1) := by decide +kernel
theorem dL_law_604 : decode cL_law 604 = .ok (.aload_n 0, 1) := by decide +kernel
theorem dL_law_605 : decode cL_law 605 = .ok (.iload_n 3, 1) := by decide +kernel
theorem dL_law_606 : decode cL_law 606 = .ok (.iconst 1, 1) := by decide +kernel
theorem dL_law_607 : decode cL_law 607 = .ok (.iadd, 1) := by decide +kernel
theorem dL_law_608 : decode cL_law 608 = .ok (.iaload, 1) := by decide +kernel
theorem dL_law_609 : decode cL_law 609 = .ok (.aload_n 0, 1) := by decide +kernel
theorem dL_law_610 : decode cL_law 610 = .ok (.iload_n 3, 1) := by decide +kernel
theorem dL_law_611 : decode cL_law 611 = .ok (.iconst 2, 1) := by decide +kernel
theorem dL_law_612 : decode cL_law 612 = .ok (.iadd, 1) := by decide +kernel
theorem dL_law_613 : decode cL_law 613 = .ok (.iaload, 1) := by decide +kernel
theorem dL_law_614 : decode cL_law 614 = .ok (.invokevirtual 76, 3) := by decide +kernel
theorem dL_law_617 : decode cL_law 617 = .ok (.if_icmp .eq 157, 3) := by decide +kernel
theorem dL_law_620 : decode cL_law 620 = .ok (.iconst 0, 1) := by decide +kernel
theorem dL_law_621 : decode cL_law 621 = .ok (.ireturn, 1) := by decide +kernel
theorem dL_law_622 : decode cL_law 622 = .ok (.aload_n 1, 1) := by decide +kernel
theorem dL_law_623 : decode cL_law 623 = .ok (.aload_n 0, 1) := by decide +kernel
theorem dL_law_624 : decode cL_law 624 = .ok (.iload_n 3, 1) := by decide +kernel
theorem dL_law_625 : decode cL_law 625 = .ok (.iconst 1, 1) := by decide +kernel
theorem dL_law_626 : decode cL_law 626 = .ok (.iadd, 1) := by decide +kernel
theorem dL_law_627 : decode cL_law 627 = .ok (.iaload, 1) := by decide +kernel
theorem dL_law_628 : decode cL_law 628 = .ok (.aload_n 0, 1) := by decide +kernel
theorem dL_law_629 : decode cL_law 629 = .ok (.iload_n 3, 1) := by decide +kernel
theorem dL_law_630 : decode cL_law 630 = .ok (.iconst 2, 1) := by decide +kernel
theorem dL_law_631 : decode cL_law 631 = .ok (.iadd, 1) := by decide +kernel
theorem dL_law_632 : decode cL_law 632 = .ok (.iaload, 1) := by decide +kernel
theorem dL_law_633 : decode cL_law 633 = .ok (.aload_n 0, 1) := by decide +kernel
theorem dL_law_634 : decode cL_law 634 = .ok (.iload_n 3, 1) := by decide +kernel
theorem dL_law_635 : decode cL_law 635 = .ok (.iconst 3, 1) := by decide +kernel
theorem dL_law_636 : decode cL_law 636 = .ok (.iadd, 1) := by decide +kernel
theorem dL_law_637 : decode cL_law 637 = .ok (.iaload, 1) := by decide +kernel
theorem dL_law_638 : decode cL_law 638 = .ok (.invokevirtual 77, 3) := by decide +kernel
theorem dL_law_641 : decode cL_law 641 = .ok (.aload_n 2, 1) := by decide +kernel
theorem dL_law_642 : decode cL_law 642 = .ok (.aload_n 0, 1) := by decide +kernel
theorem dL_law_643 : decode cL_law 643 = .ok (.iload_n 3, 1) := by decide +kernel
theorem dL_law_644 : decode cL_law 644 = .ok (.iconst 1, 1) := by decide +kernel
theorem dL_law_645 : decode cL_law 645 = .ok (.iadd, 1) := by decide +kernel
theorem dL_law_646 : decode cL_law 646 = .ok (.iaload, 1) := by decide +kernel
theorem dL_law_647 : decode cL_law 647 = .ok (.aload_n 0, 1) := by decide +kernel
theorem dL_law_648 : decode cL_law 648 = .ok (.iload_n 3, 1) := by decide +kernel
theorem dL_law_649 : decode cL_law 649 = .ok (.iconst 2, 1) := by decide +kernel
theorem dL_law_650 : decode cL_law 650 = .ok (.iadd, 1) := by decide +kernel
theorem dL_law_651 : decode cL_law 651 = .ok (.iaload, 1) := by decide +kernel
theorem dL_law_652 : decode cL_law 652 = .ok (.aload_n 0, 1) := by decide +kernel
theorem dL_law_653 : decode cL_law 653 = .ok (.iload_n 3, 1) := by decide +kernel
theorem dL_law_654 : decode cL_law 654 = .ok (.iconst 3, 1) := by decide +kernel
theorem dL_law_655 : decode cL_law 655 = .ok (.iadd, 1) := by decide +kernel
theorem dL_law_656 : decode cL_law 656 = .ok (.iaload, 1) := by decide +kernel
theorem dL_law_657 : decode cL_law 657 = .ok (.invokevirtual 80, 3) := by decide +kernel
theorem dL_law_660 : decode cL_law 660 = .ok (.if_icmp .eq 114, 3) := by decide +kernel
theorem dL_law_663 : decode cL_law 663 = .ok (.iconst 0, 1) := by decide +kernel
theorem dL_law_664 : decode cL_law 664 = .ok (.ireturn, 1) := by decide +kernel
theorem dL_law_665 : decode cL_law 665 = .ok (.aload_n 1, 1) := by decide +kernel
theorem dL_law_666 : decode cL_law 666 = .ok (.aload_n 0, 1) := by decide +kernel
theorem dL_law_667 : decode cL_law 667 = .ok (.iload_n 3, 1) := by decide +kernel
theorem dL_law_668 : decode cL_law 668 = .ok (.iconst 1, 1) := by decide +kernel
theorem dL_law_669 : decode cL_law 669 = .ok (.iadd, 1) := by decide +kernel
theorem dL_law_670 : decode cL_law 670 = .ok (.iaload, 1) := by decide +kernel
theorem dL_law_671 : decode cL_law 671 = .ok (.aload_n 0, 1) := by decide +kernel
theorem dL_law_672 : decode cL_law 672 = .ok (.iload_n 3, 1) := by decide +kernel
theorem dL_law_673 : decode cL_law 673 = .ok (.iconst 2, 1) := by decide +kernel
theorem dL_law_674 : decode cL_law 674 = .ok (.iadd, 1) := by decide +kernel
theorem dL_law_675 : decode cL_law 675 = .ok (.iaload, 1) := by decide +kernel
theorem dL_law_676 : decode cL_law 676 = .ok (.aload_n 0, 1) := by decide +kernel
theorem dL_law_677 : decode cL_law 677 = .ok (.iload_n 3, 1) := by decide +kernel
theorem dL_law_678 : decode cL_law 678 = .ok (.iconst 3, 1) := by decide +kernel
theorem dL_law_679 : decode cL_law 679 = .ok (.iadd, 1) := by decide +kernel
theorem dL_law_680 : decode cL_law 680 = .ok (.iaload, 1) := by decide +kernel
theorem dL_law_681 : decode cL_law 681 = .ok (.aload_n 0, 1) := by decide +kernel
theorem dL_law_682 : decode cL_law 682 = .ok (.iload_n 3, 1) := by decide +kernel
theorem dL_law_683 : decode cL_law 683 = .ok (.iconst 4, 1) := by decide +kernel
theorem dL_law_684 : decode cL_law 684 = .ok (.iadd, 1) := by decide +kernel
theorem dL_law_685 : decode cL_law 685 = .ok (.iaload, 1) := by decide +kernel
theorem dL_law_686 : decode cL_law 686 = .ok (.invokevirtual 81, 3) := by decide +kernel
theorem dL_law_689 : decode cL_law 689 = .ok (.aload_n 2, 1) := by decide +kernel
theorem dL_law_690 : decode cL_law 690 = .ok (.aload_n 0, 1) := by decide +kernel
theorem dL_law_691 : decode cL_law 691 = .ok (.iload_n 3, 1) := by decide +kernel
theorem dL_law_692 : decode cL_law 692 = .ok (.iconst 1, 1) := by decide +kernel
theorem dL_law_693 : decode cL_law 693 = .ok (.iadd, 1) := by decide +kernel
theorem dL_law_694 : decode cL_law 694 = .ok (.iaload, 1) := by decide +kernel
theorem dL_law_695 : decode cL_law 695 = .ok (.aload_n 0, 1) := by decide +kernel
theorem dL_law_696 : decode cL_law 696 = .ok (.iload_n 3, 1) := by decide +kernel
theorem dL_law_697 : decode cL_law 697 = .ok (.iconst 2, 1) := by decide +kernel
theorem dL_law_698 : decode cL_law 698 = .ok (.iadd, 1) := by decide +kernel
theorem dL_law_699 : decode cL_law 699 = .ok (.iaload, 1) := by decide +kernel
theorem dL_law_700 : decode cL_law 700 = .ok (.aload_n 0, 1) := by decide +kernel
theorem dL_law_701 : decode cL_law 701 = .ok (.iload_n 3, 1) := by decide +kernel
theorem dL_law_702 : decode cL_law 702 = .ok (.iconst 3, 1) := by decide +kernel
theorem dL_law_703 : decode cL_law 703 = .ok (.iadd, 1) := by decide +kernel
theorem dL_law_704 : decode cL_law 704 = .ok (.iaload, 1) := by decide +kernel
theorem dL_law_705 : decode cL_law 705 = .ok (.aload_n 0, 1) := by decide +kernel
theorem dL_law_706 : decode cL_law 706 = .ok (.iload_n 3, 1) := by decide +kernel
theorem dL_law_707 : decode cL_law 707 = .ok (.iconst 4, 1) := by decide +kernel
theorem dL_law_708 : decode cL_law 708 = .ok (.iadd, 1) := by decide +kernel
theorem dL_law_709 : decode cL_law 709 = .ok (.iaload, 1) := by decide +kernel
theorem dL_law_710 : decode cL_law 710 = .ok (.invokevirtual 84, 3) := by decide +kernel
theorem dL_law_713 : decode cL_law 713 = .ok (.if_icmp .eq 61, 3) := by decide +kernel
theorem dL_law_716 : decode cL_law 716 = .ok (.iconst 0, 1) := by decide +kernel
theorem dL_law_717 : decode cL_law 717 = .ok (.ireturn, 1) := by decide +kernel
theorem dL_law_718 : decode cL_law 718 = .ok (.aload_n 1, 1) := by decide +kernel
theorem dL_law_719 : decode cL_law 719 = .ok (.aload_n 0, 1) := by decide +kernel
theorem dL_law_720 : decode cL_law 720 = .ok (.iload_n 3, 1) := by decide +kernel
theorem dL_law_721 : decode cL_law 721 = .ok (.iconst 1, 1) := by decide +kernel
theorem dL_law_722 : decode cL_law 722 = .ok (.iadd, 1) := by decide +kernel
theorem dL_law_723 : decode cL_law 723 = .ok (.iaload, 1) := by decide +kernel
theorem dL_law_724 : decode cL_law 724 = .ok (.aload_n 0, 1) := by decide +kernel
theorem dL_law_725 : decode cL_law 725 = .ok (.iload_n 3, 1) := by decide +kernel
theorem dL_law_726 : decode cL_law 726 = .ok (.iconst 2, 1) := by decide +kernel
theorem dL_law_727 : decode cL_law 727 = .ok (.iadd, 1) := by decide +kernel
theorem dL_law_728 : decode cL_law 728 = .ok (.iaload, 1) := by decide +kernel
theorem dL_law_729 : decode cL_law 729 = .ok (.invokevirtual 85, 3) := by decide +kernel
theorem dL_law_732 : decode cL_law 732 = .ok (.aload_n 2, 1) := by decide +kernel
theorem dL_law_733 : decode cL_law 733 = .ok (.aload_n 0, 1) := by decide +kernel
theorem dL_law_734 : decode cL_law 734 = .ok (.iload_n 3, 1) := by decide +kernel
theorem dL_law_735 : decode cL_law 735 = .ok (.iconst 1, 1) := by decide +kernel
theorem dL_law_736 : decode cL_law 736 = .ok (.iadd, 1) := by decide +kernel
theorem dL_law_737 : decode cL_law 737 = .ok (.iaload, 1) := by decide +kernel
theorem dL_law_738 : decode cL_law 738 = .ok (.aload_n 0, 1) := by decide +kernel
theorem dL_law_739 : decode cL_law 739 = .ok (.iload_n 3, 1) := by decide +kernel
theorem dL_law_740 : decode cL_law 740 = .ok (.iconst 2, 1) := by decide +kernel
theorem dL_law_741 : decode cL_law 741 = .ok (.iadd, 1) := by decide +kernel
theorem dL_law_742 : decode cL_law 742 = .ok (.iaload, 1) := by decide +kernel
theorem dL_law_743 : decode cL_law 743 = .ok (.invokevirtual 88, 3) := by decide +kernel
theorem dL_law_746 : decode cL_law 746 = .ok (.if_icmp .eq 28, 3) := by decide +kernel
theorem dL_law_749 : decode cL_law 749 = .ok (.iconst 0, 1) := by decide +kernel
theorem dL_law_750 : decode cL_law 750 = .ok (.ireturn, 1) := by decide +kernel
theorem dL_law_751 : decode cL_law 751 = .ok (.aload_n 1, 1) := by decide +kernel
theorem dL_law_752 : decode cL_law 752 = .ok (.aload_n 0, 1) := by decide +kernel
theorem dL_law_753 : decode cL_law 753 = .ok (.iload_n 3, 1) := by decide +kernel
theorem dL_law_754 : decode cL_law 754 = .ok (.iconst 1, 1) := by decide +kernel
theorem dL_law_755 : decode cL_law 755 = .ok (.iadd, 1) := by decide +kernel
theorem dL_law_756 : decode cL_law 756 = .ok (.iaload, 1) := by decide +kernel
theorem dL_law_757 : decode cL_law 757 = .ok (.invokevirtual 89, 3) := by decide +kernel
theorem dL_law_760 : decode cL_law 760 = .ok (.aload_n 2, 1) := by decide +kernel
theorem dL_law_761 : decode cL_law 761 = .ok (.aload_n 0, 1) := by decide +kernel
theorem dL_law_762 : decode cL_law 762 = .ok (.iload_n 3, 1) := by decide +kernel
theorem dL_law_763 : decode cL_law 763 = .ok (.iconst 1, 1) := by decide +kernel
theorem dL_law_764 : decode cL_law 764 = .ok (.iadd, 1) := by decide +kernel
theorem dL_law_765 : decode cL_law 765 = .ok (.iaload, 1) := by decide +kernel
