theorem dX5_chunkFrom_68 : decode cX5_chunkFrom 68 = .ok (.ifCond .ne 7, 3) := by decide +kernel
theorem dX5_chunkFrom_71 : decode cX5_chunkFrom 71 = .ok (.iconst 1, 1) := by decide +kernel
theorem dX5_chunkFrom_72 : decode cX5_chunkFrom 72 = .ok (.goto 4, 3) := by decide +kernel
theorem dX5_chunkFrom_75 : decode cX5_chunkFrom 75 = .ok (.iconst 0, 1) := by decide +kernel
theorem dX5_chunkFrom_76 : decode cX5_chunkFrom 76 = .ok (.istore 6, 2) := by decide +kernel
theorem dX5_chunkFrom_78 : decode cX5_chunkFrom 78 = .ok (.iload_n 3, 1) := by decide +kernel
theorem dX5_chunkFrom_79 : decode cX5_chunkFrom 79 = .ok (.bipush 32, 2) := by decide +kernel
theorem dX5_chunkFrom_81 : decode cX5_chunkFrom 81 = .ok (.if_icmp .ge 24, 3) := by decide +kernel
theorem dX5_chunkFrom_84 : decode cX5_chunkFrom 84 = .ok (.iload 6, 2) := by decide +kernel
theorem dX5_chunkFrom_86 : decode cX5_chunkFrom 86 = .ok (.ifCond .ne 19, 3) := by decide +kernel
theorem dX5_chunkFrom_89 : decode cX5_chunkFrom 89 = .ok (.iload_n 2, 1) := by decide +kernel
theorem dX5_chunkFrom_90 : decode cX5_chunkFrom 90 = .ok (.iload_n 3, 1) := by decide +kernel
theorem dX5_chunkFrom_91 : decode cX5_chunkFrom 91 = .ok (.iadd, 1) := by decide +kernel
theorem dX5_chunkFrom_92 : decode cX5_chunkFrom 92 = .ok (.aload_n 0, 1) := by decide +kernel
theorem dX5_chunkFrom_93 : decode cX5_chunkFrom 93 = .ok (.getfield 13, 3) := by decide +kernel
theorem dX5_chunkFrom_96 : decode cX5_chunkFrom 96 = .ok (.iload_n 1, 1) := by decide +kernel
theorem dX5_chunkFrom_97 : decode cX5_chunkFrom 97 = .ok (.iaload, 1) := by decide +kernel
theorem dX5_chunkFrom_98 : decode cX5_chunkFrom 98 = .ok (.if_icmp .ge 7, 3) := by decide +kernel
theorem dX5_chunkFrom_101 : decode cX5_chunkFrom 101 = .ok (.iconst 1, 1) := by decide +kernel
theorem dX5_chunkFrom_102 : decode cX5_chunkFrom 102 = .ok (.goto 4, 3) := by decide +kernel
theorem dX5_chunkFrom_105 : decode cX5_chunkFrom 105 = .ok (.iconst 0, 1) := by decide +kernel
theorem dX5_chunkFrom_106 : decode cX5_chunkFrom 106 = .ok (.istore 4, 2) := by decide +kernel
theorem dX5_chunkFrom_108 : decode cX5_chunkFrom 108 = .ok (.goto (-103), 3) := by decide +kernel
theorem dX5_chunkFrom_111 : decode cX5_chunkFrom 111 = .ok (.iload_n 3, 1) := by decide +kernel
theorem dX5_chunkFrom_112 : decode cX5_chunkFrom 112 = .ok (.ireturn, 1) := by decide +kernel
theorem dX5_chunk_0 : decode cX5_chunk 0 = .ok (.aload_n 0, 1) := by decide +kernel
theorem dX5_chunk_1 : decode cX5_chunk 1 = .ok (.iload_n 1, 1) := by decide +kernel
theorem dX5_chunk_2 : decode cX5_chunk 2 = .ok (.invokevirtual 76, 3) := by decide +kernel
theorem dX5_chunk_5 : decode cX5_chunk 5 = .ok (.ifCond .eq 8, 3) := by decide +kernel
theorem dX5_chunk_8 : decode cX5_chunk 8 = .ok (.iload_n 2, 1) := by decide +kernel
theorem dX5_chunk_9 : decode cX5_chunk 9 = .ok (.iconst (-1), 1) := by decide +kernel
theorem dX5_chunk_10 : decode cX5_chunk 10 = .ok (.if_icmp .ge 6, 3) := by decide +kernel
theorem dX5_chunk_13 : decode cX5_chunk 13 = .ok (.bipush (-2), 2) := by decide +kernel
theorem dX5_chunk_15 : decode cX5_chunk 15 = .ok (.ireturn, 1) := by decide +kernel
theorem dX5_chunk_16 : decode cX5_chunk 16 = .ok (.iconst 0, 1) := by decide +kernel
theorem dX5_chunk_17 : decode cX5_chunk 17 = .ok (.istore_n 3, 1) := by decide +kernel
theorem dX5_chunk_18 : decode cX5_chunk 18 = .ok (.iconst 0, 1) := by decide +kernel
theorem dX5_chunk_19 : decode cX5_chunk 19 = .ok (.istore 4, 2) := by decide +kernel
theorem dX5_chunk_21 : decode cX5_chunk 21 = .ok (.iload 4, 2) := by decide +kernel
theorem dX5_chunk_23 : decode cX5_chunk 23 = .ok (.aload_n 0, 1) := by decide +kernel
theorem dX5_chunk_24 : decode cX5_chunk 24 = .ok (.getfield 13, 3) := by decide +kernel
theorem dX5_chunk_27 : decode cX5_chunk 27 = .ok (.iload_n 1, 1) := by decide +kernel
theorem dX5_chunk_28 : decode cX5_chunk 28 = .ok (.iaload, 1) := by decide +kernel
theorem dX5_chunk_29 : decode cX5_chunk 29 = .ok (.if_icmp .ge 33, 3) := by decide +kernel
theorem dX5_chunk_32 : decode cX5_chunk 32 = .ok (.aload_n 0, 1) := by decide +kernel
theorem dX5_chunk_33 : decode cX5_chunk 33 = .ok (.iload_n 1, 1) := by decide +kernel
theorem dX5_chunk_34 : decode cX5_chunk 34 = .ok (.iload 4, 2) := by decide +kernel
theorem dX5_chunk_36 : decode cX5_chunk 36 = .ok (.invokevirtual 82, 3) := by decide +kernel
theorem dX5_chunk_39 : decode cX5_chunk 39 = .ok (.istore 5, 2) := by decide +kernel
theorem dX5_chunk_41 : decode cX5_chunk 41 = .ok (.iload_n 3, 1) := by decide +kernel
theorem dX5_chunk_42 : decode cX5_chunk 42 = .ok (.iload_n 2, 1) := by decide +kernel
theorem dX5_chunk_43 : decode cX5_chunk 43 = .ok (.if_icmp .ne 6, 3) := by decide +kernel
theorem dX5_chunk_46 : decode cX5_chunk 46 = .ok (.iload 5, 2) := by decide +kernel
theorem dX5_chunk_48 : decode cX5_chunk 48 = .ok (.ireturn, 1) := by decide +kernel
theorem dX5_chunk_49 : decode cX5_chunk 49 = .ok (.iload 4, 2) := by decide +kernel
theorem dX5_chunk_51 : decode cX5_chunk 51 = .ok (.iload 5, 2) := by decide +kernel
theorem dX5_chunk_53 : decode cX5_chunk 53 = .ok (.iadd, 1) := by decide +kernel
theorem dX5_chunk_54 : decode cX5_chunk 54 = .ok (.istore 4, 2) := by decide +kernel
theorem dX5_chunk_56 : decode cX5_chunk 56 = .ok (.iinc 3 1, 3) := by decide +kernel
theorem dX5_chunk_59 : decode cX5_chunk 59 = .ok (.goto (-38), 3) := by decide +kernel
theorem dX5_chunk_62 : decode cX5_chunk 62 = .ok (.iload_n 2, 1) := by decide +kernel
theorem dX5_chunk_63 : decode cX5_chunk 63 = .ok (.iconst (-1), 1) := by decide +kernel
theorem dX5_chunk_64 : decode cX5_chunk 64 = .ok (.if_icmp .ne 7, 3) := by decide +kernel
theorem dX5_chunk_67 : decode cX5_chunk 67 = .ok (.iload_n 3, 1) := by decide +kernel
theorem dX5_chunk_68 : decode cX5_chunk 68 = .ok (.goto 5, 3) := by decide +kernel
theorem dX5_chunk_71 : decode cX5_chunk 71 = .ok (.bipush (-2), 2) := by decide +kernel
theorem dX5_chunk_73 : decode cX5_chunk 73 = .ok (.ireturn, 1) := by decide +kernel
theorem dX5_rescale_0 : decode cX5_rescale 0 = .ok (.iload_n 1, 1) := by decide +kernel
theorem dX5_rescale_1 : decode cX5_rescale 1 = .ok (.iconst 1, 1) := by decide +kernel
theorem dX5_rescale_2 : decode cX5_rescale 2 = .ok (.iconst 4, 1) := by decide +kernel
theorem dX5_rescale_3 : decode cX5_rescale 3 = .ok (.invokestatic 72, 3) := by decide +kernel
theorem dX5_rescale_6 : decode cX5_rescale 6 = .ok (.ifCond .ne 6, 3) := by decide +kernel
theorem dX5_rescale_9 : decode cX5_rescale 9 = .ok (.bipush (-2), 2) := by decide +kernel
theorem dX5_rescale_11 : decode cX5_rescale 11 = .ok (.ireturn, 1) := by decide +kernel
theorem dX5_rescale_12 : decode cX5_rescale 12 = .ok (.iconst 0, 1) := by decide +kernel
theorem dX5_rescale_13 : decode cX5_rescale 13 = .ok (.istore_n 2, 1) := by decide +kernel
theorem dX5_rescale_14 : decode cX5_rescale 14 = .ok (.iconst 0, 1) := by decide +kernel
theorem dX5_rescale_15 : decode cX5_rescale 15 = .ok (.istore_n 3, 1) := by decide +kernel
theorem dX5_rescale_16 : decode cX5_rescale 16 = .ok (.iload_n 3, 1) := by decide +kernel
theorem dX5_rescale_17 : decode cX5_rescale 17 = .ok (.aload_n 0, 1) := by decide +kernel
theorem dX5_rescale_18 : decode cX5_rescale 18 = .ok (.getfield 7, 3) := by decide +kernel
theorem dX5_rescale_21 : decode cX5_rescale 21 = .ok (.if_icmp .ge 51, 3) := by decide +kernel
theorem dX5_rescale_24 : decode cX5_rescale 24 = .ok (.iconst 0, 1) := by decide +kernel
theorem dX5_rescale_25 : decode cX5_rescale 25 = .ok (.istore 4, 2) := by decide +kernel
theorem dX5_rescale_27 : decode cX5_rescale 27 = .ok (.iload 4, 2) := by decide +kernel
theorem dX5_rescale_29 : decode cX5_rescale 29 = .ok (.aload_n 0, 1) := by decide +kernel
theorem dX5_rescale_30 : decode cX5_rescale 30 = .ok (.getfield 13, 3) := by decide +kernel
theorem dX5_rescale_33 : decode cX5_rescale 33 = .ok (.iload_n 3, 1) := by decide +kernel
theorem dX5_rescale_34 : decode cX5_rescale 34 = .ok (.iaload, 1) := by decide +kernel
theorem dX5_rescale_35 : decode cX5_rescale 35 = .ok (.if_icmp .ge 31, 3) := by decide +kernel
theorem dX5_rescale_38 : decode cX5_rescale 38 = .ok (.aload_n 0, 1) := by decide +kernel
theorem dX5_rescale_39 : decode cX5_rescale 39 = .ok (.getfield 20, 3) := by decide +kernel
theorem dX5_rescale_42 : decode cX5_rescale 42 = .ok (.iload_n 2, 1) := by decide +kernel
theorem dX5_rescale_43 : decode cX5_rescale 43 = .ok (.aload_n 0, 1) := by decide +kernel
theorem dX5_rescale_44 : decode cX5_rescale 44 = .ok (.getfield 17, 3) := by decide +kernel
theorem dX5_rescale_47 : decode cX5_rescale 47 = .ok (.sipush 300, 3) := by decide +kernel
theorem dX5_rescale_50 : decode cX5_rescale 50 = .ok (.iload_n 3, 1) := by decide +kernel
theorem dX5_rescale_51 : decode cX5_rescale 51 = .ok (.imul, 1) := by decide +kernel
theorem dX5_rescale_52 : decode cX5_rescale 52 = .ok (.iload 4, 2) := by decide +kernel
theorem dX5_rescale_54 : decode cX5_rescale 54 = .ok (.iadd, 1) := by decide +kernel
theorem dX5_rescale_55 : decode cX5_rescale 55 = .ok (.iaload, 1) := by decide +kernel
theorem dX5_rescale_56 : decode cX5_rescale 56 = .ok (.iastore, 1) := by decide +kernel
theorem dX5_rescale_57 : decode cX5_rescale 57 = .ok (.iinc 2 1, 3) := by decide +kernel
theorem dX5_rescale_60 : decode cX5_rescale 60 = .ok (.iinc 4 1, 3) := by decide +kernel
theorem dX5_rescale_63 : decode cX5_rescale 63 = .ok (.goto (-36), 3) := by decide +kernel
theorem dX5_rescale_66 : decode cX5_rescale 66 = .ok (.iinc 3 1, 3) := by decide +kernel
theorem dX5_rescale_69 : decode cX5_rescale 69 = .ok (.goto (-53), 3) := by decide +kernel
theorem dX5_rescale_72 : decode cX5_rescale 72 = .ok (.iconst 0, 1) := by decide +kernel
theorem dX5_rescale_73 : decode cX5_rescale 73 = .ok (.istore_n 3, 1) := by decide +kernel
theorem dX5_rescale_74 : decode cX5_rescale 74 = .ok (.iload_n 3, 1) := by decide +kernel
theorem dX5_rescale_75 : decode cX5_rescale 75 = .ok (.iload_n 1, 1) := by decide +kernel
theorem dX5_rescale_76 : decode cX5_rescale 76 = .ok (.if_icmp .ge 31, 3) := by decide +kernel
theorem dX5_rescale_79 : decode cX5_rescale 79 = .ok (.iload_n 2, 1) := by decide +kernel
theorem dX5_rescale_80 : decode cX5_rescale 80 = .ok (.iload_n 3, 1) := by decide +kernel
theorem dX5_rescale_81 : decode cX5_rescale 81 = .ok (.iconst 1, 1) := by decide +kernel
theorem dX5_rescale_82 : decode cX5_rescale 82 = .ok (.iadd, 1) := by decide +kernel
theorem dX5_rescale_83 : decode cX5_rescale 83 = .ok (.imul, 1) := by decide +kernel
theorem dX5_rescale_84 : decode cX5_rescale 84 = .ok (.iload_n 1, 1) := by decide +kernel
theorem dX5_rescale_85 : decode cX5_rescale 85 = .ok (.idiv, 1) := by decide +kernel
theorem dX5_rescale_86 : decode cX5_rescale 86 = .ok (.iload_n 2, 1) := by decide +kernel
theorem dX5_rescale_87 : decode cX5_rescale 87 = .ok (.iload_n 3, 1) := by decide +kernel
theorem dX5_rescale_88 : decode cX5_rescale 88 = .ok (.imul, 1) := by decide +kernel
theorem dX5_rescale_89 : decode cX5_rescale 89 = .ok (.iload_n 1, 1) := by decide +kernel
theorem dX5_rescale_90 : decode cX5_rescale 90 = .ok (.idiv, 1) := by decide +kernel
theorem dX5_rescale_91 : decode cX5_rescale 91 = .ok (.isub, 1) := by decide +kernel
theorem dX5_rescale_92 : decode cX5_rescale 92 = .ok (.sipush 300, 3) := by decide +kernel
theorem dX5_rescale_95 : decode cX5_rescale 95 = .ok (.if_icmp .le 6, 3) := by decide +kernel
theorem dX5_rescale_98 : decode cX5_rescale 98 = .ok (.bipush (-3), 2) := by decide +kernel
theorem dX5_rescale_100 : decode cX5_rescale 100 = .ok (.ireturn, 1) := by decide +kernel
theorem dX5_rescale_101 : decode cX5_rescale 101 = .ok (.iinc 3 1, 3) := by decide +kernel
theorem dX5_rescale_104 : decode cX5_rescale 104 = .ok (.goto (-30), 3) := by decide +kernel
theorem dX5_rescale_107 : decode cX5_rescale 107 = .ok (.iconst 0, 1) := by decide +kernel
theorem dX5_rescale_108 : decode cX5_rescale 108 = .ok (.istore_n 3, 1) := by decide +kernel
theorem dX5_rescale_109 : decode cX5_rescale 109 = .ok (.iload_n 3, 1) := by decide +kernel
theorem dX5_rescale_110 : decode cX5_rescale 110 = .ok (.iload_n 1, 1) := by decide +kernel
theorem dX5_rescale_111 : decode cX5_rescale 111 = .ok (.if_icmp .ge 75, 3) := by decide +kernel
theorem dX5_rescale_114 : decode cX5_rescale 114 = .ok (.iload_n 2, 1) := by decide +kernel
theorem dX5_rescale_115 : decode cX5_rescale 115 = .ok (.iload_n 3, 1) := by decide +kernel
theorem dX5_rescale_116 : decode cX5_rescale 116 = .ok (.imul, 1) := by decide +kernel
theorem dX5_rescale_117 : decode cX5_rescale 117 = .ok (.iload_n 1, 1) := by decide +kernel
theorem dX5_rescale_118 : decode cX5_rescale 118 = .ok (.idiv, 1) := by decide +kernel
theorem dX5_rescale_119 : decode cX5_rescale 119 = .ok (.istore 4, 2) := by decide +kernel
theorem dX5_rescale_121 : decode cX5_rescale 121 = .ok (.aload_n 0, 1) := by decide +kernel
theorem dX5_rescale_122 : decode cX5_rescale 122 = .ok (.getfield 13, 3) := by decide +kernel
theorem dX5_rescale_125 : decode cX5_rescale 125 = .ok (.iload_n 3, 1) := by decide +kernel
theorem dX5_rescale_126 : decode cX5_rescale 126 = .ok (.iload_n 2, 1) := by decide +kernel
theorem dX5_rescale_127 : decode cX5_rescale 127 = .ok (.iload_n 3, 1) := by decide +kernel
theorem dX5_rescale_128 : decode cX5_rescale 128 = .ok (.iconst 1, 1) := by decide +kernel
theorem dX5_rescale_129 : decode cX5_rescale 129 = .ok (.iadd, 1) := by decide +kernel
theorem dX5_rescale_130 : decode cX5_rescale 130 = .ok (.imul, 1) := by decide +kernel
theorem dX5_rescale_131 : decode cX5_rescale 131 = .ok (.iload_n 1, 1) := by decide +kernel
theorem dX5_rescale_132 : decode cX5_rescale 132 = .ok (.idiv, 1) := by decide +kernel
theorem dX5_rescale_133 : decode cX5_rescale 133 = .ok (.iload 4, 2) := by decide +kernel
theorem dX5_rescale_135 : decode cX5_rescale 135 = .ok (.isub, 1) := by decide +kernel
theorem dX5_rescale_136 : decode cX5_rescale 136 = .ok (.iastore, 1) := by decide +kernel
theorem dX5_rescale_137 : decode cX5_rescale 137 = .ok (.iconst 0, 1) := by decide +kernel
theorem dX5_rescale_138 : decode cX5_rescale 138 = .ok (.istore 5, 2) := by decide +kernel
theorem dX5_rescale_140 : decode cX5_rescale 140 = .ok (.iload 5, 2) := by decide +kernel
theorem dX5_rescale_142 : decode cX5_rescale 142 = .ok (.aload_n 0, 1) := by decide +kernel
theorem dX5_rescale_143 : decode cX5_rescale 143 = .ok (.getfield 13, 3) := by decide +kernel
theorem dX5_rescale_146 : decode cX5_rescale 146 = .ok (.iload_n 3, 1) := by decide +kernel
theorem dX5_rescale_147 : decode cX5_rescale 147 = .ok (.iaload, 1) := by decide +kernel
theorem dX5_rescale_148 : decode cX5_rescale 148 = .ok (.if_icmp .ge 32, 3) := by decide +kernel
theorem dX5_rescale_151 : decode cX5_rescale 151 = .ok (.aload_n 0, 1) := by decide +kernel
theorem dX5_rescale_152 : decode cX5_rescale 152 = .ok (.getfield 17, 3) := by decide +kernel
theorem dX5_rescale_155 : decode cX5_rescale 155 = .ok (.sipush 300, 3) := by decide +kernel
theorem dX5_rescale_158 : decode cX5_rescale 158 = .ok (.iload_n 3, 1) := by decide +kernel
theorem dX5_rescale_159 : decode cX5_rescale 159 = .ok (.imul, 1) := by decide +kernel
theorem dX5_rescale_160 : decode cX5_rescale 160 = .ok (.iload 5, 2) := by decide +kernel
theorem dX5_rescale_162 : decode cX5_rescale 162 = .ok (.iadd, 1) := by decide +kernel
theorem dX5_rescale_163 : decode cX5_rescale 163 = .ok (.aload_n 0, 1) := by decide +kernel
theorem dX5_rescale_164 : decode cX5_rescale 164 = .ok (.getfield 20, 3) := by decide +kernel
theorem dX5_rescale_167 : decode cX5_rescale 167 = .ok (.iload 4, 2) := by decide +kernel
theorem dX5_rescale_169 : decode cX5_rescale 169 = .ok (.iload 5, 2) := by decide +kernel
theorem dX5_rescale_171 : decode cX5_rescale 171 = .ok (.iadd, 1) := by decide +kernel
theorem dX5_rescale_172 : decode cX5_rescale 172 = .ok (.iaload, 1) := by decide +kernel
theorem dX5_rescale_173 : decode cX5_rescale 173 = .ok (.iastore, 1) := by decide +kernel
theorem dX5_rescale_174 : decode cX5_rescale 174 = .ok (.iinc 5 1, 3) := by decide +kernel
theorem dX5_rescale_177 : decode cX5_rescale 177 = .ok (.goto (-37), 3) := by decide +kernel
theorem dX5_rescale_180 : decode cX5_rescale 180 = .ok (.iinc 3 1, 3) := by decide +kernel
theorem dX5_rescale_183 : decode cX5_rescale 183 = .ok (.goto (-74), 3) := by decide +kernel
theorem dX5_rescale_186 : decode cX5_rescale 186 = .ok (.aload_n 0, 1) := by decide +kernel
theorem dX5_rescale_187 : decode cX5_rescale 187 = .ok (.getfield 7, 3) := by decide +kernel
theorem dX5_rescale_190 : decode cX5_rescale 190 = .ok (.istore_n 3, 1) := by decide +kernel
theorem dX5_rescale_191 : decode cX5_rescale 191 = .ok (.aload_n 0, 1) := by decide +kernel
theorem dX5_rescale_192 : decode cX5_rescale 192 = .ok (.iload_n 1, 1) := by decide +kernel
theorem dX5_rescale_193 : decode cX5_rescale 193 = .ok (.invokevirtual 86, 3) := by decide +kernel
theorem dX5_rescale_196 : decode cX5_rescale 196 = .ok (.iload_n 3, 1) := by decide +kernel
theorem dX5_rescale_197 : decode cX5_rescale 197 = .ok (.ireturn, 1) := by decide +kernel
theorem dX5_become_0 : decode cX5_become 0 = .ok (.aload_n 0, 1) := by decide +kernel
theorem dX5_become_1 : decode cX5_become 1 = .ok (.iload_n 1, 1) := by decide +kernel
theorem dX5_become_2 : decode cX5_become 2 = .ok (.putfield 7, 3) := by decide +kernel
theorem dX5_become_5 : decode cX5_become 5 = .ok (.iload_n 1, 1) := by decide +kernel
theorem dX5_become_6 : decode cX5_become 6 = .ok (.istore_n 2, 1) := by decide +kernel
theorem dX5_become_7 : decode cX5_become 7 = .ok (.iload_n 2, 1) := by decide +kernel
theorem dX5_become_8 : decode cX5_become 8 = .ok (.iconst 4, 1) := by decide +kernel
theorem dX5_become_9 : decode cX5_become 9 = .ok (.if_icmp .ge 42, 3) := by decide +kernel
theorem dX5_become_12 : decode cX5_become 12 = .ok (.aload_n 0, 1) := by decide +kernel
theorem dX5_become_13 : decode cX5_become 13 = .ok (.getfield 13, 3) := by decide +kernel
theorem dX5_become_16 : decode cX5_become 16 = .ok (.iload_n 2, 1) := by decide +kernel
theorem dX5_become_17 : decode cX5_become 17 = .ok (.iconst 0, 1) := by decide +kernel
theorem dX5_become_18 : decode cX5_become 18 = .ok (.iastore, 1) := by decide +kernel
theorem dX5_become_19 : decode cX5_become 19 = .ok (.iconst 0, 1) := by decide +kernel
theorem dX5_become_20 : decode cX5_become 20 = .ok (.istore_n 3, 1) := by decide +kernel
theorem dX5_become_21 : decode cX5_become 21 = .ok (.iload_n 3, 1) := by decide +kernel
theorem dX5_become_22 : decode cX5_become 22 = .ok (.bipush 120, 2) := by decide +kernel
theorem dX5_become_24 : decode cX5_become 24 = .ok (.if_icmp .ge 21, 3) := by decide +kernel
theorem dX5_become_27 : decode cX5_become 27 = .ok (.aload_n 0, 1) := by decide +kernel
theorem dX5_become_28 : decode cX5_become 28 = .ok (.getfield 36, 3) := by decide +kernel
theorem dX5_become_31 : decode cX5_become 31 = .ok (.bipush 120, 2) := by decide +kernel
theorem dX5_become_33 : decode cX5_become 33 = .ok (.iload_n 2, 1) := by decide +kernel
theorem dX5_become_34 : decode cX5_become 34 = .ok (.imul, 1) := by decide +kernel
theorem dX5_become_35 : decode cX5_become 35 = .ok (.iload_n 3, 1) := by decide +kernel
theorem dX5_become_36 : decode cX5_become 36 = .ok (.iadd, 1) := by decide +kernel
theorem dX5_become_37 : decode cX5_become 37 = .ok (.iconst 0, 1) := by decide +kernel
theorem dX5_become_38 : decode cX5_become 38 = .ok (.bastore, 1) := by decide +kernel
theorem dX5_become_39 : decode cX5_become 39 = .ok (.iinc 3 1, 3) := by decide +kernel
theorem dX5_become_42 : decode cX5_become 42 = .ok (.goto (-21), 3) := by decide +kernel
theorem dX5_become_45 : decode cX5_become 45 = .ok (.iinc 2 1, 3) := by decide +kernel
theorem dX5_become_48 : decode cX5_become 48 = .ok (.goto (-41), 3) := by decide +kernel
theorem dX5_become_51 : decode cX5_become 51 = .ok (.return_, 1) := by decide +kernel
theorem dX5_isPart_0 : decode cX5_isPart 0 = .ok (.iload_n 1, 1) := by decide +kernel
theorem dX5_isPart_1 : decode cX5_isPart 1 = .ok (.iconst 0, 1) := by decide +kernel
theorem dX5_isPart_2 : decode cX5_isPart 2 = .ok (.bipush 119, 2) := by decide +kernel
theorem dX5_isPart_4 : decode cX5_isPart 4 = .ok (.invokestatic 72, 3) := by decide +kernel
theorem dX5_isPart_7 : decode cX5_isPart 7 = .ok (.ifCond .eq 16, 3) := by decide +kernel
theorem dX5_isPart_10 : decode cX5_isPart 10 = .ok (.aload_n 0, 1) := by decide +kernel
theorem dX5_isPart_11 : decode cX5_isPart 11 = .ok (.getfield 23, 3) := by decide +kernel
theorem dX5_isPart_14 : decode cX5_isPart 14 = .ok (.iload_n 1, 1) := by decide +kernel
theorem dX5_isPart_15 : decode cX5_isPart 15 = .ok (.iaload, 1) := by decide +kernel
theorem dX5_isPart_16 : decode cX5_isPart 16 = .ok (.ifCond .le 7, 3) := by decide +kernel
theorem dX5_isPart_19 : decode cX5_isPart 19 = .ok (.iconst 1, 1) := by decide +kernel
theorem dX5_isPart_20 : decode cX5_isPart 20 = .ok (.goto 4, 3) := by decide +kernel
theorem dX5_isPart_23 : decode cX5_isPart 23 = .ok (.iconst 0, 1) := by decide +kernel
theorem dX5_isPart_24 : decode cX5_isPart 24 = .ok (.ireturn, 1) := by decide +kernel
theorem dX5_isBroken_0 : decode cX5_isBroken 0 = .ok (.iconst 1, 1) := by decide +kernel
theorem dX5_isBroken_1 : decode cX5_isBroken 1 = .ok (.istore_n 2, 1) := by decide +kernel
theorem dX5_isBroken_2 : decode cX5_isBroken 2 = .ok (.iconst 0, 1) := by decide +kernel
theorem dX5_isBroken_3 : decode cX5_isBroken 3 = .ok (.istore_n 3, 1) := by decide +kernel
theorem dX5_isBroken_4 : decode cX5_isBroken 4 = .ok (.iload_n 3, 1) := by decide +kernel
theorem dX5_isBroken_5 : decode cX5_isBroken 5 = .ok (.aload_n 0, 1) := by decide +kernel
theorem dX5_isBroken_6 : decode cX5_isBroken 6 = .ok (.getfield 23, 3) := by decide +kernel
theorem dX5_isBroken_9 : decode cX5_isBroken 9 = .ok (.iload_n 1, 1) := by decide +kernel
theorem dX5_isBroken_10 : decode cX5_isBroken 10 = .ok (.iaload, 1) := by decide +kernel
theorem dX5_isBroken_11 : decode cX5_isBroken 11 = .ok (.if_icmp .ge 29, 3) := by decide +kernel
theorem dX5_isBroken_14 : decode cX5_isBroken 14 = .ok (.bipush 31, 2) := by decide +kernel
theorem dX5_isBroken_16 : decode cX5_isBroken 16 = .ok (.iload_n 2, 1) := by decide +kernel
theorem dX5_isBroken_17 : decode cX5_isBroken 17 = .ok (.imul, 1) := by decide +kernel
theorem dX5_isBroken_18 : decode cX5_isBroken 18 = .ok (.aload_n 0, 1) := by decide +kernel
theorem dX5_isBroken_19 : decode cX5_isBroken 19 = .ok (.getfield 33, 3) := by decide +kernel
theorem dX5_isBroken_22 : decode cX5_isBroken 22 = .ok (.bipush 32, 2) := by decide +kernel
theorem dX5_isBroken_24 : decode cX5_isBroken 24 = .ok (.iload_n 1, 1) := by decide +kernel
theorem dX5_isBroken_25 : decode cX5_isBroken 25 = .ok (.imul, 1) := by decide +kernel
theorem dX5_isBroken_26 : decode cX5_isBroken 26 = .ok (.iload_n 3, 1) := by decide +kernel
theorem dX5_isBroken_27 : decode cX5_isBroken 27 = .ok (.iadd, 1) := by decide +kernel
theorem dX5_isBroken_28 : decode cX5_isBroken 28 = .ok (.iaload, 1) := by decide +kernel
theorem dX5_isBroken_29 : decode cX5_isBroken 29 = .ok (.iadd, 1) := by decide +kernel
theorem dX5_isBroken_30 : decode cX5_isBroken 30 = .ok (.bipush 61, 2) := by decide +kernel
theorem dX5_isBroken_32 : decode cX5_isBroken 32 = .ok (.irem, 1) := by decide +kernel
theorem dX5_isBroken_33 : decode cX5_isBroken 33 = .ok (.istore_n 2, 1) := by decide +kernel
theorem dX5_isBroken_34 : decode cX5_isBroken 34 = .ok (.iinc 3 1, 3) := by decide +kernel
theorem dX5_isBroken_37 : decode cX5_isBroken 37 = .ok (.goto (-33), 3) := by decide +kernel
theorem dX5_isBroken_40 : decode cX5_isBroken 40 = .ok (.aload_n 0, 1) := by decide +kernel
theorem dX5_isBroken_41 : decode cX5_isBroken 41 = .ok (.getfield 29, 3) := by decide +kernel
theorem dX5_isBroken_44 : decode cX5_isBroken 44 = .ok (.iload_n 1, 1) := by decide +kernel
theorem dX5_isBroken_45 : decode cX5_isBroken 45 = .ok (.baload, 1) := by decide +kernel
theorem dX5_isBroken_46 : decode cX5_isBroken 46 = .ok (.ifCond .ne 13, 3) := by decide +kernel
theorem dX5_isBroken_49 : decode cX5_isBroken 49 = .ok (.iload_n 2, 1) := by decide +kernel
theorem dX5_isBroken_50 : decode cX5_isBroken 50 = .ok (.aload_n 0, 1) := by decide +kernel
theorem dX5_isBroken_51 : decode cX5_isBroken 51 = .ok (.getfield 26, 3) := by decide +kernel
theorem dX5_isBroken_54 : decode cX5_isBroken 54 = .ok (.iload_n 1, 1) := by decide +kernel
theorem dX5_isBroken_55 : decode cX5_isBroken 55 = .ok (.iaload, 1) := by decide +kernel
theorem dX5_isBroken_56 : decode cX5_isBroken 56 = .ok (.if_icmp .eq 7, 3) := by decide +kernel
theorem dX5_isBroken_59 : decode cX5_isBroken 59 = .ok (.iconst 1, 1) := by decide +kernel
theorem dX5_isBroken_60 : decode cX5_isBroken 60 = .ok (.goto 4, 3) := by decide +kernel
theorem dX5_isBroken_63 : decode cX5_isBroken 63 = .ok (.iconst 0, 1) := by decide +kernel
theorem dX5_isBroken_64 : decode cX5_isBroken 64 = .ok (.ireturn, 1) := by decide +kernel
theorem dX5_isGoodCopy_0 : decode cX5_isGoodCopy 0 = .ok (.iconst 1, 1) := by decide +kernel
theorem dX5_isGoodCopy_1 : decode cX5_isGoodCopy 1 = .ok (.istore_n 3, 1) := by decide +kernel
theorem dX5_isGoodCopy_2 : decode cX5_isGoodCopy 2 = .ok (.iconst 0, 1) := by decide +kernel
theorem dX5_isGoodCopy_3 : decode cX5_isGoodCopy 3 = .ok (.istore 4, 2) := by decide +kernel
theorem dX5_isGoodCopy_5 : decode cX5_isGoodCopy 5 = .ok (.iload 4, 2) := by decide +kernel
theorem dX5_isGoodCopy_7 : decode cX5_isGoodCopy 7 = .ok (.aload_n 0, 1) := by decide +kernel
theorem dX5_isGoodCopy_8 : decode cX5_isGoodCopy 8 = .ok (.getfield 23, 3) := by decide +kernel
theorem dX5_isGoodCopy_11 : decode cX5_isGoodCopy 11 = .ok (.iload_n 2, 1) := by decide +kernel
theorem dX5_isGoodCopy_12 : decode cX5_isGoodCopy 12 = .ok (.iaload, 1) := by decide +kernel
theorem dX5_isGoodCopy_13 : decode cX5_isGoodCopy 13 = .ok (.if_icmp .ge 35, 3) := by decide +kernel
theorem dX5_isGoodCopy_16 : decode cX5_isGoodCopy 16 = .ok (.bipush 31, 2) := by decide +kernel
theorem dX5_isGoodCopy_18 : decode cX5_isGoodCopy 18 = .ok (.iload_n 3, 1) := by decide +kernel
theorem dX5_isGoodCopy_19 : decode cX5_isGoodCopy 19 = .ok (.imul, 1) := by decide +kernel
theorem dX5_isGoodCopy_20 : decode cX5_isGoodCopy 20 = .ok (.aload_n 0, 1) := by decide +kernel
theorem dX5_isGoodCopy_21 : decode cX5_isGoodCopy 21 = .ok (.getfield 39, 3) := by decide +kernel
theorem dX5_isGoodCopy_24 : decode cX5_isGoodCopy 24 = .ok (.bipush 32, 2) := by decide +kernel
theorem dX5_isGoodCopy_26 : decode cX5_isGoodCopy 26 = .ok (.bipush 120, 2) := by decide +kernel
theorem dX5_isGoodCopy_28 : decode cX5_isGoodCopy 28 = .ok (.iload_n 1, 1) := by decide +kernel
theorem dX5_isGoodCopy_29 : decode cX5_isGoodCopy 29 = .ok (.imul, 1) := by decide +kernel
theorem dX5_isGoodCopy_30 : decode cX5_isGoodCopy 30 = .ok (.iload_n 2, 1) := by decide +kernel
theorem dX5_isGoodCopy_31 : decode cX5_isGoodCopy 31 = .ok (.iadd, 1) := by decide +kernel
theorem dX5_isGoodCopy_32 : decode cX5_isGoodCopy 32 = .ok (.imul, 1) := by decide +kernel
theorem dX5_isGoodCopy_33 : decode cX5_isGoodCopy 33 = .ok (.iload 4, 2) := by decide +kernel
theorem dX5_isGoodCopy_35 : decode cX5_isGoodCopy 35 = .ok (.iadd, 1) := by decide +kernel
theorem dX5_isGoodCopy_36 : decode cX5_isGoodCopy 36 = .ok (.iaload, 1) := by decide +kernel
theorem dX5_isGoodCopy_37 : decode cX5_isGoodCopy 37 = .ok (.iadd, 1) := by decide +kernel
theorem dX5_isGoodCopy_38 : decode cX5_isGoodCopy 38 = .ok (.bipush 61, 2) := by decide +kernel
theorem dX5_isGoodCopy_40 : decode cX5_isGoodCopy 40 = .ok (.irem, 1) := by decide +kernel
theorem dX5_isGoodCopy_41 : decode cX5_isGoodCopy 41 = .ok (.istore_n 3, 1) := by decide +kernel
theorem dX5_isGoodCopy_42 : decode cX5_isGoodCopy 42 = .ok (.iinc 4 1, 3) := by decide +kernel
theorem dX5_isGoodCopy_45 : decode cX5_isGoodCopy 45 = .ok (.goto (-40), 3) := by decide +kernel
theorem dX5_isGoodCopy_48 : decode cX5_isGoodCopy 48 = .ok (.aload_n 0, 1) := by decide +kernel
theorem dX5_isGoodCopy_49 : decode cX5_isGoodCopy 49 = .ok (.getfield 36, 3) := by decide +kernel
theorem dX5_isGoodCopy_52 : decode cX5_isGoodCopy 52 = .ok (.bipush 120, 2) := by decide +kernel
theorem dX5_isGoodCopy_54 : decode cX5_isGoodCopy 54 = .ok (.iload_n 1, 1) := by decide +kernel
theorem dX5_isGoodCopy_55 : decode cX5_isGoodCopy 55 = .ok (.imul, 1) := by decide +kernel
theorem dX5_isGoodCopy_56 : decode cX5_isGoodCopy 56 = .ok (.iload_n 2, 1) := by decide +kernel
theorem dX5_isGoodCopy_57 : decode cX5_isGoodCopy 57 = .ok (.iadd, 1) := by decide +kernel
theorem dX5_isGoodCopy_58 : decode cX5_isGoodCopy 58 = .ok (.baload, 1) := by decide +kernel
theorem dX5_isGoodCopy_59 : decode cX5_isGoodCopy 59 = .ok (.ifCond .eq 17, 3) := by decide +kernel
theorem dX5_isGoodCopy_62 : decode cX5_isGoodCopy 62 = .ok (.iload_n 3, 1) := by decide +kernel
theorem dX5_isGoodCopy_63 : decode cX5_isGoodCopy 63 = .ok (.aload_n 0, 1) := by decide +kernel
theorem dX5_isGoodCopy_64 : decode cX5_isGoodCopy 64 = .ok (.getfield 26, 3) := by decide +kernel
theorem dX5_isGoodCopy_67 : decode cX5_isGoodCopy 67 = .ok (.iload_n 2, 1) := by decide +kernel
theorem dX5_isGoodCopy_68 : decode cX5_isGoodCopy 68 = .ok (.iaload, 1) := by decide +kernel
theorem dX5_isGoodCopy_69 : decode cX5_isGoodCopy 69 = .ok (.if_icmp .ne 7, 3) := by decide +kernel
theorem dX5_isGoodCopy_72 : decode cX5_isGoodCopy 72 = .ok (.iconst 1, 1) := by decide +kernel
theorem dX5_isGoodCopy_73 : decode cX5_isGoodCopy 73 = .ok (.goto 4, 3) := by decide +kernel
theorem dX5_isGoodCopy_76 : decode cX5_isGoodCopy 76 = .ok (.iconst 0, 1) := by decide +kernel
theorem dX5_isGoodCopy_77 : decode cX5_isGoodCopy 77 = .ok (.ireturn, 1) := by decide +kernel
theorem dX5_isReadable_0 : decode cX5_isReadable 0 = .ok (.aload_n 0, 1) := by decide +kernel
theorem dX5_isReadable_1 : decode cX5_isReadable 1 = .ok (.iload_n 2, 1) := by decide +kernel
theorem dX5_isReadable_2 : decode cX5_isReadable 2 = .ok (.invokevirtual 90, 3) := by decide +kernel
theorem dX5_isReadable_5 : decode cX5_isReadable 5 = .ok (.ifCond .eq 24, 3) := by decide +kernel
theorem dX5_isReadable_8 : decode cX5_isReadable 8 = .ok (.aload_n 0, 1) := by decide +kernel
theorem dX5_isReadable_9 : decode cX5_isReadable 9 = .ok (.iload_n 1, 1) := by decide +kernel
theorem dX5_isReadable_10 : decode cX5_isReadable 10 = .ok (.iload_n 2, 1) := by decide +kernel
theorem dX5_isReadable_11 : decode cX5_isReadable 11 = .ok (.invokevirtual 93, 3) := by decide +kernel
theorem dX5_isReadable_14 : decode cX5_isReadable 14 = .ok (.ifCond .ne 11, 3) := by decide +kernel
theorem dX5_isReadable_17 : decode cX5_isReadable 17 = .ok (.aload_n 0, 1) := by decide +kernel
theorem dX5_isReadable_18 : decode cX5_isReadable 18 = .ok (.iload_n 2, 1) := by decide +kernel
theorem dX5_isReadable_19 : decode cX5_isReadable 19 = .ok (.invokevirtual 97, 3) := by decide +kernel
theorem dX5_isReadable_22 : decode cX5_isReadable 22 = .ok (.ifCond .ne 7, 3) := by decide +kernel
theorem dX5_isReadable_25 : decode cX5_isReadable 25 = .ok (.iconst 1, 1) := by decide +kernel
theorem dX5_isReadable_26 : decode cX5_isReadable 26 = .ok (.goto 4, 3) := by decide +kernel
theorem dX5_isReadable_29 : decode cX5_isReadable 29 = .ok (.iconst 0, 1) := by decide +kernel
theorem dX5_isReadable_30 : decode cX5_isReadable 30 = .ok (.ireturn, 1) := by decide +kernel
theorem dX5_hasPart_0 : decode cX5_hasPart 0 = .ok (.iconst 0, 1) := by decide +kernel
theorem dX5_hasPart_1 : decode cX5_hasPart 1 = .ok (.istore_n 3, 1) := by decide +kernel
theorem dX5_hasPart_2 : decode cX5_hasPart 2 = .ok (.iconst 0, 1) := by decide +kernel
theorem dX5_hasPart_3 : decode cX5_hasPart 3 = .ok (.istore 4, 2) := by decide +kernel
theorem dX5_hasPart_5 : decode cX5_hasPart 5 = .ok (.iload 4, 2) := by decide +kernel
theorem dX5_hasPart_7 : decode cX5_hasPart 7 = .ok (.aload_n 0, 1) := by decide +kernel
theorem dX5_hasPart_8 : decode cX5_hasPart 8 = .ok (.getfield 51, 3) := by decide +kernel
theorem dX5_hasPart_11 : decode cX5_hasPart 11 = .ok (.iload_n 1, 1) := by decide +kernel
theorem dX5_hasPart_12 : decode cX5_hasPart 12 = .ok (.iaload, 1) := by decide +kernel
theorem dX5_hasPart_13 : decode cX5_hasPart 13 = .ok (.if_icmp .ge 65, 3) := by decide +kernel
theorem dX5_hasPart_16 : decode cX5_hasPart 16 = .ok (.iconst 0, 1) := by decide +kernel
theorem dX5_hasPart_17 : decode cX5_hasPart 17 = .ok (.istore 5, 2) := by decide +kernel
theorem dX5_hasPart_19 : decode cX5_hasPart 19 = .ok (.iload 5, 2) := by decide +kernel
theorem dX5_hasPart_21 : decode cX5_hasPart 21 = .ok (.aload_n 0, 1) := by decide +kernel
theorem dX5_hasPart_22 : decode cX5_hasPart 22 = .ok (.getfield 54, 3) := by decide +kernel
theorem dX5_hasPart_25 : decode cX5_hasPart 25 = .ok (.iconst 4, 1) := by decide +kernel
theorem dX5_hasPart_26 : decode cX5_hasPart 26 = .ok (.iload_n 1, 1) := by decide +kernel
theorem dX5_hasPart_27 : decode cX5_hasPart 27 = .ok (.imul, 1) := by decide +kernel
theorem dX5_hasPart_28 : decode cX5_hasPart 28 = .ok (.iload 4, 2) := by decide +kernel
theorem dX5_hasPart_30 : decode cX5_hasPart 30 = .ok (.iadd, 1) := by decide +kernel
theorem dX5_hasPart_31 : decode cX5_hasPart 31 = .ok (.iaload, 1) := by decide +kernel
theorem dX5_hasPart_32 : decode cX5_hasPart 32 = .ok (.if_icmp .ge 40, 3) := by decide +kernel
theorem dX5_hasPart_35 : decode cX5_hasPart 35 = .ok (.iload_n 3, 1) := by decide +kernel
theorem dX5_hasPart_36 : decode cX5_hasPart 36 = .ok (.ifCond .ne 24, 3) := by decide +kernel
theorem dX5_hasPart_39 : decode cX5_hasPart 39 = .ok (.aload_n 0, 1) := by decide +kernel
theorem dX5_hasPart_40 : decode cX5_hasPart 40 = .ok (.getfield 57, 3) := by decide +kernel
theorem dX5_hasPart_43 : decode cX5_hasPart 43 = .ok (.bipush 80, 2) := by decide +kernel
theorem dX5_hasPart_45 : decode cX5_hasPart 45 = .ok (.iconst 4, 1) := by decide +kernel
theorem dX5_hasPart_46 : decode cX5_hasPart 46 = .ok (.iload_n 1, 1) := by decide +kernel
theorem dX5_hasPart_47 : decode cX5_hasPart 47 = .ok (.imul, 1) := by decide +kernel
theorem dX5_hasPart_48 : decode cX5_hasPart 48 = .ok (.iload 4, 2) := by decide +kernel
theorem dX5_hasPart_50 : decode cX5_hasPart 50 = .ok (.iadd, 1) := by decide +kernel
theorem dX5_hasPart_51 : decode cX5_hasPart 51 = .ok (.imul, 1) := by decide +kernel
theorem dX5_hasPart_52 : decode cX5_hasPart 52 = .ok (.iload 5, 2) := by decide +kernel
theorem dX5_hasPart_54 : decode cX5_hasPart 54 = .ok (.iadd, 1) := by decide +kernel
theorem dX5_hasPart_55 : decode cX5_hasPart 55 = .ok (.iaload, 1) := by decide +kernel
theorem dX5_hasPart_56 : decode cX5_hasPart 56 = .ok (.iload_n 2, 1) := by decide +kernel
theorem dX5_hasPart_57 : decode cX5_hasPart 57 = .ok (.if_icmp .ne 7, 3) := by decide +kernel
theorem dX5_hasPart_60 : decode cX5_hasPart 60 = .ok (.iconst 1, 1) := by decide +kernel
theorem dX5_hasPart_61 : decode cX5_hasPart 61 = .ok (.goto 4, 3) := by decide +kernel
theorem dX5_hasPart_64 : decode cX5_hasPart 64 = .ok (.iconst 0, 1) := by decide +kernel
theorem dX5_hasPart_65 : decode cX5_hasPart 65 = .ok (.istore_n 3, 1) := by decide +kernel
theorem dX5_hasPart_66 : decode cX5_hasPart 66 = .ok (.iinc 5 1, 3) := by decide +kernel
theorem dX5_hasPart_69 : decode cX5_hasPart 69 = .ok (.goto (-50), 3) := by decide +kernel
theorem dX5_hasPart_72 : decode cX5_hasPart 72 = .ok (.iinc 4 1, 3) := by decide +kernel
theorem dX5_hasPart_75 : decode cX5_hasPart 75 = .ok (.goto (-70), 3) := by decide +kernel
theorem dX5_hasPart_78 : decode cX5_hasPart 78 = .ok (.iload_n 3, 1) := by decide +kernel
theorem dX5_hasPart_79 : decode cX5_hasPart 79 = .ok (.ireturn, 1) := by decide +kernel
theorem dX5_partTold_0 : decode cX5_partTold 0 = .ok (.aload_n 0, 1) := by decide +kernel
theorem dX5_partTold_1 : decode cX5_partTold 1 = .ok (.iload_n 1, 1) := by decide +kernel
theorem dX5_partTold_2 : decode cX5_partTold 2 = .ok (.invokevirtual 90, 3) := by decide +kernel
theorem dX5_partTold_5 : decode cX5_partTold 5 = .ok (.ifCond .eq 12, 3) := by decide +kernel
theorem dX5_partTold_8 : decode cX5_partTold 8 = .ok (.iload_n 2, 1) := by decide +kernel
theorem dX5_partTold_9 : decode cX5_partTold 9 = .ok (.iconst 0, 1) := by decide +kernel
theorem dX5_partTold_10 : decode cX5_partTold 10 = .ok (.iconst 4, 1) := by decide +kernel
theorem dX5_partTold_11 : decode cX5_partTold 11 = .ok (.invokestatic 72, 3) := by decide +kernel
theorem dX5_partTold_14 : decode cX5_partTold 14 = .ok (.ifCond .ne 6, 3) := by decide +kernel
theorem dX5_partTold_17 : decode cX5_partTold 17 = .ok (.bipush (-2), 2) := by decide +kernel
theorem dX5_partTold_19 : decode cX5_partTold 19 = .ok (.ireturn, 1) := by decide +kernel
theorem dX5_partTold_20 : decode cX5_partTold 20 = .ok (.iconst 0, 1) := by decide +kernel
theorem dX5_partTold_21 : decode cX5_partTold 21 = .ok (.istore_n 3, 1) := by decide +kernel
theorem dX5_partTold_22 : decode cX5_partTold 22 = .ok (.iload_n 2, 1) := by decide +kernel
theorem dX5_partTold_23 : decode cX5_partTold 23 = .ok (.iconst 2, 1) := by decide +kernel
theorem dX5_partTold_24 : decode cX5_partTold 24 = .ok (.if_icmp .ne 61, 3) := by decide +kernel
theorem dX5_partTold_27 : decode cX5_partTold 27 = .ok (.iconst 0, 1) := by decide +kernel
theorem dX5_partTold_28 : decode cX5_partTold 28 = .ok (.istore 4, 2) := by decide +kernel
theorem dX5_partTold_30 : decode cX5_partTold 30 = .ok (.iload 4, 2) := by decide +kernel
theorem dX5_partTold_32 : decode cX5_partTold 32 = .ok (.bipush 12, 2) := by decide +kernel
theorem dX5_partTold_34 : decode cX5_partTold 34 = .ok (.if_icmp .ge 48, 3) := by decide +kernel
theorem dX5_partTold_37 : decode cX5_partTold 37 = .ok (.iload_n 3, 1) := by decide +kernel
theorem dX5_partTold_38 : decode cX5_partTold 38 = .ok (.aload_n 0, 1) := by decide +kernel
theorem dX5_partTold_39 : decode cX5_partTold 39 = .ok (.getfield 42, 3) := by decide +kernel
theorem dX5_partTold_42 : decode cX5_partTold 42 = .ok (.iload 4, 2) := by decide +kernel
theorem dX5_partTold_44 : decode cX5_partTold 44 = .ok (.iaload, 1) := by decide +kernel
theorem dX5_partTold_45 : decode cX5_partTold 45 = .ok (.iconst (-1), 1) := by decide +kernel
theorem dX5_partTold_46 : decode cX5_partTold 46 = .ok (.if_icmp .eq 27, 3) := by decide +kernel
theorem dX5_partTold_49 : decode cX5_partTold 49 = .ok (.aload_n 0, 1) := by decide +kernel
theorem dX5_partTold_50 : decode cX5_partTold 50 = .ok (.getfield 45, 3) := by decide +kernel
theorem dX5_partTold_53 : decode cX5_partTold 53 = .ok (.iload 4, 2) := by decide +kernel
theorem dX5_partTold_55 : decode cX5_partTold 55 = .ok (.baload, 1) := by decide +kernel
theorem dX5_partTold_56 : decode cX5_partTold 56 = .ok (.ifCond .eq 17, 3) := by decide +kernel
theorem dX5_partTold_59 : decode cX5_partTold 59 = .ok (.aload_n 0, 1) := by decide +kernel
theorem dX5_partTold_60 : decode cX5_partTold 60 = .ok (.iload 4, 2) := by decide +kernel
theorem dX5_partTold_62 : decode cX5_partTold 62 = .ok (.iload_n 1, 1) := by decide +kernel
theorem dX5_partTold_63 : decode cX5_partTold 63 = .ok (.invokevirtual 100, 3) := by decide +kernel
theorem dX5_partTold_66 : decode cX5_partTold 66 = .ok (.ifCond .eq 7, 3) := by decide +kernel
theorem dX5_partTold_69 : decode cX5_partTold 69 = .ok (.iconst 1, 1) := by decide +kernel
theorem dX5_partTold_70 : decode cX5_partTold 70 = .ok (.goto 4, 3) := by decide +kernel
theorem dX5_partTold_73 : decode cX5_partTold 73 = .ok (.iconst 0, 1) := by decide +kernel
theorem dX5_partTold_74 : decode cX5_partTold 74 = .ok (.iadd, 1) := by decide +kernel
theorem dX5_partTold_75 : decode cX5_partTold 75 = .ok (.istore_n 3, 1) := by decide +kernel
theorem dX5_partTold_76 : decode cX5_partTold 76 = .ok (.iinc 4 1, 3) := by decide +kernel
theorem dX5_partTold_79 : decode cX5_partTold 79 = .ok (.goto (-49), 3) := by decide +kernel
theorem dX5_partTold_82 : decode cX5_partTold 82 = .ok (.goto 46, 3) := by decide +kernel
theorem dX5_partTold_85 : decode cX5_partTold 85 = .ok (.iload_n 2, 1) := by decide +kernel
theorem dX5_partTold_86 : decode cX5_partTold 86 = .ok (.iconst 4, 1) := by decide +kernel
theorem dX5_partTold_87 : decode cX5_partTold 87 = .ok (.if_icmp .ne 41, 3) := by decide +kernel
theorem dX5_partTold_90 : decode cX5_partTold 90 = .ok (.iconst 0, 1) := by decide +kernel
theorem dX5_partTold_91 : decode cX5_partTold 91 = .ok (.istore 4, 2) := by decide +kernel
theorem dX5_partTold_93 : decode cX5_partTold 93 = .ok (.iload 4, 2) := by decide +kernel
theorem dX5_partTold_95 : decode cX5_partTold 95 = .ok (.iconst 4, 1) := by decide +kernel
theorem dX5_partTold_96 : decode cX5_partTold 96 = .ok (.if_icmp .ge 32, 3) := by decide +kernel
theorem dX5_partTold_99 : decode cX5_partTold 99 = .ok (.iload_n 3, 1) := by decide +kernel
theorem dX5_partTold_100 : decode cX5_partTold 100 = .ok (.aload_n 0, 1) := by decide +kernel
theorem dX5_partTold_101 : decode cX5_partTold 101 = .ok (.getfield 36, 3) := by decide +kernel
theorem dX5_partTold_104 : decode cX5_partTold 104 = .ok (.bipush 120, 2) := by decide +kernel
theorem dX5_partTold_106 : decode cX5_partTold 106 = .ok (.iload 4, 2) := by decide +kernel
theorem dX5_partTold_108 : decode cX5_partTold 108 = .ok (.imul, 1) := by decide +kernel
theorem dX5_partTold_109 : decode cX5_partTold 109 = .ok (.iload_n 1, 1) := by decide +kernel
theorem dX5_partTold_110 : decode cX5_partTold 110 = .ok (.iadd, 1) := by decide +kernel
theorem dX5_partTold_111 : decode cX5_partTold 111 = .ok (.baload, 1) := by decide +kernel
theorem dX5_partTold_112 : decode cX5_partTold 112 = .ok (.ifCond .eq 7, 3) := by decide +kernel
theorem dX5_partTold_115 : decode cX5_partTold 115 = .ok (.iconst 1, 1) := by decide +kernel
theorem dX5_partTold_116 : decode cX5_partTold 116 = .ok (.goto 4, 3) := by decide +kernel
theorem dX5_partTold_119 : decode cX5_partTold 119 = .ok (.iconst 0, 1) := by decide +kernel
theorem dX5_partTold_120 : decode cX5_partTold 120 = .ok (.iadd, 1) := by decide +kernel
theorem dX5_partTold_121 : decode cX5_partTold 121 = .ok (.istore_n 3, 1) := by decide +kernel
theorem dX5_partTold_122 : decode cX5_partTold 122 = .ok (.iinc 4 1, 3) := by decide +kernel
theorem dX5_partTold_125 : decode cX5_partTold 125 = .ok (.goto (-32), 3) := by decide +kernel
theorem dX5_partTold_128 : decode cX5_partTold 128 = .ok (.iload_n 2, 1) := by decide +kernel
theorem dX5_partTold_129 : decode cX5_partTold 129 = .ok (.ifCond .ne 12, 3) := by decide +kernel
theorem dX5_partTold_132 : decode cX5_partTold 132 = .ok (.aload_n 0, 1) := by decide +kernel
theorem dX5_partTold_133 : decode cX5_partTold 133 = .ok (.getfield 23, 3) := by decide +kernel
theorem dX5_partTold_136 : decode cX5_partTold 136 = .ok (.iload_n 1, 1) := by decide +kernel
theorem dX5_partTold_137 : decode cX5_partTold 137 = .ok (.iaload, 1) := by decide +kernel
theorem dX5_partTold_138 : decode cX5_partTold 138 = .ok (.goto 39, 3) := by decide +kernel
theorem dX5_partTold_141 : decode cX5_partTold 141 = .ok (.iload_n 2, 1) := by decide +kernel
theorem dX5_partTold_142 : decode cX5_partTold 142 = .ok (.iconst 1, 1) := by decide +kernel
theorem dX5_partTold_143 : decode cX5_partTold 143 = .ok (.if_icmp .ne 12, 3) := by decide +kernel
theorem dX5_partTold_146 : decode cX5_partTold 146 = .ok (.aload_n 0, 1) := by decide +kernel
theorem dX5_partTold_147 : decode cX5_partTold 147 = .ok (.getfield 26, 3) := by decide +kernel
theorem dX5_partTold_150 : decode cX5_partTold 150 = .ok (.iload_n 1, 1) := by decide +kernel
theorem dX5_partTold_151 : decode cX5_partTold 151 = .ok (.iaload, 1) := by decide +kernel
theorem dX5_partTold_152 : decode cX5_partTold 152 = .ok (.goto 25, 3) := by decide +kernel
theorem dX5_partTold_155 : decode cX5_partTold 155 = .ok (.iload_n 2, 1) := by decide +kernel
theorem dX5_partTold_156 : decode cX5_partTold 156 = .ok (.iconst 3, 1) := by decide +kernel
theorem dX5_partTold_157 : decode cX5_partTold 157 = .ok (.if_icmp .ne 19, 3) := by decide +kernel
theorem dX5_partTold_160 : decode cX5_partTold 160 = .ok (.aload_n 0, 1) := by decide +kernel
theorem dX5_partTold_161 : decode cX5_partTold 161 = .ok (.iload_n 1, 1) := by decide +kernel
theorem dX5_partTold_162 : decode cX5_partTold 162 = .ok (.invokevirtual 97, 3) := by decide +kernel
theorem dX5_partTold_165 : decode cX5_partTold 165 = .ok (.ifCond .eq 7, 3) := by decide +kernel
theorem dX5_partTold_168 : decode cX5_partTold 168 = .ok (.iconst 1, 1) := by decide +kernel
theorem dX5_partTold_169 : decode cX5_partTold 169 = .ok (.goto 8, 3) := by decide +kernel
theorem dX5_partTold_172 : decode cX5_partTold 172 = .ok (.iconst 0, 1) := by decide +kernel
theorem dX5_partTold_173 : decode cX5_partTold 173 = .ok (.goto 4, 3) := by decide +kernel
theorem dX5_partTold_176 : decode cX5_partTold 176 = .ok (.iload_n 3, 1) := by decide +kernel
theorem dX5_partTold_177 : decode cX5_partTold 177 = .ok (.ireturn, 1) := by decide +kernel
theorem dX5_isByte_0 : decode cX5_isByte 0 = .ok (.aload_n 0, 1) := by decide +kernel
theorem dX5_isByte_1 : decode cX5_isByte 1 = .ok (.iload_n 1, 1) := by decide +kernel
theorem dX5_isByte_2 : decode cX5_isByte 2 = .ok (.invokevirtual 90, 3) := by decide +kernel
theorem dX5_isByte_5 : decode cX5_isByte 5 = .ok (.ifCond .eq 62, 3) := by decide +kernel
theorem dX5_isByte_8 : decode cX5_isByte 8 = .ok (.iload_n 3, 1) := by decide +kernel
theorem dX5_isByte_9 : decode cX5_isByte 9 = .ok (.iconst 0, 1) := by decide +kernel
theorem dX5_isByte_10 : decode cX5_isByte 10 = .ok (.aload_n 0, 1) := by decide +kernel
theorem dX5_isByte_11 : decode cX5_isByte 11 = .ok (.getfield 23, 3) := by decide +kernel
theorem dX5_isByte_14 : decode cX5_isByte 14 = .ok (.iload_n 1, 1) := by decide +kernel
theorem dX5_isByte_15 : decode cX5_isByte 15 = .ok (.iaload, 1) := by decide +kernel
theorem dX5_isByte_16 : decode cX5_isByte 16 = .ok (.iconst 1, 1) := by decide +kernel
theorem dX5_isByte_17 : decode cX5_isByte 17 = .ok (.isub, 1) := by decide +kernel
theorem dX5_isByte_18 : decode cX5_isByte 18 = .ok (.invokestatic 72, 3) := by decide +kernel
theorem dX5_isByte_21 : decode cX5_isByte 21 = .ok (.ifCond .eq 46, 3) := by decide +kernel
theorem dX5_isByte_24 : decode cX5_isByte 24 = .ok (.iload_n 2, 1) := by decide +kernel
theorem dX5_isByte_25 : decode cX5_isByte 25 = .ok (.iconst (-1), 1) := by decide +kernel
theorem dX5_isByte_26 : decode cX5_isByte 26 = .ok (.if_icmp .ne 15, 3) := by decide +kernel
theorem dX5_isByte_29 : decode cX5_isByte 29 = .ok (.aload_n 0, 1) := by decide +kernel
theorem dX5_isByte_30 : decode cX5_isByte 30 = .ok (.getfield 29, 3) := by decide +kernel
theorem dX5_isByte_33 : decode cX5_isByte 33 = .ok (.iload_n 1, 1) := by decide +kernel
theorem dX5_isByte_34 : decode cX5_isByte 34 = .ok (.baload, 1) := by decide +kernel
theorem dX5_isByte_35 : decode cX5_isByte 35 = .ok (.ifCond .ne 32, 3) := by decide +kernel
theorem dX5_isByte_38 : decode cX5_isByte 38 = .ok (.goto 25, 3) := by decide +kernel
theorem dX5_isByte_41 : decode cX5_isByte 41 = .ok (.aload_n 0, 1) := by decide +kernel
theorem dX5_isByte_42 : decode cX5_isByte 42 = .ok (.iload_n 2, 1) := by decide +kernel
theorem dX5_isByte_43 : decode cX5_isByte 43 = .ok (.invokevirtual 76, 3) := by decide +kernel
theorem dX5_isByte_46 : decode cX5_isByte 46 = .ok (.ifCond .eq 21, 3) := by decide +kernel
theorem dX5_isByte_49 : decode cX5_isByte 49 = .ok (.aload_n 0, 1) := by decide +kernel
theorem dX5_isByte_50 : decode cX5_isByte 50 = .ok (.getfield 36, 3) := by decide +kernel
theorem dX5_isByte_53 : decode cX5_isByte 53 = .ok (.bipush 120, 2) := by decide +kernel
theorem dX5_isByte_55 : decode cX5_isByte 55 = .ok (.iload_n 2, 1) := by decide +kernel
theorem dX5_isByte_56 : decode cX5_isByte 56 = .ok (.imul, 1) := by decide +kernel
theorem dX5_isByte_57 : decode cX5_isByte 57 = .ok (.iload_n 1, 1) := by decide +kernel
theorem dX5_isByte_58 : decode cX5_isByte 58 = .ok (.iadd, 1) := by decide +kernel
theorem dX5_isByte_59 : decode cX5_isByte 59 = .ok (.baload, 1) := by decide +kernel
theorem dX5_isByte_60 : decode cX5_isByte 60 = .ok (.ifCond .eq 7, 3) := by decide +kernel
theorem dX5_isByte_63 : decode cX5_isByte 63 = .ok (.iconst 1, 1) := by decide +kernel
theorem dX5_isByte_64 : decode cX5_isByte 64 = .ok (.goto 4, 3) := by decide +kernel
theorem dX5_isByte_67 : decode cX5_isByte 67 = .ok (.iconst 0, 1) := by decide +kernel
theorem dX5_isByte_68 : decode cX5_isByte 68 = .ok (.ireturn, 1) := by decide +kernel
theorem dX5_partByte_0 : decode cX5_partByte 0 = .ok (.aload_n 0, 1) := by decide +kernel
theorem dX5_partByte_1 : decode cX5_partByte 1 = .ok (.iload_n 1, 1) := by decide +kernel
theorem dX5_partByte_2 : decode cX5_partByte 2 = .ok (.iload_n 2, 1) := by decide +kernel
theorem dX5_partByte_3 : decode cX5_partByte 3 = .ok (.iload_n 3, 1) := by decide +kernel
theorem dX5_partByte_4 : decode cX5_partByte 4 = .ok (.invokevirtual 103, 3) := by decide +kernel
theorem dX5_partByte_7 : decode cX5_partByte 7 = .ok (.ifCond .ne 6, 3) := by decide +kernel
theorem dX5_partByte_10 : decode cX5_partByte 10 = .ok (.bipush (-2), 2) := by decide +kernel
theorem dX5_partByte_12 : decode cX5_partByte 12 = .ok (.ireturn, 1) := by decide +kernel
theorem dX5_partByte_13 : decode cX5_partByte 13 = .ok (.iload_n 2, 1) := by decide +kernel
theorem dX5_partByte_14 : decode cX5_partByte 14 = .ok (.iconst (-1), 1) := by decide +kernel
theorem dX5_partByte_15 : decode cX5_partByte 15 = .ok (.if_icmp .ne 17, 3) := by decide +kernel
theorem dX5_partByte_18 : decode cX5_partByte 18 = .ok (.aload_n 0, 1) := by decide +kernel
theorem dX5_partByte_19 : decode cX5_partByte 19 = .ok (.getfield 33, 3) := by decide +kernel
theorem dX5_partByte_22 : decode cX5_partByte 22 = .ok (.bipush 32, 2) := by decide +kernel
theorem dX5_partByte_24 : decode cX5_partByte 24 = .ok (.iload_n 1, 1) := by decide +kernel
theorem dX5_partByte_25 : decode cX5_partByte 25 = .ok (.imul, 1) := by decide +kernel
theorem dX5_partByte_26 : decode cX5_partByte 26 = .ok (.iload_n 3, 1) := by decide +kernel
theorem dX5_partByte_27 : decode cX5_partByte 27 = .ok (.iadd, 1) := by decide +kernel
theorem dX5_partByte_28 : decode cX5_partByte 28 = .ok (.iaload, 1) := by decide +kernel
theorem dX5_partByte_29 : decode cX5_partByte 29 = .ok (.goto 19, 3) := by decide +kernel
theorem dX5_partByte_32 : decode cX5_partByte 32 = .ok (.aload_n 0, 1) := by decide +kernel
theorem dX5_partByte_33 : decode cX5_partByte 33 = .ok (.getfield 39, 3) := by decide +kernel
theorem dX5_partByte_36 : decode cX5_partByte 36 = .ok (.bipush 32, 2) := by decide +kernel
theorem dX5_partByte_38 : decode cX5_partByte 38 = .ok (.bipush 120, 2) := by decide +kernel
theorem dX5_partByte_40 : decode cX5_partByte 40 = .ok (.iload_n 2, 1) := by decide +kernel
theorem dX5_partByte_41 : decode cX5_partByte 41 = .ok (.imul, 1) := by decide +kernel
theorem dX5_partByte_42 : decode cX5_partByte 42 = .ok (.iload_n 1, 1) := by decide +kernel
theorem dX5_partByte_43 : decode cX5_partByte 43 = .ok (.iadd, 1) := by decide +kernel
theorem dX5_partByte_44 : decode cX5_partByte 44 = .ok (.imul, 1) := by decide +kernel
theorem dX5_partByte_45 : decode cX5_partByte 45 = .ok (.iload_n 3, 1) := by decide +kernel
theorem dX5_partByte_46 : decode cX5_partByte 46 = .ok (.iadd, 1) := by decide +kernel
theorem dX5_partByte_47 : decode cX5_partByte 47 = .ok (.iaload, 1) := by decide +kernel
theorem dX5_partByte_48 : decode cX5_partByte 48 = .ok (.ireturn, 1) := by decide +kernel
theorem dX5_alter_0 : decode cX5_alter 0 = .ok (.aload_n 0, 1) := by decide +kernel
theorem dX5_alter_1 : decode cX5_alter 1 = .ok (.iload_n 1, 1) := by decide +kernel
theorem dX5_alter_2 : decode cX5_alter 2 = .ok (.iload_n 2, 1) := by decide +kernel
theorem dX5_alter_3 : decode cX5_alter 3 = .ok (.iload_n 3, 1) := by decide +kernel
theorem dX5_alter_4 : decode cX5_alter 4 = .ok (.invokevirtual 103, 3) := by decide +kernel
theorem dX5_alter_7 : decode cX5_alter 7 = .ok (.ifCond .eq 15, 3) := by decide +kernel
theorem dX5_alter_10 : decode cX5_alter 10 = .ok (.iload 4, 2) := by decide +kernel
theorem dX5_alter_12 : decode cX5_alter 12 = .ok (.iconst 0, 1) := by decide +kernel
theorem dX5_alter_13 : decode cX5_alter 13 = .ok (.sipush 255, 3) := by decide +kernel
theorem dX5_alter_16 : decode cX5_alter 16 = .ok (.invokestatic 72, 3) := by decide +kernel
theorem dX5_alter_19 : decode cX5_alter 19 = .ok (.ifCond .ne 6, 3) := by decide +kernel
theorem dX5_alter_22 : decode cX5_alter 22 = .ok (.bipush (-2), 2) := by decide +kernel
theorem dX5_alter_24 : decode cX5_alter 24 = .ok (.ireturn, 1) := by decide +kernel
theorem dX5_alter_25 : decode cX5_alter 25 = .ok (.iload_n 2, 1) := by decide +kernel
theorem dX5_alter_26 : decode cX5_alter 26 = .ok (.iconst (-1), 1) := by decide +kernel
theorem dX5_alter_27 : decode cX5_alter 27 = .ok (.if_icmp .ne 22, 3) := by decide +kernel
theorem dX5_alter_30 : decode cX5_alter 30 = .ok (.aload_n 0, 1) := by decide +kernel
theorem dX5_alter_31 : decode cX5_alter 31 = .ok (.getfield 33, 3) := by decide +kernel
theorem dX5_alter_34 : decode cX5_alter 34 = .ok (.bipush 32, 2) := by decide +kernel
theorem dX5_alter_36 : decode cX5_alter 36 = .ok (.iload_n 1, 1) := by decide +kernel
theorem dX5_alter_37 : decode cX5_alter 37 = .ok (.imul, 1) := by decide +kernel
theorem dX5_alter_38 : decode cX5_alter 38 = .ok (.iload_n 3, 1) := by decide +kernel
theorem dX5_alter_39 : decode cX5_alter 39 = .ok (.iadd, 1) := by decide +kernel
theorem dX5_alter_40 : decode cX5_alter 40 = .ok (.dup2, 1) := by decide +kernel
theorem dX5_alter_41 : decode cX5_alter 41 = .ok (.iaload, 1) := by decide +kernel
theorem dX5_alter_42 : decode cX5_alter 42 = .ok (.iload 4, 2) := by decide +kernel
theorem dX5_alter_44 : decode cX5_alter 44 = .ok (.ixor, 1) := by decide +kernel
theorem dX5_alter_45 : decode cX5_alter 45 = .ok (.iastore, 1) := by decide +kernel
theorem dX5_alter_46 : decode cX5_alter 46 = .ok (.goto 24, 3) := by decide +kernel
theorem dX5_alter_49 : decode cX5_alter 49 = .ok (.aload_n 0, 1) := by decide +kernel
theorem dX5_alter_50 : decode cX5_alter 50 = .ok (.getfield 39, 3) := by decide +kernel
theorem dX5_alter_53 : decode cX5_alter 53 = .ok (.bipush 32, 2) := by decide +kernel
theorem dX5_alter_55 : decode cX5_alter 55 = .ok (.bipush 120, 2) := by decide +kernel
theorem dX5_alter_57 : decode cX5_alter 57 = .ok (.iload_n 2, 1) := by decide +kernel
theorem dX5_alter_58 : decode cX5_alter 58 = .ok (.imul, 1) := by decide +kernel
theorem dX5_alter_59 : decode cX5_alter 59 = .ok (.iload_n 1, 1) := by decide +kernel
theorem dX5_alter_60 : decode cX5_alter 60 = .ok (.iadd, 1) := by decide +kernel
theorem dX5_alter_61 : decode cX5_alter 61 = .ok (.imul, 1) := by decide +kernel
theorem dX5_alter_62 : decode cX5_alter 62 = .ok (.iload_n 3, 1) := by decide +kernel
theorem dX5_alter_63 : decode cX5_alter 63 = .ok (.iadd, 1) := by decide +kernel
theorem dX5_alter_64 : decode cX5_alter 64 = .ok (.dup2, 1) := by decide +kernel
theorem dX5_alter_65 : decode cX5_alter 65 = .ok (.iaload, 1) := by decide +kernel
theorem dX5_alter_66 : decode cX5_alter 66 = .ok (.iload 4, 2) := by decide +kernel
theorem dX5_alter_68 : decode cX5_alter 68 = .ok (.ixor, 1) := by decide +kernel
theorem dX5_alter_69 : decode cX5_alter 69 = .ok (.iastore, 1) := by decide +kernel
theorem dX5_alter_70 : decode cX5_alter 70 = .ok (.aload_n 0, 1) := by decide +kernel
theorem dX5_alter_71 : decode cX5_alter 71 = .ok (.iload_n 1, 1) := by decide +kernel
theorem dX5_alter_72 : decode cX5_alter 72 = .ok (.iload_n 2, 1) := by decide +kernel
theorem dX5_alter_73 : decode cX5_alter 73 = .ok (.iload_n 3, 1) := by decide +kernel
theorem dX5_alter_74 : decode cX5_alter 74 = .ok (.invokevirtual 106, 3) := by decide +kernel
theorem dX5_alter_77 : decode cX5_alter 77 = .ok (.ireturn, 1) := by decide +kernel
theorem dX5_lose_0 : decode cX5_lose 0 = .ok (.aload_n 0, 1) := by decide +kernel
theorem dX5_lose_1 : decode cX5_lose 1 = .ok (.iload_n 1, 1) := by decide +kernel
theorem dX5_lose_2 : decode cX5_lose 2 = .ok (.iload_n 2, 1) := by decide +kernel
theorem dX5_lose_3 : decode cX5_lose 3 = .ok (.iconst 0, 1) := by decide +kernel
theorem dX5_lose_4 : decode cX5_lose 4 = .ok (.invokevirtual 103, 3) := by decide +kernel
theorem dX5_lose_7 : decode cX5_lose 7 = .ok (.ifCond .ne 6, 3) := by decide +kernel
theorem dX5_lose_10 : decode cX5_lose 10 = .ok (.bipush (-2), 2) := by decide +kernel
theorem dX5_lose_12 : decode cX5_lose 12 = .ok (.ireturn, 1) := by decide +kernel
theorem dX5_lose_13 : decode cX5_lose 13 = .ok (.iload_n 2, 1) := by decide +kernel
theorem dX5_lose_14 : decode cX5_lose 14 = .ok (.iconst (-1), 1) := by decide +kernel
theorem dX5_lose_15 : decode cX5_lose 15 = .ok (.if_icmp .ne 13, 3) := by decide +kernel
theorem dX5_lose_18 : decode cX5_lose 18 = .ok (.aload_n 0, 1) := by decide +kernel
theorem dX5_lose_19 : decode cX5_lose 19 = .ok (.getfield 29, 3) := by decide +kernel
theorem dX5_lose_22 : decode cX5_lose 22 = .ok (.iload_n 1, 1) := by decide +kernel
theorem dX5_lose_23 : decode cX5_lose 23 = .ok (.iconst 1, 1) := by decide +kernel
theorem dX5_lose_24 : decode cX5_lose 24 = .ok (.bastore, 1) := by decide +kernel
theorem dX5_lose_25 : decode cX5_lose 25 = .ok (.goto 15, 3) := by decide +kernel
theorem dX5_lose_28 : decode cX5_lose 28 = .ok (.aload_n 0, 1) := by decide +kernel
theorem dX5_lose_29 : decode cX5_lose 29 = .ok (.getfield 36, 3) := by decide +kernel
theorem dX5_lose_32 : decode cX5_lose 32 = .ok (.bipush 120, 2) := by decide +kernel
theorem dX5_lose_34 : decode cX5_lose 34 = .ok (.iload_n 2, 1) := by decide +kernel
theorem dX5_lose_35 : decode cX5_lose 35 = .ok (.imul, 1) := by decide +kernel
theorem dX5_lose_36 : decode cX5_lose 36 = .ok (.iload_n 1, 1) := by decide +kernel
theorem dX5_lose_37 : decode cX5_lose 37 = .ok (.iadd, 1) := by decide +kernel
theorem dX5_lose_38 : decode cX5_lose 38 = .ok (.iconst 0, 1) := by decide +kernel
theorem dX5_lose_39 : decode cX5_lose 39 = .ok (.bastore, 1) := by decide +kernel
theorem dX5_lose_40 : decode cX5_lose 40 = .ok (.iconst 1, 1) := by decide +kernel
theorem dX5_lose_41 : decode cX5_lose 41 = .ok (.ireturn, 1) := by decide +kernel
theorem dX5_slotOf_0 : decode cX5_slotOf 0 = .ok (.iconst (-1), 1) := by decide +kernel
theorem dX5_slotOf_1 : decode cX5_slotOf 1 = .ok (.istore_n 2, 1) := by decide +kernel
theorem dX5_slotOf_2 : decode cX5_slotOf 2 = .ok (.iconst 0, 1) := by decide +kernel
theorem dX5_slotOf_3 : decode cX5_slotOf 3 = .ok (.istore_n 3, 1) := by decide +kernel
theorem dX5_slotOf_4 : decode cX5_slotOf 4 = .ok (.iload_n 3, 1) := by decide +kernel
theorem dX5_slotOf_5 : decode cX5_slotOf 5 = .ok (.bipush 12, 2) := by decide +kernel
theorem dX5_slotOf_7 : decode cX5_slotOf 7 = .ok (.if_icmp .ge 29, 3) := by decide +kernel
theorem dX5_slotOf_10 : decode cX5_slotOf 10 = .ok (.iload_n 1, 1) := by decide +kernel
theorem dX5_slotOf_11 : decode cX5_slotOf 11 = .ok (.ifCond .lt 17, 3) := by decide +kernel
theorem dX5_slotOf_14 : decode cX5_slotOf 14 = .ok (.aload_n 0, 1) := by decide +kernel
theorem dX5_slotOf_15 : decode cX5_slotOf 15 = .ok (.getfield 42, 3) := by decide +kernel
theorem dX5_slotOf_18 : decode cX5_slotOf 18 = .ok (.iload_n 3, 1) := by decide +kernel
theorem dX5_slotOf_19 : decode cX5_slotOf 19 = .ok (.iaload, 1) := by decide +kernel
theorem dX5_slotOf_20 : decode cX5_slotOf 20 = .ok (.iload_n 1, 1) := by decide +kernel
theorem dX5_slotOf_21 : decode cX5_slotOf 21 = .ok (.if_icmp .ne 7, 3) := by decide +kernel
theorem dX5_slotOf_24 : decode cX5_slotOf 24 = .ok (.iload_n 3, 1) := by decide +kernel
theorem dX5_slotOf_25 : decode cX5_slotOf 25 = .ok (.goto 4, 3) := by decide +kernel
theorem dX5_slotOf_28 : decode cX5_slotOf 28 = .ok (.iload_n 2, 1) := by decide +kernel
theorem dX5_slotOf_29 : decode cX5_slotOf 29 = .ok (.istore_n 2, 1) := by decide +kernel
theorem dX5_slotOf_30 : decode cX5_slotOf 30 = .ok (.iinc 3 1, 3) := by decide +kernel
theorem dX5_slotOf_33 : decode cX5_slotOf 33 = .ok (.goto (-29), 3) := by decide +kernel
theorem dX5_slotOf_36 : decode cX5_slotOf 36 = .ok (.iload_n 2, 1) := by decide +kernel
theorem dX5_slotOf_37 : decode cX5_slotOf 37 = .ok (.ireturn, 1) := by decide +kernel
theorem dX5_keptSlot_0 : decode cX5_keptSlot 0 = .ok (.aload_n 0, 1) := by decide +kernel
theorem dX5_keptSlot_1 : decode cX5_keptSlot 1 = .ok (.iload_n 1, 1) := by decide +kernel
theorem dX5_keptSlot_2 : decode cX5_keptSlot 2 = .ok (.invokevirtual 110, 3) := by decide +kernel
theorem dX5_keptSlot_5 : decode cX5_keptSlot 5 = .ok (.istore_n 2, 1) := by decide +kernel
theorem dX5_keptSlot_6 : decode cX5_keptSlot 6 = .ok (.iload_n 2, 1) := by decide +kernel
theorem dX5_keptSlot_7 : decode cX5_keptSlot 7 = .ok (.iconst (-1), 1) := by decide +kernel
theorem dX5_keptSlot_8 : decode cX5_keptSlot 8 = .ok (.if_icmp .eq 16, 3) := by decide +kernel
theorem dX5_keptSlot_11 : decode cX5_keptSlot 11 = .ok (.aload_n 0, 1) := by decide +kernel
theorem dX5_keptSlot_12 : decode cX5_keptSlot 12 = .ok (.getfield 45, 3) := by decide +kernel
theorem dX5_keptSlot_15 : decode cX5_keptSlot 15 = .ok (.iload_n 2, 1) := by decide +kernel
theorem dX5_keptSlot_16 : decode cX5_keptSlot 16 = .ok (.baload, 1) := by decide +kernel
theorem dX5_keptSlot_17 : decode cX5_keptSlot 17 = .ok (.ifCond .eq 7, 3) := by decide +kernel
theorem dX5_keptSlot_20 : decode cX5_keptSlot 20 = .ok (.iload_n 2, 1) := by decide +kernel
theorem dX5_keptSlot_21 : decode cX5_keptSlot 21 = .ok (.goto 4, 3) := by decide +kernel
theorem dX5_keptSlot_24 : decode cX5_keptSlot 24 = .ok (.iconst (-1), 1) := by decide +kernel
theorem dX5_keptSlot_25 : decode cX5_keptSlot 25 = .ok (.ireturn, 1) := by decide +kernel
theorem dX5_isChunk_0 : decode cX5_isChunk 0 = .ok (.aload_n 0, 1) := by decide +kernel
theorem dX5_isChunk_1 : decode cX5_isChunk 1 = .ok (.getfield 23, 3) := by decide +kernel
theorem dX5_isChunk_4 : decode cX5_isChunk 4 = .ok (.iload_n 1, 1) := by decide +kernel
theorem dX5_isChunk_5 : decode cX5_isChunk 5 = .ok (.iaload, 1) := by decide +kernel
theorem dX5_isChunk_6 : decode cX5_isChunk 6 = .ok (.iload 4, 2) := by decide +kernel
theorem dX5_isChunk_8 : decode cX5_isChunk 8 = .ok (.if_icmp .ne 15, 3) := by decide +kernel
theorem dX5_isChunk_11 : decode cX5_isChunk 11 = .ok (.aload_n 0, 1) := by decide +kernel
theorem dX5_isChunk_12 : decode cX5_isChunk 12 = .ok (.iload_n 1, 1) := by decide +kernel
theorem dX5_isChunk_13 : decode cX5_isChunk 13 = .ok (.invokevirtual 97, 3) := by decide +kernel
theorem dX5_isChunk_16 : decode cX5_isChunk 16 = .ok (.ifCond .ne 7, 3) := by decide +kernel
theorem dX5_isChunk_19 : decode cX5_isChunk 19 = .ok (.iconst 1, 1) := by decide +kernel
theorem dX5_isChunk_20 : decode cX5_isChunk 20 = .ok (.goto 4, 3) := by decide +kernel
theorem dX5_isChunk_23 : decode cX5_isChunk 23 = .ok (.iconst 0, 1) := by decide +kernel
theorem dX5_isChunk_24 : decode cX5_isChunk 24 = .ok (.istore 5, 2) := by decide +kernel
theorem dX5_isChunk_26 : decode cX5_isChunk 26 = .ok (.iconst 0, 1) := by decide +kernel
theorem dX5_isChunk_27 : decode cX5_isChunk 27 = .ok (.istore 6, 2) := by decide +kernel
theorem dX5_isChunk_29 : decode cX5_isChunk 29 = .ok (.iload 6, 2) := by decide +kernel
theorem dX5_isChunk_31 : decode cX5_isChunk 31 = .ok (.iload 4, 2) := by decide +kernel
theorem dX5_isChunk_33 : decode cX5_isChunk 33 = .ok (.if_icmp .ge 51, 3) := by decide +kernel
theorem dX5_isChunk_36 : decode cX5_isChunk 36 = .ok (.iload 5, 2) := by decide +kernel
theorem dX5_isChunk_38 : decode cX5_isChunk 38 = .ok (.ifCond .eq 46, 3) := by decide +kernel
theorem dX5_isChunk_41 : decode cX5_isChunk 41 = .ok (.aload_n 0, 1) := by decide +kernel
theorem dX5_isChunk_42 : decode cX5_isChunk 42 = .ok (.getfield 33, 3) := by decide +kernel
theorem dX5_isChunk_45 : decode cX5_isChunk 45 = .ok (.bipush 32, 2) := by decide +kernel
theorem dX5_isChunk_47 : decode cX5_isChunk 47 = .ok (.iload_n 1, 1) := by decide +kernel
theorem dX5_isChunk_48 : decode cX5_isChunk 48 = .ok (.imul, 1) := by decide +kernel
theorem dX5_isChunk_49 : decode cX5_isChunk 49 = .ok (.iload 6, 2) := by decide +kernel
theorem dX5_isChunk_51 : decode cX5_isChunk 51 = .ok (.iadd, 1) := by decide +kernel
theorem dX5_isChunk_52 : decode cX5_isChunk 52 = .ok (.iaload, 1) := by decide +kernel
theorem dX5_isChunk_53 : decode cX5_isChunk 53 = .ok (.aload_n 0, 1) := by decide +kernel
theorem dX5_isChunk_54 : decode cX5_isChunk 54 = .ok (.getfield 17, 3) := by decide +kernel
theorem dX5_isChunk_57 : decode cX5_isChunk 57 = .ok (.sipush 300, 3) := by decide +kernel
theorem dX5_isChunk_60 : decode cX5_isChunk 60 = .ok (.iload_n 2, 1) := by decide +kernel
theorem dX5_isChunk_61 : decode cX5_isChunk 61 = .ok (.imul, 1) := by decide +kernel
theorem dX5_isChunk_62 : decode cX5_isChunk 62 = .ok (.iload_n 3, 1) := by decide +kernel
theorem dX5_isChunk_63 : decode cX5_isChunk 63 = .ok (.iadd, 1) := by decide +kernel
theorem dX5_isChunk_64 : decode cX5_isChunk 64 = .ok (.iload 6, 2) := by decide +kernel
theorem dX5_isChunk_66 : decode cX5_isChunk 66 = .ok (.iadd, 1) := by decide +kernel
theorem dX5_isChunk_67 : decode cX5_isChunk 67 = .ok (.iaload, 1) := by decide +kernel
theorem dX5_isChunk_68 : decode cX5_isChunk 68 = .ok (.if_icmp .ne 7, 3) := by decide +kernel
theorem dX5_isChunk_71 : decode cX5_isChunk 71 = .ok (.iconst 1, 1) := by decide +kernel
theorem dX5_isChunk_72 : decode cX5_isChunk 72 = .ok (.goto 4, 3) := by decide +kernel
theorem dX5_isChunk_75 : decode cX5_isChunk 75 = .ok (.iconst 0, 1) := by decide +kernel
theorem dX5_isChunk_76 : decode cX5_isChunk 76 = .ok (.istore 5, 2) := by decide +kernel
theorem dX5_isChunk_78 : decode cX5_isChunk 78 = .ok (.iinc 6 1, 3) := by decide +kernel
theorem dX5_isChunk_81 : decode cX5_isChunk 81 = .ok (.goto (-52), 3) := by decide +kernel
theorem dX5_isChunk_84 : decode cX5_isChunk 84 = .ok (.iload 5, 2) := by decide +kernel
theorem dX5_isChunk_86 : decode cX5_isChunk 86 = .ok (.ireturn, 1) := by decide +kernel
theorem dX5_partFor_0 : decode cX5_partFor 0 = .ok (.iconst 0, 1) := by decide +kernel
theorem dX5_partFor_1 : decode cX5_partFor 1 = .ok (.istore 4, 2) := by decide +kernel
theorem dX5_partFor_3 : decode cX5_partFor 3 = .ok (.iload 4, 2) := by decide +kernel
theorem dX5_partFor_5 : decode cX5_partFor 5 = .ok (.bipush 120, 2) := by decide +kernel
theorem dX5_partFor_7 : decode cX5_partFor 7 = .ok (.if_icmp .ge 24, 3) := by decide +kernel
theorem dX5_partFor_10 : decode cX5_partFor 10 = .ok (.aload_n 0, 1) := by decide +kernel
theorem dX5_partFor_11 : decode cX5_partFor 11 = .ok (.iload 4, 2) := by decide +kernel
theorem dX5_partFor_13 : decode cX5_partFor 13 = .ok (.iload_n 1, 1) := by decide +kernel
theorem dX5_partFor_14 : decode cX5_partFor 14 = .ok (.iload_n 2, 1) := by decide +kernel
theorem dX5_partFor_15 : decode cX5_partFor 15 = .ok (.iload_n 3, 1) := by decide +kernel
theorem dX5_partFor_16 : decode cX5_partFor 16 = .ok (.invokevirtual 114, 3) := by decide +kernel
theorem dX5_partFor_19 : decode cX5_partFor 19 = .ok (.ifCond .eq 6, 3) := by decide +kernel
theorem dX5_partFor_22 : decode cX5_partFor 22 = .ok (.iload 4, 2) := by decide +kernel
theorem dX5_partFor_24 : decode cX5_partFor 24 = .ok (.ireturn, 1) := by decide +kernel
theorem dX5_partFor_25 : decode cX5_partFor 25 = .ok (.iinc 4 1, 3) := by decide +kernel
theorem dX5_partFor_28 : decode cX5_partFor 28 = .ok (.goto (-25), 3) := by decide +kernel
theorem dX5_partFor_31 : decode cX5_partFor 31 = .ok (.iconst 0, 1) := by decide +kernel
theorem dX5_partFor_32 : decode cX5_partFor 32 = .ok (.istore 4, 2) := by decide +kernel
theorem dX5_partFor_34 : decode cX5_partFor 34 = .ok (.iload 4, 2) := by decide +kernel
theorem dX5_partFor_36 : decode cX5_partFor 36 = .ok (.bipush 120, 2) := by decide +kernel
theorem dX5_partFor_38 : decode cX5_partFor 38 = .ok (.if_icmp .ge 19, 3) := by decide +kernel
theorem dX5_partFor_41 : decode cX5_partFor 41 = .ok (.aload_n 0, 1) := by decide +kernel
theorem dX5_partFor_42 : decode cX5_partFor 42 = .ok (.getfield 23, 3) := by decide +kernel
theorem dX5_partFor_45 : decode cX5_partFor 45 = .ok (.iload 4, 2) := by decide +kernel
theorem dX5_partFor_47 : decode cX5_partFor 47 = .ok (.iaload, 1) := by decide +kernel
theorem dX5_partFor_48 : decode cX5_partFor 48 = .ok (.ifCond .le 9, 3) := by decide +kernel
theorem dX5_partFor_51 : decode cX5_partFor 51 = .ok (.iinc 4 1, 3) := by decide +kernel
theorem dX5_partFor_54 : decode cX5_partFor 54 = .ok (.goto (-20), 3) := by decide +kernel
theorem dX5_partFor_57 : decode cX5_partFor 57 = .ok (.iload 4, 2) := by decide +kernel
theorem dX5_partFor_59 : decode cX5_partFor 59 = .ok (.bipush 120, 2) := by decide +kernel
theorem dX5_partFor_61 : decode cX5_partFor 61 = .ok (.if_icmp .ne 5, 3) := by decide +kernel
theorem dX5_partFor_64 : decode cX5_partFor 64 = .ok (.iconst (-1), 1) := by decide +kernel
theorem dX5_partFor_65 : decode cX5_partFor 65 = .ok (.ireturn, 1) := by decide +kernel
theorem dX5_partFor_66 : decode cX5_partFor 66 = .ok (.aload_n 0, 1) := by decide +kernel
theorem dX5_partFor_67 : decode cX5_partFor 67 = .ok (.getfield 23, 3) := by decide +kernel
theorem dX5_partFor_70 : decode cX5_partFor 70 = .ok (.iload 4, 2) := by decide +kernel
theorem dX5_partFor_72 : decode cX5_partFor 72 = .ok (.iload_n 3, 1) := by decide +kernel
theorem dX5_partFor_73 : decode cX5_partFor 73 = .ok (.iastore, 1) := by decide +kernel
theorem dX5_partFor_74 : decode cX5_partFor 74 = .ok (.aload_n 0, 1) := by decide +kernel
theorem dX5_partFor_75 : decode cX5_partFor 75 = .ok (.getfield 29, 3) := by decide +kernel
theorem dX5_partFor_78 : decode cX5_partFor 78 = .ok (.iload 4, 2) := by decide +kernel
theorem dX5_partFor_80 : decode cX5_partFor 80 = .ok (.iconst 0, 1) := by decide +kernel
theorem dX5_partFor_81 : decode cX5_partFor 81 = .ok (.bastore, 1) := by decide +kernel
theorem dX5_partFor_82 : decode cX5_partFor 82 = .ok (.iconst 1, 1) := by decide +kernel
theorem dX5_partFor_83 : decode cX5_partFor 83 = .ok (.istore 5, 2) := by decide +kernel
theorem dX5_partFor_85 : decode cX5_partFor 85 = .ok (.iconst 0, 1) := by decide +kernel
theorem dX5_partFor_86 : decode cX5_partFor 86 = .ok (.istore 6, 2) := by decide +kernel
theorem dX5_partFor_88 : decode cX5_partFor 88 = .ok (.iload 6, 2) := by decide +kernel
theorem dX5_partFor_90 : decode cX5_partFor 90 = .ok (.iload_n 3, 1) := by decide +kernel
theorem dX5_partFor_91 : decode cX5_partFor 91 = .ok (.if_icmp .ge 61, 3) := by decide +kernel
theorem dX5_partFor_94 : decode cX5_partFor 94 = .ok (.aload_n 0, 1) := by decide +kernel
theorem dX5_partFor_95 : decode cX5_partFor 95 = .ok (.getfield 33, 3) := by decide +kernel
theorem dX5_partFor_98 : decode cX5_partFor 98 = .ok (.bipush 32, 2) := by decide +kernel
theorem dX5_partFor_100 : decode cX5_partFor 100 = .ok (.iload 4, 2) := by decide +kernel
theorem dX5_partFor_102 : decode cX5_partFor 102 = .ok (.imul, 1) := by decide +kernel
theorem dX5_partFor_103 : decode cX5_partFor 103 = .ok (.iload 6, 2) := by decide +kernel
theorem dX5_partFor_105 : decode cX5_partFor 105 = .ok (.iadd, 1) := by decide +kernel
theorem dX5_partFor_106 : decode cX5_partFor 106 = .ok (.aload_n 0, 1) := by decide +kernel
theorem dX5_partFor_107 : decode cX5_partFor 107 = .ok (.getfield 17, 3) := by decide +kernel
theorem dX5_partFor_110 : decode cX5_partFor 110 = .ok (.sipush 300, 3) := by decide +kernel
theorem dX5_partFor_113 : decode cX5_partFor 113 = .ok (.iload_n 1, 1) := by decide +kernel
theorem dX5_partFor_114 : decode cX5_partFor 114 = .ok (.imul, 1) := by decide +kernel
theorem dX5_partFor_115 : decode cX5_partFor 115 = .ok (.iload_n 2, 1) := by decide +kernel
theorem dX5_partFor_116 : decode cX5_partFor 116 = .ok (.iadd, 1) := by decide +kernel
theorem dX5_partFor_117 : decode cX5_partFor 117 = .ok (.iload 6, 2) := by decide +kernel
theorem dX5_partFor_119 : decode cX5_partFor 119 = .ok (.iadd, 1) := by decide +kernel
theorem dX5_partFor_120 : decode cX5_partFor 120 = .ok (.iaload, 1) := by decide +kernel
theorem dX5_partFor_121 : decode cX5_partFor 121 = .ok (.iastore, 1) := by decide +kernel
theorem dX5_partFor_122 : decode cX5_partFor 122 = .ok (.bipush 31, 2) := by decide +kernel
theorem dX5_partFor_124 : decode cX5_partFor 124 = .ok (.iload 5, 2) := by decide +kernel
theorem dX5_partFor_126 : decode cX5_partFor 126 = .ok (.imul, 1) := by decide +kernel
theorem dX5_partFor_127 : decode cX5_partFor 127 = .ok (.aload_n 0, 1) := by decide +kernel
theorem dX5_partFor_128 : decode cX5_partFor 128 = .ok (.getfield 33, 3) := by decide +kernel
theorem dX5_partFor_131 : decode cX5_partFor 131 = .ok (.bipush 32, 2) := by decide +kernel
theorem dX5_partFor_133 : decode cX5_partFor 133 = .ok (.iload 4, 2) := by decide +kernel
theorem dX5_partFor_135 : decode cX5_partFor 135 = .ok (.imul, 1) := by decide +kernel
theorem dX5_partFor_136 : decode cX5_partFor 136 = .ok (.iload 6, 2) := by decide +kernel
theorem dX5_partFor_138 : decode cX5_partFor 138 = .ok (.iadd, 1) := by decide +kernel
theorem dX5_partFor_139 : decode cX5_partFor 139 = .ok (.iaload, 1) := by decide +kernel
theorem dX5_partFor_140 : decode cX5_partFor 140 = .ok (.iadd, 1) := by decide +kernel
theorem dX5_partFor_141 : decode cX5_partFor 141 = .ok (.bipush 61, 2) := by decide +kernel
theorem dX5_partFor_143 : decode cX5_partFor 143 = .ok (.irem, 1) := by decide +kernel
theorem dX5_partFor_144 : decode cX5_partFor 144 = .ok (.istore 5, 2) := by decide +kernel
theorem dX5_partFor_146 : decode cX5_partFor 146 = .ok (.iinc 6 1, 3) := by decide +kernel
theorem dX5_partFor_149 : decode cX5_partFor 149 = .ok (.goto (-61), 3) := by decide +kernel
theorem dX5_partFor_152 : decode cX5_partFor 152 = .ok (.aload_n 0, 1) := by decide +kernel
theorem dX5_partFor_153 : decode cX5_partFor 153 = .ok (.getfield 26, 3) := by decide +kernel
theorem dX5_partFor_156 : decode cX5_partFor 156 = .ok (.iload 4, 2) := by decide +kernel
theorem dX5_partFor_158 : decode cX5_partFor 158 = .ok (.iload 5, 2) := by decide +kernel
theorem dX5_partFor_160 : decode cX5_partFor 160 = .ok (.iastore, 1) := by decide +kernel
theorem dX5_partFor_161 : decode cX5_partFor 161 = .ok (.aload_n 0, 1) := by decide +kernel
theorem dX5_partFor_162 : decode cX5_partFor 162 = .ok (.getfield 69, 3) := by decide +kernel
theorem dX5_partFor_165 : decode cX5_partFor 165 = .ok (.iload 4, 2) := by decide +kernel
theorem dX5_partFor_167 : decode cX5_partFor 167 = .ok (.iconst 1, 1) := by decide +kernel
theorem dX5_partFor_168 : decode cX5_partFor 168 = .ok (.bastore, 1) := by decide +kernel
theorem dX5_partFor_169 : decode cX5_partFor 169 = .ok (.iload 4, 2) := by decide +kernel
theorem dX5_partFor_171 : decode cX5_partFor 171 = .ok (.ireturn, 1) := by decide +kernel
theorem dX5_allBytes_0 : decode cX5_allBytes 0 = .ok (.iconst 0, 1) := by decide +kernel
theorem dX5_allBytes_1 : decode cX5_allBytes 1 = .ok (.istore_n 1, 1) := by decide +kernel
theorem dX5_allBytes_2 : decode cX5_allBytes 2 = .ok (.iconst 0, 1) := by decide +kernel
theorem dX5_allBytes_3 : decode cX5_allBytes 3 = .ok (.istore_n 2, 1) := by decide +kernel
theorem dX5_allBytes_4 : decode cX5_allBytes 4 = .ok (.iload_n 2, 1) := by decide +kernel
theorem dX5_allBytes_5 : decode cX5_allBytes 5 = .ok (.bipush 120, 2) := by decide +kernel
theorem dX5_allBytes_7 : decode cX5_allBytes 7 = .ok (.if_icmp .ge 18, 3) := by decide +kernel
theorem dX5_allBytes_10 : decode cX5_allBytes 10 = .ok (.iload_n 1, 1) := by decide +kernel
theorem dX5_allBytes_11 : decode cX5_allBytes 11 = .ok (.aload_n 0, 1) := by decide +kernel
theorem dX5_allBytes_12 : decode cX5_allBytes 12 = .ok (.getfield 23, 3) := by decide +kernel
theorem dX5_allBytes_15 : decode cX5_allBytes 15 = .ok (.iload_n 2, 1) := by decide +kernel
theorem dX5_allBytes_16 : decode cX5_allBytes 16 = .ok (.iaload, 1) := by decide +kernel
theorem dX5_allBytes_17 : decode cX5_allBytes 17 = .ok (.iadd, 1) := by decide +kernel
theorem dX5_allBytes_18 : decode cX5_allBytes 18 = .ok (.istore_n 1, 1) := by decide +kernel
theorem dX5_allBytes_19 : decode cX5_allBytes 19 = .ok (.iinc 2 1, 3) := by decide +kernel
theorem dX5_allBytes_22 : decode cX5_allBytes 22 = .ok (.goto (-18), 3) := by decide +kernel
theorem dX5_allBytes_25 : decode cX5_allBytes 25 = .ok (.iload_n 1, 1) := by decide +kernel
theorem dX5_allBytes_26 : decode cX5_allBytes 26 = .ok (.ireturn, 1) := by decide +kernel
theorem dX5_held_0 : decode cX5_held 0 = .ok (.iconst 0, 1) := by decide +kernel
theorem dX5_held_1 : decode cX5_held 1 = .ok (.istore_n 1, 1) := by decide +kernel
theorem dX5_held_2 : decode cX5_held 2 = .ok (.iconst 0, 1) := by decide +kernel
theorem dX5_held_3 : decode cX5_held 3 = .ok (.istore_n 2, 1) := by decide +kernel
theorem dX5_held_4 : decode cX5_held 4 = .ok (.iload_n 2, 1) := by decide +kernel
theorem dX5_held_5 : decode cX5_held 5 = .ok (.bipush 12, 2) := by decide +kernel
theorem dX5_held_7 : decode cX5_held 7 = .ok (.if_icmp .ge 27, 3) := by decide +kernel
theorem dX5_held_10 : decode cX5_held 10 = .ok (.iload_n 1, 1) := by decide +kernel
theorem dX5_held_11 : decode cX5_held 11 = .ok (.aload_n 0, 1) := by decide +kernel
theorem dX5_held_12 : decode cX5_held 12 = .ok (.getfield 42, 3) := by decide +kernel
theorem dX5_held_15 : decode cX5_held 15 = .ok (.iload_n 2, 1) := by decide +kernel
theorem dX5_held_16 : decode cX5_held 16 = .ok (.iaload, 1) := by decide +kernel
theorem dX5_held_17 : decode cX5_held 17 = .ok (.iconst (-1), 1) := by decide +kernel
theorem dX5_held_18 : decode cX5_held 18 = .ok (.if_icmp .eq 7, 3) := by decide +kernel
theorem dX5_held_21 : decode cX5_held 21 = .ok (.iconst 1, 1) := by decide +kernel
theorem dX5_held_22 : decode cX5_held 22 = .ok (.goto 4, 3) := by decide +kernel
theorem dX5_held_25 : decode cX5_held 25 = .ok (.iconst 0, 1) := by decide +kernel
theorem dX5_held_26 : decode cX5_held 26 = .ok (.iadd, 1) := by decide +kernel
theorem dX5_held_27 : decode cX5_held 27 = .ok (.istore_n 1, 1) := by decide +kernel
theorem dX5_held_28 : decode cX5_held 28 = .ok (.iinc 2 1, 3) := by decide +kernel
theorem dX5_held_31 : decode cX5_held 31 = .ok (.goto (-27), 3) := by decide +kernel
theorem dX5_held_34 : decode cX5_held 34 = .ok (.iload_n 1, 1) := by decide +kernel
theorem dX5_held_35 : decode cX5_held 35 = .ok (.ireturn, 1) := by decide +kernel
theorem dX5_latest_0 : decode cX5_latest 0 = .ok (.iconst (-1), 1) := by decide +kernel
theorem dX5_latest_1 : decode cX5_latest 1 = .ok (.istore_n 2, 1) := by decide +kernel
theorem dX5_latest_2 : decode cX5_latest 2 = .ok (.iconst 0, 1) := by decide +kernel
theorem dX5_latest_3 : decode cX5_latest 3 = .ok (.istore_n 3, 1) := by decide +kernel
theorem dX5_latest_4 : decode cX5_latest 4 = .ok (.iload_n 3, 1) := by decide +kernel
theorem dX5_latest_5 : decode cX5_latest 5 = .ok (.bipush 12, 2) := by decide +kernel
theorem dX5_latest_7 : decode cX5_latest 7 = .ok (.if_icmp .ge 60, 3) := by decide +kernel
theorem dX5_latest_10 : decode cX5_latest 10 = .ok (.aload_n 0, 1) := by decide +kernel
theorem dX5_latest_11 : decode cX5_latest 11 = .ok (.getfield 42, 3) := by decide +kernel
theorem dX5_latest_14 : decode cX5_latest 14 = .ok (.iload_n 3, 1) := by decide +kernel
theorem dX5_latest_15 : decode cX5_latest 15 = .ok (.iaload, 1) := by decide +kernel
theorem dX5_latest_16 : decode cX5_latest 16 = .ok (.iconst (-1), 1) := by decide +kernel
theorem dX5_latest_17 : decode cX5_latest 17 = .ok (.if_icmp .eq 44, 3) := by decide +kernel
theorem dX5_latest_20 : decode cX5_latest 20 = .ok (.aload_n 0, 1) := by decide +kernel
theorem dX5_latest_21 : decode cX5_latest 21 = .ok (.getfield 45, 3) := by decide +kernel
theorem dX5_latest_24 : decode cX5_latest 24 = .ok (.iload_n 3, 1) := by decide +kernel
theorem dX5_latest_25 : decode cX5_latest 25 = .ok (.baload, 1) := by decide +kernel
theorem dX5_latest_26 : decode cX5_latest 26 = .ok (.ifCond .eq 35, 3) := by decide +kernel
theorem dX5_latest_29 : decode cX5_latest 29 = .ok (.aload_n 0, 1) := by decide +kernel
theorem dX5_latest_30 : decode cX5_latest 30 = .ok (.getfield 42, 3) := by decide +kernel
theorem dX5_latest_33 : decode cX5_latest 33 = .ok (.iload_n 3, 1) := by decide +kernel
theorem dX5_latest_34 : decode cX5_latest 34 = .ok (.iaload, 1) := by decide +kernel
theorem dX5_latest_35 : decode cX5_latest 35 = .ok (.iload_n 1, 1) := by decide +kernel
theorem dX5_latest_36 : decode cX5_latest 36 = .ok (.if_icmp .ge 25, 3) := by decide +kernel
theorem dX5_latest_39 : decode cX5_latest 39 = .ok (.iload_n 2, 1) := by decide +kernel
theorem dX5_latest_40 : decode cX5_latest 40 = .ok (.iconst (-1), 1) := by decide +kernel
theorem dX5_latest_41 : decode cX5_latest 41 = .ok (.if_icmp .eq 18, 3) := by decide +kernel
theorem dX5_latest_44 : decode cX5_latest 44 = .ok (.aload_n 0, 1) := by decide +kernel
theorem dX5_latest_45 : decode cX5_latest 45 = .ok (.getfield 42, 3) := by decide +kernel
theorem dX5_latest_48 : decode cX5_latest 48 = .ok (.iload_n 3, 1) := by decide +kernel
theorem dX5_latest_49 : decode cX5_latest 49 = .ok (.iaload, 1) := by decide +kernel
theorem dX5_latest_50 : decode cX5_latest 50 = .ok (.aload_n 0, 1) := by decide +kernel
