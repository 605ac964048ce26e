theorem dX11_setOf_28 : decode cX11_setOf 28 = .ok (.ishl, 1) := by decide +kernel
theorem dX11_setOf_29 : decode cX11_setOf 29 = .ok (.goto 4, 3) := by decide +kernel
theorem dX11_setOf_32 : decode cX11_setOf 32 = .ok (.iconst 0, 1) := by decide +kernel
theorem dX11_setOf_33 : decode cX11_setOf 33 = .ok (.ior, 1) := by decide +kernel
theorem dX11_setOf_34 : decode cX11_setOf 34 = .ok (.istore_n 3, 1) := by decide +kernel
theorem dX11_setOf_35 : decode cX11_setOf 35 = .ok (.iinc 4 1, 3) := by decide +kernel
theorem dX11_setOf_38 : decode cX11_setOf 38 = .ok (.goto (-33), 3) := by decide +kernel
theorem dX11_setOf_41 : decode cX11_setOf 41 = .ok (.iload_n 3, 1) := by decide +kernel
theorem dX11_setOf_42 : decode cX11_setOf 42 = .ok (.ireturn, 1) := by decide +kernel
theorem dX11_sumOf_0 : decode cX11_sumOf 0 = .ok (.iconst 0, 1) := by decide +kernel
theorem dX11_sumOf_1 : decode cX11_sumOf 1 = .ok (.istore_n 3, 1) := by decide +kernel
theorem dX11_sumOf_2 : decode cX11_sumOf 2 = .ok (.iconst 0, 1) := by decide +kernel
theorem dX11_sumOf_3 : decode cX11_sumOf 3 = .ok (.istore 4, 2) := by decide +kernel
theorem dX11_sumOf_5 : decode cX11_sumOf 5 = .ok (.iload 4, 2) := by decide +kernel
theorem dX11_sumOf_7 : decode cX11_sumOf 7 = .ok (.aload_n 0, 1) := by decide +kernel
theorem dX11_sumOf_8 : decode cX11_sumOf 8 = .ok (.getfield 288, 3) := by decide +kernel
theorem dX11_sumOf_11 : decode cX11_sumOf 11 = .ok (.if_icmp .ge 36, 3) := by decide +kernel
theorem dX11_sumOf_14 : decode cX11_sumOf 14 = .ok (.iload_n 3, 1) := by decide +kernel
theorem dX11_sumOf_15 : decode cX11_sumOf 15 = .ok (.iload_n 1, 1) := by decide +kernel
theorem dX11_sumOf_16 : decode cX11_sumOf 16 = .ok (.iload 4, 2) := by decide +kernel
theorem dX11_sumOf_18 : decode cX11_sumOf 18 = .ok (.invokestatic 223, 3) := by decide +kernel
theorem dX11_sumOf_21 : decode cX11_sumOf 21 = .ok (.ifCond .eq 17, 3) := by decide +kernel
theorem dX11_sumOf_24 : decode cX11_sumOf 24 = .ok (.aload_n 0, 1) := by decide +kernel
theorem dX11_sumOf_25 : decode cX11_sumOf 25 = .ok (.getfield 49, 3) := by decide +kernel
theorem dX11_sumOf_28 : decode cX11_sumOf 28 = .ok (.iconst 3, 1) := by decide +kernel
theorem dX11_sumOf_29 : decode cX11_sumOf 29 = .ok (.iload 4, 2) := by decide +kernel
theorem dX11_sumOf_31 : decode cX11_sumOf 31 = .ok (.imul, 1) := by decide +kernel
theorem dX11_sumOf_32 : decode cX11_sumOf 32 = .ok (.iload_n 2, 1) := by decide +kernel
theorem dX11_sumOf_33 : decode cX11_sumOf 33 = .ok (.iadd, 1) := by decide +kernel
theorem dX11_sumOf_34 : decode cX11_sumOf 34 = .ok (.iaload, 1) := by decide +kernel
theorem dX11_sumOf_35 : decode cX11_sumOf 35 = .ok (.goto 4, 3) := by decide +kernel
theorem dX11_sumOf_38 : decode cX11_sumOf 38 = .ok (.iconst 0, 1) := by decide +kernel
theorem dX11_sumOf_39 : decode cX11_sumOf 39 = .ok (.iadd, 1) := by decide +kernel
theorem dX11_sumOf_40 : decode cX11_sumOf 40 = .ok (.istore_n 3, 1) := by decide +kernel
theorem dX11_sumOf_41 : decode cX11_sumOf 41 = .ok (.iinc 4 1, 3) := by decide +kernel
theorem dX11_sumOf_44 : decode cX11_sumOf 44 = .ok (.goto (-39), 3) := by decide +kernel
theorem dX11_sumOf_47 : decode cX11_sumOf 47 = .ok (.iload_n 3, 1) := by decide +kernel
theorem dX11_sumOf_48 : decode cX11_sumOf 48 = .ok (.ireturn, 1) := by decide +kernel
theorem dX11_worthOf_0 : decode cX11_worthOf 0 = .ok (.lconst 1, 1) := by decide +kernel
theorem dX11_worthOf_1 : decode cX11_worthOf 1 = .ok (.aload_n 0, 1) := by decide +kernel
theorem dX11_worthOf_2 : decode cX11_worthOf 2 = .ok (.getfield 67, 3) := by decide +kernel
theorem dX11_worthOf_5 : decode cX11_worthOf 5 = .ok (.i2l, 1) := by decide +kernel
theorem dX11_worthOf_6 : decode cX11_worthOf 6 = .ok (.ladd, 1) := by decide +kernel
theorem dX11_worthOf_7 : decode cX11_worthOf 7 = .ok (.lstore 7, 2) := by decide +kernel
theorem dX11_worthOf_9 : decode cX11_worthOf 9 = .ok (.ldc2_w 304, 3) := by decide +kernel
theorem dX11_worthOf_12 : decode cX11_worthOf 12 = .ok (.lload 7, 2) := by decide +kernel
theorem dX11_worthOf_14 : decode cX11_worthOf 14 = .ok (.lmul, 1) := by decide +kernel
theorem dX11_worthOf_15 : decode cX11_worthOf 15 = .ok (.iload_n 1, 1) := by decide +kernel
theorem dX11_worthOf_16 : decode cX11_worthOf 16 = .ok (.i2l, 1) := by decide +kernel
theorem dX11_worthOf_17 : decode cX11_worthOf 17 = .ok (.ladd, 1) := by decide +kernel
theorem dX11_worthOf_18 : decode cX11_worthOf 18 = .ok (.lstore 7, 2) := by decide +kernel
theorem dX11_worthOf_20 : decode cX11_worthOf 20 = .ok (.ldc2_w 306, 3) := by decide +kernel
theorem dX11_worthOf_23 : decode cX11_worthOf 23 = .ok (.lload 7, 2) := by decide +kernel
theorem dX11_worthOf_25 : decode cX11_worthOf 25 = .ok (.lmul, 1) := by decide +kernel
theorem dX11_worthOf_26 : decode cX11_worthOf 26 = .ok (.iload_n 2, 1) := by decide +kernel
theorem dX11_worthOf_27 : decode cX11_worthOf 27 = .ok (.i2l, 1) := by decide +kernel
theorem dX11_worthOf_28 : decode cX11_worthOf 28 = .ok (.ladd, 1) := by decide +kernel
theorem dX11_worthOf_29 : decode cX11_worthOf 29 = .ok (.lstore 7, 2) := by decide +kernel
theorem dX11_worthOf_31 : decode cX11_worthOf 31 = .ok (.ldc2_w 304, 3) := by decide +kernel
theorem dX11_worthOf_34 : decode cX11_worthOf 34 = .ok (.lload 7, 2) := by decide +kernel
theorem dX11_worthOf_36 : decode cX11_worthOf 36 = .ok (.lmul, 1) := by decide +kernel
theorem dX11_worthOf_37 : decode cX11_worthOf 37 = .ok (.iload_n 3, 1) := by decide +kernel
theorem dX11_worthOf_38 : decode cX11_worthOf 38 = .ok (.i2l, 1) := by decide +kernel
theorem dX11_worthOf_39 : decode cX11_worthOf 39 = .ok (.ladd, 1) := by decide +kernel
theorem dX11_worthOf_40 : decode cX11_worthOf 40 = .ok (.lstore 7, 2) := by decide +kernel
theorem dX11_worthOf_42 : decode cX11_worthOf 42 = .ok (.ldc2_w 308, 3) := by decide +kernel
theorem dX11_worthOf_45 : decode cX11_worthOf 45 = .ok (.lload 7, 2) := by decide +kernel
theorem dX11_worthOf_47 : decode cX11_worthOf 47 = .ok (.lmul, 1) := by decide +kernel
theorem dX11_worthOf_48 : decode cX11_worthOf 48 = .ok (.iload 4, 2) := by decide +kernel
theorem dX11_worthOf_50 : decode cX11_worthOf 50 = .ok (.i2l, 1) := by decide +kernel
theorem dX11_worthOf_51 : decode cX11_worthOf 51 = .ok (.ladd, 1) := by decide +kernel
theorem dX11_worthOf_52 : decode cX11_worthOf 52 = .ok (.lstore 7, 2) := by decide +kernel
theorem dX11_worthOf_54 : decode cX11_worthOf 54 = .ok (.ldc2_w 310, 3) := by decide +kernel
theorem dX11_worthOf_57 : decode cX11_worthOf 57 = .ok (.lload 7, 2) := by decide +kernel
theorem dX11_worthOf_59 : decode cX11_worthOf 59 = .ok (.lmul, 1) := by decide +kernel
theorem dX11_worthOf_60 : decode cX11_worthOf 60 = .ok (.iload 5, 2) := by decide +kernel
theorem dX11_worthOf_62 : decode cX11_worthOf 62 = .ok (.i2l, 1) := by decide +kernel
theorem dX11_worthOf_63 : decode cX11_worthOf 63 = .ok (.ladd, 1) := by decide +kernel
theorem dX11_worthOf_64 : decode cX11_worthOf 64 = .ok (.lstore 7, 2) := by decide +kernel
theorem dX11_worthOf_66 : decode cX11_worthOf 66 = .ok (.ldc2_w 312, 3) := by decide +kernel
theorem dX11_worthOf_69 : decode cX11_worthOf 69 = .ok (.lload 7, 2) := by decide +kernel
theorem dX11_worthOf_71 : decode cX11_worthOf 71 = .ok (.lmul, 1) := by decide +kernel
theorem dX11_worthOf_72 : decode cX11_worthOf 72 = .ok (.iload 6, 2) := by decide +kernel
theorem dX11_worthOf_74 : decode cX11_worthOf 74 = .ok (.i2l, 1) := by decide +kernel
theorem dX11_worthOf_75 : decode cX11_worthOf 75 = .ok (.ladd, 1) := by decide +kernel
theorem dX11_worthOf_76 : decode cX11_worthOf 76 = .ok (.lstore 7, 2) := by decide +kernel
theorem dX11_worthOf_78 : decode cX11_worthOf 78 = .ok (.lload 7, 2) := by decide +kernel
theorem dX11_worthOf_80 : decode cX11_worthOf 80 = .ok (.ldc2_w 314, 3) := by decide +kernel
theorem dX11_worthOf_83 : decode cX11_worthOf 83 = .ok (.lrem, 1) := by decide +kernel
theorem dX11_worthOf_84 : decode cX11_worthOf 84 = .ok (.l2i, 1) := by decide +kernel
theorem dX11_worthOf_85 : decode cX11_worthOf 85 = .ok (.istore 9, 2) := by decide +kernel
theorem dX11_worthOf_87 : decode cX11_worthOf 87 = .ok (.aload_n 0, 1) := by decide +kernel
theorem dX11_worthOf_88 : decode cX11_worthOf 88 = .ok (.getfield 74, 3) := by decide +kernel
theorem dX11_worthOf_91 : decode cX11_worthOf 91 = .ok (.iload 9, 2) := by decide +kernel
theorem dX11_worthOf_93 : decode cX11_worthOf 93 = .ok (.laload, 1) := by decide +kernel
theorem dX11_worthOf_94 : decode cX11_worthOf 94 = .ok (.lload 7, 2) := by decide +kernel
theorem dX11_worthOf_96 : decode cX11_worthOf 96 = .ok (.lcmp, 1) := by decide +kernel
theorem dX11_worthOf_97 : decode cX11_worthOf 97 = .ok (.ifCond .ne 11, 3) := by decide +kernel
theorem dX11_worthOf_100 : decode cX11_worthOf 100 = .ok (.aload_n 0, 1) := by decide +kernel
theorem dX11_worthOf_101 : decode cX11_worthOf 101 = .ok (.getfield 78, 3) := by decide +kernel
theorem dX11_worthOf_104 : decode cX11_worthOf 104 = .ok (.iload 9, 2) := by decide +kernel
theorem dX11_worthOf_106 : decode cX11_worthOf 106 = .ok (.iaload, 1) := by decide +kernel
theorem dX11_worthOf_107 : decode cX11_worthOf 107 = .ok (.ireturn, 1) := by decide +kernel
theorem dX11_worthOf_108 : decode cX11_worthOf 108 = .ok (.aload_n 0, 1) := by decide +kernel
theorem dX11_worthOf_109 : decode cX11_worthOf 109 = .ok (.getfield 20, 3) := by decide +kernel
theorem dX11_worthOf_112 : decode cX11_worthOf 112 = .ok (.bipush 103, 2) := by decide +kernel
theorem dX11_worthOf_114 : decode cX11_worthOf 114 = .ok (.iload_n 1, 1) := by decide +kernel
theorem dX11_worthOf_115 : decode cX11_worthOf 115 = .ok (.iastore, 1) := by decide +kernel
theorem dX11_worthOf_116 : decode cX11_worthOf 116 = .ok (.aload_n 0, 1) := by decide +kernel
theorem dX11_worthOf_117 : decode cX11_worthOf 117 = .ok (.getfield 20, 3) := by decide +kernel
theorem dX11_worthOf_120 : decode cX11_worthOf 120 = .ok (.bipush 115, 2) := by decide +kernel
theorem dX11_worthOf_122 : decode cX11_worthOf 122 = .ok (.iload_n 2, 1) := by decide +kernel
theorem dX11_worthOf_123 : decode cX11_worthOf 123 = .ok (.iastore, 1) := by decide +kernel
theorem dX11_worthOf_124 : decode cX11_worthOf 124 = .ok (.aload_n 0, 1) := by decide +kernel
theorem dX11_worthOf_125 : decode cX11_worthOf 125 = .ok (.getfield 20, 3) := by decide +kernel
theorem dX11_worthOf_128 : decode cX11_worthOf 128 = .ok (.bipush 98, 2) := by decide +kernel
theorem dX11_worthOf_130 : decode cX11_worthOf 130 = .ok (.iload_n 3, 1) := by decide +kernel
theorem dX11_worthOf_131 : decode cX11_worthOf 131 = .ok (.iastore, 1) := by decide +kernel
theorem dX11_worthOf_132 : decode cX11_worthOf 132 = .ok (.aload_n 0, 1) := by decide +kernel
theorem dX11_worthOf_133 : decode cX11_worthOf 133 = .ok (.getfield 20, 3) := by decide +kernel
theorem dX11_worthOf_136 : decode cX11_worthOf 136 = .ok (.bipush 110, 2) := by decide +kernel
theorem dX11_worthOf_138 : decode cX11_worthOf 138 = .ok (.iload 4, 2) := by decide +kernel
theorem dX11_worthOf_140 : decode cX11_worthOf 140 = .ok (.iastore, 1) := by decide +kernel
theorem dX11_worthOf_141 : decode cX11_worthOf 141 = .ok (.aload_n 0, 1) := by decide +kernel
theorem dX11_worthOf_142 : decode cX11_worthOf 142 = .ok (.getfield 20, 3) := by decide +kernel
theorem dX11_worthOf_145 : decode cX11_worthOf 145 = .ok (.bipush 119, 2) := by decide +kernel
theorem dX11_worthOf_147 : decode cX11_worthOf 147 = .ok (.iload 5, 2) := by decide +kernel
theorem dX11_worthOf_149 : decode cX11_worthOf 149 = .ok (.iastore, 1) := by decide +kernel
theorem dX11_worthOf_150 : decode cX11_worthOf 150 = .ok (.aload_n 0, 1) := by decide +kernel
theorem dX11_worthOf_151 : decode cX11_worthOf 151 = .ok (.getfield 20, 3) := by decide +kernel
theorem dX11_worthOf_154 : decode cX11_worthOf 154 = .ok (.bipush 116, 2) := by decide +kernel
theorem dX11_worthOf_156 : decode cX11_worthOf 156 = .ok (.iload 6, 2) := by decide +kernel
theorem dX11_worthOf_158 : decode cX11_worthOf 158 = .ok (.iastore, 1) := by decide +kernel
theorem dX11_worthOf_159 : decode cX11_worthOf 159 = .ok (.aload_n 0, 1) := by decide +kernel
theorem dX11_worthOf_160 : decode cX11_worthOf 160 = .ok (.aload_n 0, 1) := by decide +kernel
theorem dX11_worthOf_161 : decode cX11_worthOf 161 = .ok (.getfield 13, 3) := by decide +kernel
theorem dX11_worthOf_164 : decode cX11_worthOf 164 = .ok (.sipush 240, 3) := by decide +kernel
theorem dX11_worthOf_167 : decode cX11_worthOf 167 = .ok (.aload_n 0, 1) := by decide +kernel
theorem dX11_worthOf_168 : decode cX11_worthOf 168 = .ok (.getfield 67, 3) := by decide +kernel
theorem dX11_worthOf_171 : decode cX11_worthOf 171 = .ok (.imul, 1) := by decide +kernel
theorem dX11_worthOf_172 : decode cX11_worthOf 172 = .ok (.aload_n 0, 1) := by decide +kernel
theorem dX11_worthOf_173 : decode cX11_worthOf 173 = .ok (.getfield 16, 3) := by decide +kernel
theorem dX11_worthOf_176 : decode cX11_worthOf 176 = .ok (.aload_n 0, 1) := by decide +kernel
theorem dX11_worthOf_177 : decode cX11_worthOf 177 = .ok (.getfield 67, 3) := by decide +kernel
theorem dX11_worthOf_180 : decode cX11_worthOf 180 = .ok (.iaload, 1) := by decide +kernel
theorem dX11_worthOf_181 : decode cX11_worthOf 181 = .ok (.invokevirtual 271, 3) := by decide +kernel
theorem dX11_worthOf_184 : decode cX11_worthOf 184 = .ok (.aload_n 0, 1) := by decide +kernel
theorem dX11_worthOf_185 : decode cX11_worthOf 185 = .ok (.getfield 74, 3) := by decide +kernel
theorem dX11_worthOf_188 : decode cX11_worthOf 188 = .ok (.iload 9, 2) := by decide +kernel
theorem dX11_worthOf_190 : decode cX11_worthOf 190 = .ok (.lload 7, 2) := by decide +kernel
theorem dX11_worthOf_192 : decode cX11_worthOf 192 = .ok (.lastore, 1) := by decide +kernel
theorem dX11_worthOf_193 : decode cX11_worthOf 193 = .ok (.aload_n 0, 1) := by decide +kernel
theorem dX11_worthOf_194 : decode cX11_worthOf 194 = .ok (.getfield 78, 3) := by decide +kernel
theorem dX11_worthOf_197 : decode cX11_worthOf 197 = .ok (.iload 9, 2) := by decide +kernel
theorem dX11_worthOf_199 : decode cX11_worthOf 199 = .ok (.bipush (-99), 2) := by decide +kernel
theorem dX11_worthOf_201 : decode cX11_worthOf 201 = .ok (.bipush 99, 2) := by decide +kernel
theorem dX11_worthOf_203 : decode cX11_worthOf 203 = .ok (.aload_n 0, 1) := by decide +kernel
theorem dX11_worthOf_204 : decode cX11_worthOf 204 = .ok (.getfield 198, 3) := by decide +kernel
theorem dX11_worthOf_207 : decode cX11_worthOf 207 = .ok (.invokestatic 316, 3) := by decide +kernel
theorem dX11_worthOf_210 : decode cX11_worthOf 210 = .ok (.invokestatic 318, 3) := by decide +kernel
theorem dX11_worthOf_213 : decode cX11_worthOf 213 = .ok (.iastore, 1) := by decide +kernel
theorem dX11_worthOf_214 : decode cX11_worthOf 214 = .ok (.aload_n 0, 1) := by decide +kernel
theorem dX11_worthOf_215 : decode cX11_worthOf 215 = .ok (.getfield 78, 3) := by decide +kernel
theorem dX11_worthOf_218 : decode cX11_worthOf 218 = .ok (.iload 9, 2) := by decide +kernel
theorem dX11_worthOf_220 : decode cX11_worthOf 220 = .ok (.iaload, 1) := by decide +kernel
theorem dX11_worthOf_221 : decode cX11_worthOf 221 = .ok (.ireturn, 1) := by decide +kernel
theorem dX11_readBy_0 : decode cX11_readBy 0 = .ok (.aload_n 0, 1) := by decide +kernel
theorem dX11_readBy_1 : decode cX11_readBy 1 = .ok (.getfield 43, 3) := by decide +kernel
theorem dX11_readBy_4 : decode cX11_readBy 4 = .ok (.iconst 3, 1) := by decide +kernel
theorem dX11_readBy_5 : decode cX11_readBy 5 = .ok (.iload_n 1, 1) := by decide +kernel
theorem dX11_readBy_6 : decode cX11_readBy 6 = .ok (.imul, 1) := by decide +kernel
theorem dX11_readBy_7 : decode cX11_readBy 7 = .ok (.iconst 1, 1) := by decide +kernel
theorem dX11_readBy_8 : decode cX11_readBy 8 = .ok (.iadd, 1) := by decide +kernel
theorem dX11_readBy_9 : decode cX11_readBy 9 = .ok (.iaload, 1) := by decide +kernel
theorem dX11_readBy_10 : decode cX11_readBy 10 = .ok (.istore 7, 2) := by decide +kernel
theorem dX11_readBy_12 : decode cX11_readBy 12 = .ok (.aload_n 0, 1) := by decide +kernel
theorem dX11_readBy_13 : decode cX11_readBy 13 = .ok (.getfield 67, 3) := by decide +kernel
theorem dX11_readBy_16 : decode cX11_readBy 16 = .ok (.iconst (-1), 1) := by decide +kernel
theorem dX11_readBy_17 : decode cX11_readBy 17 = .ok (.if_icmp .ne 18, 3) := by decide +kernel
theorem dX11_readBy_20 : decode cX11_readBy 20 = .ok (.bipush (-99), 2) := by decide +kernel
theorem dX11_readBy_22 : decode cX11_readBy 22 = .ok (.bipush 99, 2) := by decide +kernel
theorem dX11_readBy_24 : decode cX11_readBy 24 = .ok (.iload_n 2, 1) := by decide +kernel
theorem dX11_readBy_25 : decode cX11_readBy 25 = .ok (.iload 7, 2) := by decide +kernel
theorem dX11_readBy_27 : decode cX11_readBy 27 = .ok (.isub, 1) := by decide +kernel
theorem dX11_readBy_28 : decode cX11_readBy 28 = .ok (.invokestatic 316, 3) := by decide +kernel
theorem dX11_readBy_31 : decode cX11_readBy 31 = .ok (.invokestatic 318, 3) := by decide +kernel
theorem dX11_readBy_34 : decode cX11_readBy 34 = .ok (.ireturn, 1) := by decide +kernel
theorem dX11_readBy_35 : decode cX11_readBy 35 = .ok (.aload_n 0, 1) := by decide +kernel
theorem dX11_readBy_36 : decode cX11_readBy 36 = .ok (.iload_n 2, 1) := by decide +kernel
theorem dX11_readBy_37 : decode cX11_readBy 37 = .ok (.iload 7, 2) := by decide +kernel
theorem dX11_readBy_39 : decode cX11_readBy 39 = .ok (.iload_n 3, 1) := by decide +kernel
theorem dX11_readBy_40 : decode cX11_readBy 40 = .ok (.iload 4, 2) := by decide +kernel
theorem dX11_readBy_42 : decode cX11_readBy 42 = .ok (.iload 5, 2) := by decide +kernel
theorem dX11_readBy_44 : decode cX11_readBy 44 = .ok (.iload 6, 2) := by decide +kernel
theorem dX11_readBy_46 : decode cX11_readBy 46 = .ok (.invokevirtual 320, 3) := by decide +kernel
theorem dX11_readBy_49 : decode cX11_readBy 49 = .ok (.ireturn, 1) := by decide +kernel
theorem dX11_readWith_0 : decode cX11_readWith 0 = .ok (.aload_n 0, 1) := by decide +kernel
theorem dX11_readWith_1 : decode cX11_readWith 1 = .ok (.iload_n 2, 1) := by decide +kernel
theorem dX11_readWith_2 : decode cX11_readWith 2 = .ok (.aload_n 0, 1) := by decide +kernel
theorem dX11_readWith_3 : decode cX11_readWith 3 = .ok (.iload_n 3, 1) := by decide +kernel
theorem dX11_readWith_4 : decode cX11_readWith 4 = .ok (.iconst 0, 1) := by decide +kernel
theorem dX11_readWith_5 : decode cX11_readWith 5 = .ok (.invokevirtual 324, 3) := by decide +kernel
theorem dX11_readWith_8 : decode cX11_readWith 8 = .ok (.aload_n 1, 1) := by decide +kernel
theorem dX11_readWith_9 : decode cX11_readWith 9 = .ok (.bipush 10, 2) := by decide +kernel
theorem dX11_readWith_11 : decode cX11_readWith 11 = .ok (.iload_n 2, 1) := by decide +kernel
theorem dX11_readWith_12 : decode cX11_readWith 12 = .ok (.imul, 1) := by decide +kernel
theorem dX11_readWith_13 : decode cX11_readWith 13 = .ok (.iconst 0, 1) := by decide +kernel
theorem dX11_readWith_14 : decode cX11_readWith 14 = .ok (.iadd, 1) := by decide +kernel
theorem dX11_readWith_15 : decode cX11_readWith 15 = .ok (.iaload, 1) := by decide +kernel
theorem dX11_readWith_16 : decode cX11_readWith 16 = .ok (.iload_n 3, 1) := by decide +kernel
theorem dX11_readWith_17 : decode cX11_readWith 17 = .ok (.invokestatic 327, 3) := by decide +kernel
theorem dX11_readWith_20 : decode cX11_readWith 20 = .ok (.aload_n 1, 1) := by decide +kernel
theorem dX11_readWith_21 : decode cX11_readWith 21 = .ok (.bipush 65, 2) := by decide +kernel
theorem dX11_readWith_23 : decode cX11_readWith 23 = .ok (.iaload, 1) := by decide +kernel
theorem dX11_readWith_24 : decode cX11_readWith 24 = .ok (.bipush 7, 2) := by decide +kernel
theorem dX11_readWith_26 : decode cX11_readWith 26 = .ok (.irem, 1) := by decide +kernel
theorem dX11_readWith_27 : decode cX11_readWith 27 = .ok (.aload_n 1, 1) := by decide +kernel
theorem dX11_readWith_28 : decode cX11_readWith 28 = .ok (.bipush 10, 2) := by decide +kernel
theorem dX11_readWith_30 : decode cX11_readWith 30 = .ok (.iload_n 2, 1) := by decide +kernel
theorem dX11_readWith_31 : decode cX11_readWith 31 = .ok (.imul, 1) := by decide +kernel
theorem dX11_readWith_32 : decode cX11_readWith 32 = .ok (.iconst 1, 1) := by decide +kernel
theorem dX11_readWith_33 : decode cX11_readWith 33 = .ok (.iadd, 1) := by decide +kernel
theorem dX11_readWith_34 : decode cX11_readWith 34 = .ok (.iaload, 1) := by decide +kernel
theorem dX11_readWith_35 : decode cX11_readWith 35 = .ok (.invokevirtual 332, 3) := by decide +kernel
theorem dX11_readWith_38 : decode cX11_readWith 38 = .ok (.ireturn, 1) := by decide +kernel
theorem dX11_isGuilty_0 : decode cX11_isGuilty 0 = .ok (.aload_n 0, 1) := by decide +kernel
theorem dX11_isGuilty_1 : decode cX11_isGuilty 1 = .ok (.aload_n 1, 1) := by decide +kernel
theorem dX11_isGuilty_2 : decode cX11_isGuilty 2 = .ok (.iload_n 2, 1) := by decide +kernel
theorem dX11_isGuilty_3 : decode cX11_isGuilty 3 = .ok (.aload_n 0, 1) := by decide +kernel
theorem dX11_isGuilty_4 : decode cX11_isGuilty 4 = .ok (.aload_n 1, 1) := by decide +kernel
theorem dX11_isGuilty_5 : decode cX11_isGuilty 5 = .ok (.iload_n 2, 1) := by decide +kernel
theorem dX11_isGuilty_6 : decode cX11_isGuilty 6 = .ok (.invokevirtual 335, 3) := by decide +kernel
theorem dX11_isGuilty_9 : decode cX11_isGuilty 9 = .ok (.invokevirtual 339, 3) := by decide +kernel
theorem dX11_isGuilty_12 : decode cX11_isGuilty 12 = .ok (.ifCond .le 7, 3) := by decide +kernel
theorem dX11_isGuilty_15 : decode cX11_isGuilty 15 = .ok (.iconst 1, 1) := by decide +kernel
theorem dX11_isGuilty_16 : decode cX11_isGuilty 16 = .ok (.goto 4, 3) := by decide +kernel
theorem dX11_isGuilty_19 : decode cX11_isGuilty 19 = .ok (.iconst 0, 1) := by decide +kernel
theorem dX11_isGuilty_20 : decode cX11_isGuilty 20 = .ok (.ireturn, 1) := by decide +kernel
theorem dX11_person_0 : decode cX11_person 0 = .ok (.aload_n 0, 1) := by decide +kernel
theorem dX11_person_1 : decode cX11_person 1 = .ok (.aload_n 0, 1) := by decide +kernel
theorem dX11_person_2 : decode cX11_person 2 = .ok (.iload_n 1, 1) := by decide +kernel
theorem dX11_person_3 : decode cX11_person 3 = .ok (.invokevirtual 342, 3) := by decide +kernel
theorem dX11_person_6 : decode cX11_person 6 = .ok (.ifCond .eq 19, 3) := by decide +kernel
theorem dX11_person_9 : decode cX11_person 9 = .ok (.iload_n 2, 1) := by decide +kernel
theorem dX11_person_10 : decode cX11_person 10 = .ok (.i2l, 1) := by decide +kernel
theorem dX11_person_11 : decode cX11_person 11 = .ok (.lconst 0, 1) := by decide +kernel
theorem dX11_person_12 : decode cX11_person 12 = .ok (.ldc2_w 345, 3) := by decide +kernel
theorem dX11_person_15 : decode cX11_person 15 = .ok (.invokestatic 211, 3) := by decide +kernel
theorem dX11_person_18 : decode cX11_person 18 = .ok (.ifCond .eq 7, 3) := by decide +kernel
theorem dX11_person_21 : decode cX11_person 21 = .ok (.iconst 0, 1) := by decide +kernel
theorem dX11_person_22 : decode cX11_person 22 = .ok (.goto 4, 3) := by decide +kernel
theorem dX11_person_25 : decode cX11_person 25 = .ok (.iconst 1, 1) := by decide +kernel
theorem dX11_person_26 : decode cX11_person 26 = .ok (.putfield 90, 3) := by decide +kernel
theorem dX11_person_29 : decode cX11_person 29 = .ok (.aload_n 0, 1) := by decide +kernel
theorem dX11_person_30 : decode cX11_person 30 = .ok (.getfield 90, 3) := by decide +kernel
theorem dX11_person_33 : decode cX11_person 33 = .ok (.ifCond .le 5, 3) := by decide +kernel
theorem dX11_person_36 : decode cX11_person 36 = .ok (.iconst 0, 1) := by decide +kernel
theorem dX11_person_37 : decode cX11_person 37 = .ok (.ireturn, 1) := by decide +kernel
theorem dX11_person_38 : decode cX11_person 38 = .ok (.iload_n 2, 1) := by decide +kernel
theorem dX11_person_39 : decode cX11_person 39 = .ok (.tableswitch 69 0 4 #[33, 69, 69, 45, 57], 33) := by decide +kernel
theorem dX11_person_72 : decode cX11_person 72 = .ok (.aload_n 0, 1) := by decide +kernel
theorem dX11_person_73 : decode cX11_person 73 = .ok (.getfield 61, 3) := by decide +kernel
theorem dX11_person_76 : decode cX11_person 76 = .ok (.bipush 10, 2) := by decide +kernel
theorem dX11_person_78 : decode cX11_person 78 = .ok (.iload_n 1, 1) := by decide +kernel
theorem dX11_person_79 : decode cX11_person 79 = .ok (.imul, 1) := by decide +kernel
theorem dX11_person_80 : decode cX11_person 80 = .ok (.iconst 0, 1) := by decide +kernel
theorem dX11_person_81 : decode cX11_person 81 = .ok (.iadd, 1) := by decide +kernel
theorem dX11_person_82 : decode cX11_person 82 = .ok (.iaload, 1) := by decide +kernel
theorem dX11_person_83 : decode cX11_person 83 = .ok (.ireturn, 1) := by decide +kernel
theorem dX11_person_84 : decode cX11_person 84 = .ok (.aload_n 0, 1) := by decide +kernel
theorem dX11_person_85 : decode cX11_person 85 = .ok (.getfield 61, 3) := by decide +kernel
theorem dX11_person_88 : decode cX11_person 88 = .ok (.bipush 10, 2) := by decide +kernel
theorem dX11_person_90 : decode cX11_person 90 = .ok (.iload_n 1, 1) := by decide +kernel
theorem dX11_person_91 : decode cX11_person 91 = .ok (.imul, 1) := by decide +kernel
theorem dX11_person_92 : decode cX11_person 92 = .ok (.iconst 1, 1) := by decide +kernel
theorem dX11_person_93 : decode cX11_person 93 = .ok (.iadd, 1) := by decide +kernel
theorem dX11_person_94 : decode cX11_person 94 = .ok (.iaload, 1) := by decide +kernel
theorem dX11_person_95 : decode cX11_person 95 = .ok (.ireturn, 1) := by decide +kernel
theorem dX11_person_96 : decode cX11_person 96 = .ok (.aload_n 0, 1) := by decide +kernel
theorem dX11_person_97 : decode cX11_person 97 = .ok (.getfield 61, 3) := by decide +kernel
theorem dX11_person_100 : decode cX11_person 100 = .ok (.bipush 60, 2) := by decide +kernel
theorem dX11_person_102 : decode cX11_person 102 = .ok (.iaload, 1) := by decide +kernel
theorem dX11_person_103 : decode cX11_person 103 = .ok (.iload_n 1, 1) := by decide +kernel
theorem dX11_person_104 : decode cX11_person 104 = .ok (.ishr, 1) := by decide +kernel
theorem dX11_person_105 : decode cX11_person 105 = .ok (.iconst 1, 1) := by decide +kernel
theorem dX11_person_106 : decode cX11_person 106 = .ok (.iand, 1) := by decide +kernel
theorem dX11_person_107 : decode cX11_person 107 = .ok (.ireturn, 1) := by decide +kernel
theorem dX11_person_108 : decode cX11_person 108 = .ok (.aload_n 0, 1) := by decide +kernel
theorem dX11_person_109 : decode cX11_person 109 = .ok (.getfield 43, 3) := by decide +kernel
theorem dX11_person_112 : decode cX11_person 112 = .ok (.iconst 3, 1) := by decide +kernel
theorem dX11_person_113 : decode cX11_person 113 = .ok (.iload_n 1, 1) := by decide +kernel
theorem dX11_person_114 : decode cX11_person 114 = .ok (.imul, 1) := by decide +kernel
theorem dX11_person_115 : decode cX11_person 115 = .ok (.iload_n 2, 1) := by decide +kernel
theorem dX11_person_116 : decode cX11_person 116 = .ok (.iadd, 1) := by decide +kernel
theorem dX11_person_117 : decode cX11_person 117 = .ok (.iaload, 1) := by decide +kernel
theorem dX11_person_118 : decode cX11_person 118 = .ok (.ireturn, 1) := by decide +kernel
theorem dX11_deed_0 : decode cX11_deed 0 = .ok (.aload_n 0, 1) := by decide +kernel
theorem dX11_deed_1 : decode cX11_deed 1 = .ok (.iconst 0, 1) := by decide +kernel
theorem dX11_deed_2 : decode cX11_deed 2 = .ok (.putfield 90, 3) := by decide +kernel
theorem dX11_deed_5 : decode cX11_deed 5 = .ok (.aload_n 0, 1) := by decide +kernel
theorem dX11_deed_6 : decode cX11_deed 6 = .ok (.iload_n 1, 1) := by decide +kernel
theorem dX11_deed_7 : decode cX11_deed 7 = .ok (.invokevirtual 347, 3) := by decide +kernel
theorem dX11_deed_10 : decode cX11_deed 10 = .ok (.ifCond .eq 28, 3) := by decide +kernel
theorem dX11_deed_13 : decode cX11_deed 13 = .ok (.iload_n 2, 1) := by decide +kernel
theorem dX11_deed_14 : decode cX11_deed 14 = .ok (.i2l, 1) := by decide +kernel
theorem dX11_deed_15 : decode cX11_deed 15 = .ok (.lconst 0, 1) := by decide +kernel
theorem dX11_deed_16 : decode cX11_deed 16 = .ok (.ldc2_w 266, 3) := by decide +kernel
theorem dX11_deed_19 : decode cX11_deed 19 = .ok (.invokestatic 211, 3) := by decide +kernel
theorem dX11_deed_22 : decode cX11_deed 22 = .ok (.ifCond .eq 16, 3) := by decide +kernel
theorem dX11_deed_25 : decode cX11_deed 25 = .ok (.aload_n 0, 1) := by decide +kernel
theorem dX11_deed_26 : decode cX11_deed 26 = .ok (.getfield 49, 3) := by decide +kernel
theorem dX11_deed_29 : decode cX11_deed 29 = .ok (.iconst 3, 1) := by decide +kernel
theorem dX11_deed_30 : decode cX11_deed 30 = .ok (.iload_n 1, 1) := by decide +kernel
theorem dX11_deed_31 : decode cX11_deed 31 = .ok (.imul, 1) := by decide +kernel
theorem dX11_deed_32 : decode cX11_deed 32 = .ok (.iload_n 2, 1) := by decide +kernel
theorem dX11_deed_33 : decode cX11_deed 33 = .ok (.iadd, 1) := by decide +kernel
theorem dX11_deed_34 : decode cX11_deed 34 = .ok (.iaload, 1) := by decide +kernel
theorem dX11_deed_35 : decode cX11_deed 35 = .ok (.goto 4, 3) := by decide +kernel
theorem dX11_deed_38 : decode cX11_deed 38 = .ok (.iconst (-1), 1) := by decide +kernel
theorem dX11_deed_39 : decode cX11_deed 39 = .ok (.ireturn, 1) := by decide +kernel
theorem dX11_left_0 : decode cX11_left 0 = .ok (.aload_n 0, 1) := by decide +kernel
theorem dX11_left_1 : decode cX11_left 1 = .ok (.iconst 0, 1) := by decide +kernel
theorem dX11_left_2 : decode cX11_left 2 = .ok (.putfield 90, 3) := by decide +kernel
theorem dX11_left_5 : decode cX11_left 5 = .ok (.aload_n 0, 1) := by decide +kernel
theorem dX11_left_6 : decode cX11_left 6 = .ok (.iload_n 1, 1) := by decide +kernel
theorem dX11_left_7 : decode cX11_left 7 = .ok (.invokevirtual 342, 3) := by decide +kernel
theorem dX11_left_10 : decode cX11_left 10 = .ok (.ifCond .eq 23, 3) := by decide +kernel
theorem dX11_left_13 : decode cX11_left 13 = .ok (.aload_n 0, 1) := by decide +kernel
theorem dX11_left_14 : decode cX11_left 14 = .ok (.iload_n 2, 1) := by decide +kernel
theorem dX11_left_15 : decode cX11_left 15 = .ok (.invokevirtual 347, 3) := by decide +kernel
theorem dX11_left_18 : decode cX11_left 18 = .ok (.ifCond .eq 15, 3) := by decide +kernel
theorem dX11_left_21 : decode cX11_left 21 = .ok (.aload_n 0, 1) := by decide +kernel
theorem dX11_left_22 : decode cX11_left 22 = .ok (.getfield 61, 3) := by decide +kernel
theorem dX11_left_25 : decode cX11_left 25 = .ok (.iload_n 1, 1) := by decide +kernel
theorem dX11_left_26 : decode cX11_left 26 = .ok (.iload_n 2, 1) := by decide +kernel
theorem dX11_left_27 : decode cX11_left 27 = .ok (.invokestatic 300, 3) := by decide +kernel
theorem dX11_left_30 : decode cX11_left 30 = .ok (.goto 4, 3) := by decide +kernel
theorem dX11_left_33 : decode cX11_left 33 = .ok (.iconst (-1), 1) := by decide +kernel
theorem dX11_left_34 : decode cX11_left 34 = .ok (.ireturn, 1) := by decide +kernel
theorem dX11_law_0 : decode cX11_law 0 = .ok (.aload_n 0, 1) := by decide +kernel
theorem dX11_law_1 : decode cX11_law 1 = .ok (.iconst 0, 1) := by decide +kernel
theorem dX11_law_2 : decode cX11_law 2 = .ok (.putfield 90, 3) := by decide +kernel
theorem dX11_law_5 : decode cX11_law 5 = .ok (.iload_n 1, 1) := by decide +kernel
theorem dX11_law_6 : decode cX11_law 6 = .ok (.iconst (-1), 1) := by decide +kernel
theorem dX11_law_7 : decode cX11_law 7 = .ok (.if_icmp .eq 21, 3) := by decide +kernel
theorem dX11_law_10 : decode cX11_law 10 = .ok (.iload_n 1, 1) := by decide +kernel
theorem dX11_law_11 : decode cX11_law 11 = .ok (.i2l, 1) := by decide +kernel
theorem dX11_law_12 : decode cX11_law 12 = .ok (.lconst 0, 1) := by decide +kernel
theorem dX11_law_13 : decode cX11_law 13 = .ok (.aload_n 0, 1) := by decide +kernel
theorem dX11_law_14 : decode cX11_law 14 = .ok (.getfield 277, 3) := by decide +kernel
theorem dX11_law_17 : decode cX11_law 17 = .ok (.iconst 1, 1) := by decide +kernel
theorem dX11_law_18 : decode cX11_law 18 = .ok (.isub, 1) := by decide +kernel
theorem dX11_law_19 : decode cX11_law 19 = .ok (.i2l, 1) := by decide +kernel
theorem dX11_law_20 : decode cX11_law 20 = .ok (.invokestatic 211, 3) := by decide +kernel
theorem dX11_law_23 : decode cX11_law 23 = .ok (.ifCond .ne 5, 3) := by decide +kernel
theorem dX11_law_26 : decode cX11_law 26 = .ok (.iconst 0, 1) := by decide +kernel
theorem dX11_law_27 : decode cX11_law 27 = .ok (.ireturn, 1) := by decide +kernel
theorem dX11_law_28 : decode cX11_law 28 = .ok (.aload_n 0, 1) := by decide +kernel
theorem dX11_law_29 : decode cX11_law 29 = .ok (.iload_n 1, 1) := by decide +kernel
theorem dX11_law_30 : decode cX11_law 30 = .ok (.putfield 67, 3) := by decide +kernel
theorem dX11_law_33 : decode cX11_law 33 = .ok (.iconst 1, 1) := by decide +kernel
theorem dX11_law_34 : decode cX11_law 34 = .ok (.ireturn, 1) := by decide +kernel
theorem dX11_rumour_0 : decode cX11_rumour 0 = .ok (.aload_n 0, 1) := by decide +kernel
theorem dX11_rumour_1 : decode cX11_rumour 1 = .ok (.iconst 0, 1) := by decide +kernel
theorem dX11_rumour_2 : decode cX11_rumour 2 = .ok (.putfield 90, 3) := by decide +kernel
theorem dX11_rumour_5 : decode cX11_rumour 5 = .ok (.iload_n 1, 1) := by decide +kernel
theorem dX11_rumour_6 : decode cX11_rumour 6 = .ok (.i2l, 1) := by decide +kernel
theorem dX11_rumour_7 : decode cX11_rumour 7 = .ok (.lconst 0, 1) := by decide +kernel
theorem dX11_rumour_8 : decode cX11_rumour 8 = .ok (.ldc2_w 308, 3) := by decide +kernel
theorem dX11_rumour_11 : decode cX11_rumour 11 = .ok (.invokestatic 211, 3) := by decide +kernel
theorem dX11_rumour_14 : decode cX11_rumour 14 = .ok (.ifCond .eq 11, 3) := by decide +kernel
theorem dX11_rumour_17 : decode cX11_rumour 17 = .ok (.iload_n 1, 1) := by decide +kernel
theorem dX11_rumour_18 : decode cX11_rumour 18 = .ok (.aload_n 0, 1) := by decide +kernel
theorem dX11_rumour_19 : decode cX11_rumour 19 = .ok (.getfield 71, 3) := by decide +kernel
theorem dX11_rumour_22 : decode cX11_rumour 22 = .ok (.if_icmp .ne 5, 3) := by decide +kernel
theorem dX11_rumour_25 : decode cX11_rumour 25 = .ok (.iconst 0, 1) := by decide +kernel
theorem dX11_rumour_26 : decode cX11_rumour 26 = .ok (.ireturn, 1) := by decide +kernel
theorem dX11_rumour_27 : decode cX11_rumour 27 = .ok (.aload_n 0, 1) := by decide +kernel
theorem dX11_rumour_28 : decode cX11_rumour 28 = .ok (.iload_n 1, 1) := by decide +kernel
theorem dX11_rumour_29 : decode cX11_rumour 29 = .ok (.putfield 71, 3) := by decide +kernel
theorem dX11_rumour_32 : decode cX11_rumour 32 = .ok (.iconst 1, 1) := by decide +kernel
theorem dX11_rumour_33 : decode cX11_rumour 33 = .ok (.ireturn, 1) := by decide +kernel
theorem dX11_remember_0 : decode cX11_remember 0 = .ok (.aload_n 0, 1) := by decide +kernel
theorem dX11_remember_1 : decode cX11_remember 1 = .ok (.getfield 294, 3) := by decide +kernel
theorem dX11_remember_4 : decode cX11_remember 4 = .ok (.bipush 40, 2) := by decide +kernel
theorem dX11_remember_6 : decode cX11_remember 6 = .ok (.if_icmp .ne 44, 3) := by decide +kernel
theorem dX11_remember_9 : decode cX11_remember 9 = .ok (.iconst 0, 1) := by decide +kernel
theorem dX11_remember_10 : decode cX11_remember 10 = .ok (.istore_n 1, 1) := by decide +kernel
theorem dX11_remember_11 : decode cX11_remember 11 = .ok (.iload_n 1, 1) := by decide +kernel
theorem dX11_remember_12 : decode cX11_remember 12 = .ok (.sipush 9672, 3) := by decide +kernel
theorem dX11_remember_15 : decode cX11_remember 15 = .ok (.if_icmp .ge 25, 3) := by decide +kernel
theorem dX11_remember_18 : decode cX11_remember 18 = .ok (.aload_n 0, 1) := by decide +kernel
theorem dX11_remember_19 : decode cX11_remember 19 = .ok (.getfield 81, 3) := by decide +kernel
theorem dX11_remember_22 : decode cX11_remember 22 = .ok (.iload_n 1, 1) := by decide +kernel
theorem dX11_remember_23 : decode cX11_remember 23 = .ok (.aload_n 0, 1) := by decide +kernel
theorem dX11_remember_24 : decode cX11_remember 24 = .ok (.getfield 81, 3) := by decide +kernel
theorem dX11_remember_27 : decode cX11_remember 27 = .ok (.iload_n 1, 1) := by decide +kernel
theorem dX11_remember_28 : decode cX11_remember 28 = .ok (.sipush 248, 3) := by decide +kernel
theorem dX11_remember_31 : decode cX11_remember 31 = .ok (.iadd, 1) := by decide +kernel
theorem dX11_remember_32 : decode cX11_remember 32 = .ok (.iaload, 1) := by decide +kernel
theorem dX11_remember_33 : decode cX11_remember 33 = .ok (.iastore, 1) := by decide +kernel
theorem dX11_remember_34 : decode cX11_remember 34 = .ok (.iinc 1 1, 3) := by decide +kernel
theorem dX11_remember_37 : decode cX11_remember 37 = .ok (.goto (-26), 3) := by decide +kernel
theorem dX11_remember_40 : decode cX11_remember 40 = .ok (.aload_n 0, 1) := by decide +kernel
theorem dX11_remember_41 : decode cX11_remember 41 = .ok (.dup, 1) := by decide +kernel
theorem dX11_remember_42 : decode cX11_remember 42 = .ok (.getfield 294, 3) := by decide +kernel
theorem dX11_remember_45 : decode cX11_remember 45 = .ok (.iconst 1, 1) := by decide +kernel
theorem dX11_remember_46 : decode cX11_remember 46 = .ok (.isub, 1) := by decide +kernel
theorem dX11_remember_47 : decode cX11_remember 47 = .ok (.putfield 294, 3) := by decide +kernel
theorem dX11_remember_50 : decode cX11_remember 50 = .ok (.iconst 0, 1) := by decide +kernel
theorem dX11_remember_51 : decode cX11_remember 51 = .ok (.istore_n 1, 1) := by decide +kernel
theorem dX11_remember_52 : decode cX11_remember 52 = .ok (.iload_n 1, 1) := by decide +kernel
theorem dX11_remember_53 : decode cX11_remember 53 = .ok (.sipush 248, 3) := by decide +kernel
theorem dX11_remember_56 : decode cX11_remember 56 = .ok (.if_icmp .ge 30, 3) := by decide +kernel
theorem dX11_remember_59 : decode cX11_remember 59 = .ok (.aload_n 0, 1) := by decide +kernel
theorem dX11_remember_60 : decode cX11_remember 60 = .ok (.getfield 81, 3) := by decide +kernel
theorem dX11_remember_63 : decode cX11_remember 63 = .ok (.sipush 248, 3) := by decide +kernel
theorem dX11_remember_66 : decode cX11_remember 66 = .ok (.aload_n 0, 1) := by decide +kernel
theorem dX11_remember_67 : decode cX11_remember 67 = .ok (.getfield 294, 3) := by decide +kernel
theorem dX11_remember_70 : decode cX11_remember 70 = .ok (.imul, 1) := by decide +kernel
theorem dX11_remember_71 : decode cX11_remember 71 = .ok (.iload_n 1, 1) := by decide +kernel
theorem dX11_remember_72 : decode cX11_remember 72 = .ok (.iadd, 1) := by decide +kernel
theorem dX11_remember_73 : decode cX11_remember 73 = .ok (.aload_n 0, 1) := by decide +kernel
theorem dX11_remember_74 : decode cX11_remember 74 = .ok (.getfield 61, 3) := by decide +kernel
theorem dX11_remember_77 : decode cX11_remember 77 = .ok (.iload_n 1, 1) := by decide +kernel
theorem dX11_remember_78 : decode cX11_remember 78 = .ok (.iaload, 1) := by decide +kernel
theorem dX11_remember_79 : decode cX11_remember 79 = .ok (.iastore, 1) := by decide +kernel
theorem dX11_remember_80 : decode cX11_remember 80 = .ok (.iinc 1 1, 3) := by decide +kernel
theorem dX11_remember_83 : decode cX11_remember 83 = .ok (.goto (-31), 3) := by decide +kernel
theorem dX11_remember_86 : decode cX11_remember 86 = .ok (.aload_n 0, 1) := by decide +kernel
theorem dX11_remember_87 : decode cX11_remember 87 = .ok (.dup, 1) := by decide +kernel
theorem dX11_remember_88 : decode cX11_remember 88 = .ok (.getfield 294, 3) := by decide +kernel
theorem dX11_remember_91 : decode cX11_remember 91 = .ok (.iconst 1, 1) := by decide +kernel
theorem dX11_remember_92 : decode cX11_remember 92 = .ok (.iadd, 1) := by decide +kernel
theorem dX11_remember_93 : decode cX11_remember 93 = .ok (.putfield 294, 3) := by decide +kernel
theorem dX11_remember_96 : decode cX11_remember 96 = .ok (.return_, 1) := by decide +kernel
theorem dX11_canCommit_0 : decode cX11_canCommit 0 = .ok (.aload_n 0, 1) := by decide +kernel
theorem dX11_canCommit_1 : decode cX11_canCommit 1 = .ok (.iload_n 2, 1) := by decide +kernel
theorem dX11_canCommit_2 : decode cX11_canCommit 2 = .ok (.invokevirtual 342, 3) := by decide +kernel
theorem dX11_canCommit_5 : decode cX11_canCommit 5 = .ok (.ifCond .eq 24, 3) := by decide +kernel
theorem dX11_canCommit_8 : decode cX11_canCommit 8 = .ok (.aload_n 0, 1) := by decide +kernel
theorem dX11_canCommit_9 : decode cX11_canCommit 9 = .ok (.iload_n 3, 1) := by decide +kernel
theorem dX11_canCommit_10 : decode cX11_canCommit 10 = .ok (.invokevirtual 347, 3) := by decide +kernel
theorem dX11_canCommit_13 : decode cX11_canCommit 13 = .ok (.ifCond .eq 16, 3) := by decide +kernel
theorem dX11_canCommit_16 : decode cX11_canCommit 16 = .ok (.aload_n 1, 1) := by decide +kernel
theorem dX11_canCommit_17 : decode cX11_canCommit 17 = .ok (.iload_n 2, 1) := by decide +kernel
theorem dX11_canCommit_18 : decode cX11_canCommit 18 = .ok (.iload_n 3, 1) := by decide +kernel
theorem dX11_canCommit_19 : decode cX11_canCommit 19 = .ok (.invokestatic 300, 3) := by decide +kernel
theorem dX11_canCommit_22 : decode cX11_canCommit 22 = .ok (.ifCond .ne 7, 3) := by decide +kernel
theorem dX11_canCommit_25 : decode cX11_canCommit 25 = .ok (.iconst 1, 1) := by decide +kernel
theorem dX11_canCommit_26 : decode cX11_canCommit 26 = .ok (.goto 4, 3) := by decide +kernel
theorem dX11_canCommit_29 : decode cX11_canCommit 29 = .ok (.iconst 0, 1) := by decide +kernel
theorem dX11_canCommit_30 : decode cX11_canCommit 30 = .ok (.ireturn, 1) := by decide +kernel
theorem dX11_commits_0 : decode cX11_commits 0 = .ok (.aload_n 1, 1) := by decide +kernel
theorem dX11_commits_1 : decode cX11_commits 1 = .ok (.bipush 10, 2) := by decide +kernel
theorem dX11_commits_3 : decode cX11_commits 3 = .ok (.iload_n 2, 1) := by decide +kernel
theorem dX11_commits_4 : decode cX11_commits 4 = .ok (.imul, 1) := by decide +kernel
theorem dX11_commits_5 : decode cX11_commits 5 = .ok (.iconst 2, 1) := by decide +kernel
theorem dX11_commits_6 : decode cX11_commits 6 = .ok (.iadd, 1) := by decide +kernel
theorem dX11_commits_7 : decode cX11_commits 7 = .ok (.iload_n 3, 1) := by decide +kernel
theorem dX11_commits_8 : decode cX11_commits 8 = .ok (.iadd, 1) := by decide +kernel
theorem dX11_commits_9 : decode cX11_commits 9 = .ok (.aload_n 0, 1) := by decide +kernel
theorem dX11_commits_10 : decode cX11_commits 10 = .ok (.getfield 49, 3) := by decide +kernel
theorem dX11_commits_13 : decode cX11_commits 13 = .ok (.iconst 3, 1) := by decide +kernel
theorem dX11_commits_14 : decode cX11_commits 14 = .ok (.iload_n 3, 1) := by decide +kernel
theorem dX11_commits_15 : decode cX11_commits 15 = .ok (.imul, 1) := by decide +kernel
theorem dX11_commits_16 : decode cX11_commits 16 = .ok (.iconst 2, 1) := by decide +kernel
theorem dX11_commits_17 : decode cX11_commits 17 = .ok (.iadd, 1) := by decide +kernel
theorem dX11_commits_18 : decode cX11_commits 18 = .ok (.iaload, 1) := by decide +kernel
theorem dX11_commits_19 : decode cX11_commits 19 = .ok (.iastore, 1) := by decide +kernel
theorem dX11_commits_20 : decode cX11_commits 20 = .ok (.aload_n 1, 1) := by decide +kernel
theorem dX11_commits_21 : decode cX11_commits 21 = .ok (.bipush 61, 2) := by decide +kernel
theorem dX11_commits_23 : decode cX11_commits 23 = .ok (.sipush 9999, 3) := by decide +kernel
theorem dX11_commits_26 : decode cX11_commits 26 = .ok (.aload_n 1, 1) := by decide +kernel
theorem dX11_commits_27 : decode cX11_commits 27 = .ok (.bipush 61, 2) := by decide +kernel
theorem dX11_commits_29 : decode cX11_commits 29 = .ok (.iaload, 1) := by decide +kernel
theorem dX11_commits_30 : decode cX11_commits 30 = .ok (.aload_n 0, 1) := by decide +kernel
theorem dX11_commits_31 : decode cX11_commits 31 = .ok (.getfield 49, 3) := by decide +kernel
theorem dX11_commits_34 : decode cX11_commits 34 = .ok (.iconst 3, 1) := by decide +kernel
theorem dX11_commits_35 : decode cX11_commits 35 = .ok (.iload_n 3, 1) := by decide +kernel
theorem dX11_commits_36 : decode cX11_commits 36 = .ok (.imul, 1) := by decide +kernel
theorem dX11_commits_37 : decode cX11_commits 37 = .ok (.iconst 1, 1) := by decide +kernel
theorem dX11_commits_38 : decode cX11_commits 38 = .ok (.iadd, 1) := by decide +kernel
theorem dX11_commits_39 : decode cX11_commits 39 = .ok (.iaload, 1) := by decide +kernel
theorem dX11_commits_40 : decode cX11_commits 40 = .ok (.iadd, 1) := by decide +kernel
theorem dX11_commits_41 : decode cX11_commits 41 = .ok (.invokestatic 316, 3) := by decide +kernel
theorem dX11_commits_44 : decode cX11_commits 44 = .ok (.iastore, 1) := by decide +kernel
theorem dX11_commits_45 : decode cX11_commits 45 = .ok (.return_, 1) := by decide +kernel
theorem dX11_guiltOf_0 : decode cX11_guiltOf 0 = .ok (.aload_n 0, 1) := by decide +kernel
theorem dX11_guiltOf_1 : decode cX11_guiltOf 1 = .ok (.aload_n 0, 1) := by decide +kernel
theorem dX11_guiltOf_2 : decode cX11_guiltOf 2 = .ok (.aload_n 0, 1) := by decide +kernel
theorem dX11_guiltOf_3 : decode cX11_guiltOf 3 = .ok (.getfield 61, 3) := by decide +kernel
theorem dX11_guiltOf_6 : decode cX11_guiltOf 6 = .ok (.iload_n 1, 1) := by decide +kernel
theorem dX11_guiltOf_7 : decode cX11_guiltOf 7 = .ok (.invokevirtual 335, 3) := by decide +kernel
theorem dX11_guiltOf_10 : decode cX11_guiltOf 10 = .ok (.iconst 0, 1) := by decide +kernel
theorem dX11_guiltOf_11 : decode cX11_guiltOf 11 = .ok (.invokevirtual 324, 3) := by decide +kernel
theorem dX11_guiltOf_14 : decode cX11_guiltOf 14 = .ok (.ireturn, 1) := by decide +kernel
theorem dX11_commit_0 : decode cX11_commit 0 = .ok (.aload_n 0, 1) := by decide +kernel
theorem dX11_commit_1 : decode cX11_commit 1 = .ok (.iconst 0, 1) := by decide +kernel
theorem dX11_commit_2 : decode cX11_commit 2 = .ok (.putfield 90, 3) := by decide +kernel
theorem dX11_commit_5 : decode cX11_commit 5 = .ok (.aload_n 0, 1) := by decide +kernel
theorem dX11_commit_6 : decode cX11_commit 6 = .ok (.aload_n 0, 1) := by decide +kernel
theorem dX11_commit_7 : decode cX11_commit 7 = .ok (.getfield 61, 3) := by decide +kernel
theorem dX11_commit_10 : decode cX11_commit 10 = .ok (.iload_n 1, 1) := by decide +kernel
theorem dX11_commit_11 : decode cX11_commit 11 = .ok (.iload_n 2, 1) := by decide +kernel
theorem dX11_commit_12 : decode cX11_commit 12 = .ok (.invokevirtual 350, 3) := by decide +kernel
theorem dX11_commit_15 : decode cX11_commit 15 = .ok (.ifCond .ne 5, 3) := by decide +kernel
theorem dX11_commit_18 : decode cX11_commit 18 = .ok (.iconst (-1), 1) := by decide +kernel
theorem dX11_commit_19 : decode cX11_commit 19 = .ok (.ireturn, 1) := by decide +kernel
theorem dX11_commit_20 : decode cX11_commit 20 = .ok (.aload_n 0, 1) := by decide +kernel
theorem dX11_commit_21 : decode cX11_commit 21 = .ok (.invokevirtual 354, 3) := by decide +kernel
theorem dX11_commit_24 : decode cX11_commit 24 = .ok (.aload_n 0, 1) := by decide +kernel
theorem dX11_commit_25 : decode cX11_commit 25 = .ok (.aload_n 0, 1) := by decide +kernel
theorem dX11_commit_26 : decode cX11_commit 26 = .ok (.getfield 61, 3) := by decide +kernel
theorem dX11_commit_29 : decode cX11_commit 29 = .ok (.iload_n 1, 1) := by decide +kernel
theorem dX11_commit_30 : decode cX11_commit 30 = .ok (.iload_n 2, 1) := by decide +kernel
theorem dX11_commit_31 : decode cX11_commit 31 = .ok (.invokevirtual 357, 3) := by decide +kernel
theorem dX11_commit_34 : decode cX11_commit 34 = .ok (.aload_n 0, 1) := by decide +kernel
theorem dX11_commit_35 : decode cX11_commit 35 = .ok (.iload_n 1, 1) := by decide +kernel
theorem dX11_commit_36 : decode cX11_commit 36 = .ok (.invokevirtual 361, 3) := by decide +kernel
theorem dX11_commit_39 : decode cX11_commit 39 = .ok (.ireturn, 1) := by decide +kernel
theorem dX11_sell_0 : decode cX11_sell 0 = .ok (.aload_n 0, 1) := by decide +kernel
theorem dX11_sell_1 : decode cX11_sell 1 = .ok (.iconst 0, 1) := by decide +kernel
theorem dX11_sell_2 : decode cX11_sell 2 = .ok (.putfield 90, 3) := by decide +kernel
theorem dX11_sell_5 : decode cX11_sell 5 = .ok (.aload_n 0, 1) := by decide +kernel
theorem dX11_sell_6 : decode cX11_sell 6 = .ok (.iload_n 1, 1) := by decide +kernel
theorem dX11_sell_7 : decode cX11_sell 7 = .ok (.invokevirtual 342, 3) := by decide +kernel
theorem dX11_sell_10 : decode cX11_sell 10 = .ok (.ifCond .eq 59, 3) := by decide +kernel
theorem dX11_sell_13 : decode cX11_sell 13 = .ok (.aload_n 0, 1) := by decide +kernel
theorem dX11_sell_14 : decode cX11_sell 14 = .ok (.iload_n 2, 1) := by decide +kernel
theorem dX11_sell_15 : decode cX11_sell 15 = .ok (.invokevirtual 342, 3) := by decide +kernel
theorem dX11_sell_18 : decode cX11_sell 18 = .ok (.ifCond .eq 51, 3) := by decide +kernel
theorem dX11_sell_21 : decode cX11_sell 21 = .ok (.aload_n 0, 1) := by decide +kernel
theorem dX11_sell_22 : decode cX11_sell 22 = .ok (.iload_n 3, 1) := by decide +kernel
theorem dX11_sell_23 : decode cX11_sell 23 = .ok (.invokevirtual 347, 3) := by decide +kernel
theorem dX11_sell_26 : decode cX11_sell 26 = .ok (.ifCond .eq 43, 3) := by decide +kernel
theorem dX11_sell_29 : decode cX11_sell 29 = .ok (.iload_n 1, 1) := by decide +kernel
theorem dX11_sell_30 : decode cX11_sell 30 = .ok (.iload_n 2, 1) := by decide +kernel
theorem dX11_sell_31 : decode cX11_sell 31 = .ok (.if_icmp .eq 38, 3) := by decide +kernel
theorem dX11_sell_34 : decode cX11_sell 34 = .ok (.aload_n 0, 1) := by decide +kernel
theorem dX11_sell_35 : decode cX11_sell 35 = .ok (.getfield 61, 3) := by decide +kernel
theorem dX11_sell_38 : decode cX11_sell 38 = .ok (.iload_n 1, 1) := by decide +kernel
theorem dX11_sell_39 : decode cX11_sell 39 = .ok (.iload_n 3, 1) := by decide +kernel
theorem dX11_sell_40 : decode cX11_sell 40 = .ok (.invokestatic 300, 3) := by decide +kernel
theorem dX11_sell_43 : decode cX11_sell 43 = .ok (.ifCond .eq 26, 3) := by decide +kernel
theorem dX11_sell_46 : decode cX11_sell 46 = .ok (.aload_n 0, 1) := by decide +kernel
theorem dX11_sell_47 : decode cX11_sell 47 = .ok (.getfield 61, 3) := by decide +kernel
theorem dX11_sell_50 : decode cX11_sell 50 = .ok (.iload_n 2, 1) := by decide +kernel
theorem dX11_sell_51 : decode cX11_sell 51 = .ok (.iload_n 3, 1) := by decide +kernel
theorem dX11_sell_52 : decode cX11_sell 52 = .ok (.invokestatic 300, 3) := by decide +kernel
theorem dX11_sell_55 : decode cX11_sell 55 = .ok (.ifCond .gt 14, 3) := by decide +kernel
theorem dX11_sell_58 : decode cX11_sell 58 = .ok (.aload_n 0, 1) := by decide +kernel
theorem dX11_sell_59 : decode cX11_sell 59 = .ok (.getfield 61, 3) := by decide +kernel
theorem dX11_sell_62 : decode cX11_sell 62 = .ok (.bipush 64, 2) := by decide +kernel
theorem dX11_sell_64 : decode cX11_sell 64 = .ok (.iaload, 1) := by decide +kernel
theorem dX11_sell_65 : decode cX11_sell 65 = .ok (.iconst 1, 1) := by decide +kernel
theorem dX11_sell_66 : decode cX11_sell 66 = .ok (.if_icmp .ge 5, 3) := by decide +kernel
theorem dX11_sell_69 : decode cX11_sell 69 = .ok (.iconst (-1), 1) := by decide +kernel
theorem dX11_sell_70 : decode cX11_sell 70 = .ok (.ireturn, 1) := by decide +kernel
theorem dX11_sell_71 : decode cX11_sell 71 = .ok (.aload_n 0, 1) := by decide +kernel
theorem dX11_sell_72 : decode cX11_sell 72 = .ok (.invokevirtual 354, 3) := by decide +kernel
theorem dX11_sell_75 : decode cX11_sell 75 = .ok (.aload_n 0, 1) := by decide +kernel
theorem dX11_sell_76 : decode cX11_sell 76 = .ok (.getfield 61, 3) := by decide +kernel
theorem dX11_sell_79 : decode cX11_sell 79 = .ok (.bipush 64, 2) := by decide +kernel
theorem dX11_sell_81 : decode cX11_sell 81 = .ok (.dup2, 1) := by decide +kernel
theorem dX11_sell_82 : decode cX11_sell 82 = .ok (.iaload, 1) := by decide +kernel
theorem dX11_sell_83 : decode cX11_sell 83 = .ok (.iconst 1, 1) := by decide +kernel
theorem dX11_sell_84 : decode cX11_sell 84 = .ok (.isub, 1) := by decide +kernel
theorem dX11_sell_85 : decode cX11_sell 85 = .ok (.iastore, 1) := by decide +kernel
theorem dX11_sell_86 : decode cX11_sell 86 = .ok (.aload_n 0, 1) := by decide +kernel
theorem dX11_sell_87 : decode cX11_sell 87 = .ok (.getfield 61, 3) := by decide +kernel
theorem dX11_sell_90 : decode cX11_sell 90 = .ok (.bipush 10, 2) := by decide +kernel
theorem dX11_sell_92 : decode cX11_sell 92 = .ok (.iload_n 2, 1) := by decide +kernel
theorem dX11_sell_93 : decode cX11_sell 93 = .ok (.imul, 1) := by decide +kernel
theorem dX11_sell_94 : decode cX11_sell 94 = .ok (.iconst 2, 1) := by decide +kernel
theorem dX11_sell_95 : decode cX11_sell 95 = .ok (.iadd, 1) := by decide +kernel
theorem dX11_sell_96 : decode cX11_sell 96 = .ok (.iload_n 3, 1) := by decide +kernel
theorem dX11_sell_97 : decode cX11_sell 97 = .ok (.iadd, 1) := by decide +kernel
theorem dX11_sell_98 : decode cX11_sell 98 = .ok (.aload_n 0, 1) := by decide +kernel
theorem dX11_sell_99 : decode cX11_sell 99 = .ok (.getfield 61, 3) := by decide +kernel
theorem dX11_sell_102 : decode cX11_sell 102 = .ok (.iload_n 1, 1) := by decide +kernel
theorem dX11_sell_103 : decode cX11_sell 103 = .ok (.iload_n 3, 1) := by decide +kernel
theorem dX11_sell_104 : decode cX11_sell 104 = .ok (.invokestatic 300, 3) := by decide +kernel
theorem dX11_sell_107 : decode cX11_sell 107 = .ok (.iastore, 1) := by decide +kernel
theorem dX11_sell_108 : decode cX11_sell 108 = .ok (.aload_n 0, 1) := by decide +kernel
theorem dX11_sell_109 : decode cX11_sell 109 = .ok (.getfield 61, 3) := by decide +kernel
theorem dX11_sell_112 : decode cX11_sell 112 = .ok (.bipush 10, 2) := by decide +kernel
theorem dX11_sell_114 : decode cX11_sell 114 = .ok (.iload_n 1, 1) := by decide +kernel
theorem dX11_sell_115 : decode cX11_sell 115 = .ok (.imul, 1) := by decide +kernel
theorem dX11_sell_116 : decode cX11_sell 116 = .ok (.iconst 2, 1) := by decide +kernel
theorem dX11_sell_117 : decode cX11_sell 117 = .ok (.iadd, 1) := by decide +kernel
theorem dX11_sell_118 : decode cX11_sell 118 = .ok (.iload_n 3, 1) := by decide +kernel
theorem dX11_sell_119 : decode cX11_sell 119 = .ok (.iadd, 1) := by decide +kernel
theorem dX11_sell_120 : decode cX11_sell 120 = .ok (.iconst 0, 1) := by decide +kernel
theorem dX11_sell_121 : decode cX11_sell 121 = .ok (.iastore, 1) := by decide +kernel
theorem dX11_sell_122 : decode cX11_sell 122 = .ok (.aload_n 0, 1) := by decide +kernel
theorem dX11_sell_123 : decode cX11_sell 123 = .ok (.getfield 61, 3) := by decide +kernel
theorem dX11_sell_126 : decode cX11_sell 126 = .ok (.iload_n 2, 1) := by decide +kernel
theorem dX11_sell_127 : decode cX11_sell 127 = .ok (.iload_n 3, 1) := by decide +kernel
theorem dX11_sell_128 : decode cX11_sell 128 = .ok (.invokestatic 300, 3) := by decide +kernel
theorem dX11_sell_131 : decode cX11_sell 131 = .ok (.ireturn, 1) := by decide +kernel
theorem dX11_canAtone_0 : decode cX11_canAtone 0 = .ok (.aload_n 0, 1) := by decide +kernel
theorem dX11_canAtone_1 : decode cX11_canAtone 1 = .ok (.iload_n 2, 1) := by decide +kernel
theorem dX11_canAtone_2 : decode cX11_canAtone 2 = .ok (.invokevirtual 342, 3) := by decide +kernel
theorem dX11_canAtone_5 : decode cX11_canAtone 5 = .ok (.ifCond .eq 32, 3) := by decide +kernel
theorem dX11_canAtone_8 : decode cX11_canAtone 8 = .ok (.aload_n 0, 1) := by decide +kernel
theorem dX11_canAtone_9 : decode cX11_canAtone 9 = .ok (.iload_n 3, 1) := by decide +kernel
theorem dX11_canAtone_10 : decode cX11_canAtone 10 = .ok (.invokevirtual 347, 3) := by decide +kernel
theorem dX11_canAtone_13 : decode cX11_canAtone 13 = .ok (.ifCond .eq 24, 3) := by decide +kernel
theorem dX11_canAtone_16 : decode cX11_canAtone 16 = .ok (.aload_n 1, 1) := by decide +kernel
theorem dX11_canAtone_17 : decode cX11_canAtone 17 = .ok (.iload_n 2, 1) := by decide +kernel
theorem dX11_canAtone_18 : decode cX11_canAtone 18 = .ok (.iload_n 3, 1) := by decide +kernel
theorem dX11_canAtone_19 : decode cX11_canAtone 19 = .ok (.invokestatic 300, 3) := by decide +kernel
theorem dX11_canAtone_22 : decode cX11_canAtone 22 = .ok (.ifCond .le 15, 3) := by decide +kernel
theorem dX11_canAtone_25 : decode cX11_canAtone 25 = .ok (.aload_n 1, 1) := by decide +kernel
theorem dX11_canAtone_26 : decode cX11_canAtone 26 = .ok (.bipush 64, 2) := by decide +kernel
theorem dX11_canAtone_28 : decode cX11_canAtone 28 = .ok (.iaload, 1) := by decide +kernel
theorem dX11_canAtone_29 : decode cX11_canAtone 29 = .ok (.iconst 2, 1) := by decide +kernel
theorem dX11_canAtone_30 : decode cX11_canAtone 30 = .ok (.if_icmp .lt 7, 3) := by decide +kernel
theorem dX11_canAtone_33 : decode cX11_canAtone 33 = .ok (.iconst 1, 1) := by decide +kernel
theorem dX11_canAtone_34 : decode cX11_canAtone 34 = .ok (.goto 4, 3) := by decide +kernel
theorem dX11_canAtone_37 : decode cX11_canAtone 37 = .ok (.iconst 0, 1) := by decide +kernel
theorem dX11_canAtone_38 : decode cX11_canAtone 38 = .ok (.ireturn, 1) := by decide +kernel
theorem dX11_atones_0 : decode cX11_atones 0 = .ok (.aload_n 0, 1) := by decide +kernel
theorem dX11_atones_1 : decode cX11_atones 1 = .ok (.bipush 64, 2) := by decide +kernel
theorem dX11_atones_3 : decode cX11_atones 3 = .ok (.dup2, 1) := by decide +kernel
theorem dX11_atones_4 : decode cX11_atones 4 = .ok (.iaload, 1) := by decide +kernel
theorem dX11_atones_5 : decode cX11_atones 5 = .ok (.iconst 2, 1) := by decide +kernel
theorem dX11_atones_6 : decode cX11_atones 6 = .ok (.isub, 1) := by decide +kernel
theorem dX11_atones_7 : decode cX11_atones 7 = .ok (.iastore, 1) := by decide +kernel
theorem dX11_atones_8 : decode cX11_atones 8 = .ok (.aload_n 0, 1) := by decide +kernel
theorem dX11_atones_9 : decode cX11_atones 9 = .ok (.bipush 10, 2) := by decide +kernel
theorem dX11_atones_11 : decode cX11_atones 11 = .ok (.iload_n 1, 1) := by decide +kernel
theorem dX11_atones_12 : decode cX11_atones 12 = .ok (.imul, 1) := by decide +kernel
theorem dX11_atones_13 : decode cX11_atones 13 = .ok (.iconst 2, 1) := by decide +kernel
theorem dX11_atones_14 : decode cX11_atones 14 = .ok (.iadd, 1) := by decide +kernel
theorem dX11_atones_15 : decode cX11_atones 15 = .ok (.iload_n 2, 1) := by decide +kernel
theorem dX11_atones_16 : decode cX11_atones 16 = .ok (.iadd, 1) := by decide +kernel
theorem dX11_atones_17 : decode cX11_atones 17 = .ok (.iconst 0, 1) := by decide +kernel
theorem dX11_atones_18 : decode cX11_atones 18 = .ok (.iastore, 1) := by decide +kernel
theorem dX11_atones_19 : decode cX11_atones 19 = .ok (.return_, 1) := by decide +kernel
theorem dX11_atone_0 : decode cX11_atone 0 = .ok (.aload_n 0, 1) := by decide +kernel
theorem dX11_atone_1 : decode cX11_atone 1 = .ok (.iconst 0, 1) := by decide +kernel
theorem dX11_atone_2 : decode cX11_atone 2 = .ok (.putfield 90, 3) := by decide +kernel
theorem dX11_atone_5 : decode cX11_atone 5 = .ok (.aload_n 0, 1) := by decide +kernel
theorem dX11_atone_6 : decode cX11_atone 6 = .ok (.aload_n 0, 1) := by decide +kernel
theorem dX11_atone_7 : decode cX11_atone 7 = .ok (.getfield 61, 3) := by decide +kernel
theorem dX11_atone_10 : decode cX11_atone 10 = .ok (.iload_n 1, 1) := by decide +kernel
theorem dX11_atone_11 : decode cX11_atone 11 = .ok (.iload_n 2, 1) := by decide +kernel
theorem dX11_atone_12 : decode cX11_atone 12 = .ok (.invokevirtual 364, 3) := by decide +kernel
theorem dX11_atone_15 : decode cX11_atone 15 = .ok (.ifCond .ne 5, 3) := by decide +kernel
theorem dX11_atone_18 : decode cX11_atone 18 = .ok (.iconst (-1), 1) := by decide +kernel
theorem dX11_atone_19 : decode cX11_atone 19 = .ok (.ireturn, 1) := by decide +kernel
theorem dX11_atone_20 : decode cX11_atone 20 = .ok (.aload_n 0, 1) := by decide +kernel
theorem dX11_atone_21 : decode cX11_atone 21 = .ok (.invokevirtual 354, 3) := by decide +kernel
theorem dX11_atone_24 : decode cX11_atone 24 = .ok (.aload_n 0, 1) := by decide +kernel
theorem dX11_atone_25 : decode cX11_atone 25 = .ok (.getfield 61, 3) := by decide +kernel
theorem dX11_atone_28 : decode cX11_atone 28 = .ok (.iload_n 1, 1) := by decide +kernel
theorem dX11_atone_29 : decode cX11_atone 29 = .ok (.iload_n 2, 1) := by decide +kernel
theorem dX11_atone_30 : decode cX11_atone 30 = .ok (.invokestatic 367, 3) := by decide +kernel
theorem dX11_atone_33 : decode cX11_atone 33 = .ok (.aload_n 0, 1) := by decide +kernel
theorem dX11_atone_34 : decode cX11_atone 34 = .ok (.iload_n 1, 1) := by decide +kernel
theorem dX11_atone_35 : decode cX11_atone 35 = .ok (.invokevirtual 361, 3) := by decide +kernel
theorem dX11_atone_38 : decode cX11_atone 38 = .ok (.ireturn, 1) := by decide +kernel
theorem dX11_canGo_0 : decode cX11_canGo 0 = .ok (.aload_n 0, 1) := by decide +kernel
theorem dX11_canGo_1 : decode cX11_canGo 1 = .ok (.iload_n 2, 1) := by decide +kernel
theorem dX11_canGo_2 : decode cX11_canGo 2 = .ok (.invokevirtual 342, 3) := by decide +kernel
theorem dX11_canGo_5 : decode cX11_canGo 5 = .ok (.ifCond .eq 18, 3) := by decide +kernel
theorem dX11_canGo_8 : decode cX11_canGo 8 = .ok (.aload_n 1, 1) := by decide +kernel
theorem dX11_canGo_9 : decode cX11_canGo 9 = .ok (.bipush 60, 2) := by decide +kernel
theorem dX11_canGo_11 : decode cX11_canGo 11 = .ok (.iaload, 1) := by decide +kernel
theorem dX11_canGo_12 : decode cX11_canGo 12 = .ok (.iload_n 2, 1) := by decide +kernel
theorem dX11_canGo_13 : decode cX11_canGo 13 = .ok (.invokestatic 223, 3) := by decide +kernel
theorem dX11_canGo_16 : decode cX11_canGo 16 = .ok (.ifCond .ne 7, 3) := by decide +kernel
theorem dX11_canGo_19 : decode cX11_canGo 19 = .ok (.iconst 1, 1) := by decide +kernel
theorem dX11_canGo_20 : decode cX11_canGo 20 = .ok (.goto 4, 3) := by decide +kernel
theorem dX11_canGo_23 : decode cX11_canGo 23 = .ok (.iconst 0, 1) := by decide +kernel
theorem dX11_canGo_24 : decode cX11_canGo 24 = .ok (.ireturn, 1) := by decide +kernel
theorem dX11_goes_0 : decode cX11_goes 0 = .ok (.aload_n 0, 1) := by decide +kernel
theorem dX11_goes_1 : decode cX11_goes 1 = .ok (.aload_n 1, 1) := by decide +kernel
theorem dX11_goes_2 : decode cX11_goes 2 = .ok (.iload_n 2, 1) := by decide +kernel
theorem dX11_goes_3 : decode cX11_goes 3 = .ok (.invokevirtual 370, 3) := by decide +kernel
theorem dX11_goes_6 : decode cX11_goes 6 = .ok (.istore_n 3, 1) := by decide +kernel
theorem dX11_goes_7 : decode cX11_goes 7 = .ok (.aload_n 1, 1) := by decide +kernel
theorem dX11_goes_8 : decode cX11_goes 8 = .ok (.bipush 60, 2) := by decide +kernel
theorem dX11_goes_10 : decode cX11_goes 10 = .ok (.dup2, 1) := by decide +kernel
theorem dX11_goes_11 : decode cX11_goes 11 = .ok (.iaload, 1) := by decide +kernel
theorem dX11_goes_12 : decode cX11_goes 12 = .ok (.iconst 1, 1) := by decide +kernel
theorem dX11_goes_13 : decode cX11_goes 13 = .ok (.iload_n 2, 1) := by decide +kernel
theorem dX11_goes_14 : decode cX11_goes 14 = .ok (.ishl, 1) := by decide +kernel
theorem dX11_goes_15 : decode cX11_goes 15 = .ok (.ior, 1) := by decide +kernel
theorem dX11_goes_16 : decode cX11_goes 16 = .ok (.iastore, 1) := by decide +kernel
theorem dX11_goes_17 : decode cX11_goes 17 = .ok (.iload_n 3, 1) := by decide +kernel
theorem dX11_goes_18 : decode cX11_goes 18 = .ok (.ifCond .eq 48, 3) := by decide +kernel
theorem dX11_goes_21 : decode cX11_goes 21 = .ok (.aload_n 1, 1) := by decide +kernel
theorem dX11_goes_22 : decode cX11_goes 22 = .ok (.bipush 10, 2) := by decide +kernel
theorem dX11_goes_24 : decode cX11_goes 24 = .ok (.iload_n 2, 1) := by decide +kernel
theorem dX11_goes_25 : decode cX11_goes 25 = .ok (.imul, 1) := by decide +kernel
theorem dX11_goes_26 : decode cX11_goes 26 = .ok (.iconst 0, 1) := by decide +kernel
theorem dX11_goes_27 : decode cX11_goes 27 = .ok (.iadd, 1) := by decide +kernel
theorem dX11_goes_28 : decode cX11_goes 28 = .ok (.iconst 0, 1) := by decide +kernel
theorem dX11_goes_29 : decode cX11_goes 29 = .ok (.iastore, 1) := by decide +kernel
theorem dX11_goes_30 : decode cX11_goes 30 = .ok (.aload_n 1, 1) := by decide +kernel
theorem dX11_goes_31 : decode cX11_goes 31 = .ok (.bipush 10, 2) := by decide +kernel
theorem dX11_goes_33 : decode cX11_goes 33 = .ok (.iload_n 2, 1) := by decide +kernel
theorem dX11_goes_34 : decode cX11_goes 34 = .ok (.imul, 1) := by decide +kernel
theorem dX11_goes_35 : decode cX11_goes 35 = .ok (.iconst 1, 1) := by decide +kernel
theorem dX11_goes_36 : decode cX11_goes 36 = .ok (.iadd, 1) := by decide +kernel
theorem dX11_goes_37 : decode cX11_goes 37 = .ok (.sipush 999, 3) := by decide +kernel
theorem dX11_goes_40 : decode cX11_goes 40 = .ok (.aload_n 1, 1) := by decide +kernel
theorem dX11_goes_41 : decode cX11_goes 41 = .ok (.bipush 10, 2) := by decide +kernel
theorem dX11_goes_43 : decode cX11_goes 43 = .ok (.iload_n 2, 1) := by decide +kernel
theorem dX11_goes_44 : decode cX11_goes 44 = .ok (.imul, 1) := by decide +kernel
theorem dX11_goes_45 : decode cX11_goes 45 = .ok (.iconst 1, 1) := by decide +kernel
theorem dX11_goes_46 : decode cX11_goes 46 = .ok (.iadd, 1) := by decide +kernel
theorem dX11_goes_47 : decode cX11_goes 47 = .ok (.iaload, 1) := by decide +kernel
theorem dX11_goes_48 : decode cX11_goes 48 = .ok (.iconst 1, 1) := by decide +kernel
theorem dX11_goes_49 : decode cX11_goes 49 = .ok (.iadd, 1) := by decide +kernel
theorem dX11_goes_50 : decode cX11_goes 50 = .ok (.invokestatic 316, 3) := by decide +kernel
theorem dX11_goes_53 : decode cX11_goes 53 = .ok (.iastore, 1) := by decide +kernel
theorem dX11_goes_54 : decode cX11_goes 54 = .ok (.aload_n 1, 1) := by decide +kernel
theorem dX11_goes_55 : decode cX11_goes 55 = .ok (.bipush 66, 2) := by decide +kernel
theorem dX11_goes_57 : decode cX11_goes 57 = .ok (.dup2, 1) := by decide +kernel
theorem dX11_goes_58 : decode cX11_goes 58 = .ok (.iaload, 1) := by decide +kernel
theorem dX11_goes_59 : decode cX11_goes 59 = .ok (.iconst 1, 1) := by decide +kernel
theorem dX11_goes_60 : decode cX11_goes 60 = .ok (.iload_n 2, 1) := by decide +kernel
theorem dX11_goes_61 : decode cX11_goes 61 = .ok (.ishl, 1) := by decide +kernel
theorem dX11_goes_62 : decode cX11_goes 62 = .ok (.ior, 1) := by decide +kernel
theorem dX11_goes_63 : decode cX11_goes 63 = .ok (.iastore, 1) := by decide +kernel
theorem dX11_goes_64 : decode cX11_goes 64 = .ok (.iconst 1, 1) := by decide +kernel
theorem dX11_goes_65 : decode cX11_goes 65 = .ok (.ireturn, 1) := by decide +kernel
theorem dX11_goes_66 : decode cX11_goes 66 = .ok (.aload_n 1, 1) := by decide +kernel
theorem dX11_goes_67 : decode cX11_goes 67 = .ok (.bipush 62, 2) := by decide +kernel
theorem dX11_goes_69 : decode cX11_goes 69 = .ok (.sipush 999, 3) := by decide +kernel
theorem dX11_goes_72 : decode cX11_goes 72 = .ok (.aload_n 1, 1) := by decide +kernel
theorem dX11_goes_73 : decode cX11_goes 73 = .ok (.bipush 62, 2) := by decide +kernel
theorem dX11_goes_75 : decode cX11_goes 75 = .ok (.iaload, 1) := by decide +kernel
theorem dX11_goes_76 : decode cX11_goes 76 = .ok (.iconst 1, 1) := by decide +kernel
theorem dX11_goes_77 : decode cX11_goes 77 = .ok (.iadd, 1) := by decide +kernel
theorem dX11_goes_78 : decode cX11_goes 78 = .ok (.invokestatic 316, 3) := by decide +kernel
theorem dX11_goes_81 : decode cX11_goes 81 = .ok (.iastore, 1) := by decide +kernel
theorem dX11_goes_82 : decode cX11_goes 82 = .ok (.aload_n 1, 1) := by decide +kernel
theorem dX11_goes_83 : decode cX11_goes 83 = .ok (.bipush 64, 2) := by decide +kernel
theorem dX11_goes_85 : decode cX11_goes 85 = .ok (.iconst 0, 1) := by decide +kernel
theorem dX11_goes_86 : decode cX11_goes 86 = .ok (.aload_n 1, 1) := by decide +kernel
theorem dX11_goes_87 : decode cX11_goes 87 = .ok (.bipush 64, 2) := by decide +kernel
theorem dX11_goes_89 : decode cX11_goes 89 = .ok (.iaload, 1) := by decide +kernel
theorem dX11_goes_90 : decode cX11_goes 90 = .ok (.aload_n 0, 1) := by decide +kernel
theorem dX11_goes_91 : decode cX11_goes 91 = .ok (.getfield 37, 3) := by decide +kernel
theorem dX11_goes_94 : decode cX11_goes 94 = .ok (.iconst 0, 1) := by decide +kernel
theorem dX11_goes_95 : decode cX11_goes 95 = .ok (.iaload, 1) := by decide +kernel
theorem dX11_goes_96 : decode cX11_goes 96 = .ok (.isub, 1) := by decide +kernel
theorem dX11_goes_97 : decode cX11_goes 97 = .ok (.invokestatic 318, 3) := by decide +kernel
theorem dX11_goes_100 : decode cX11_goes 100 = .ok (.iastore, 1) := by decide +kernel
theorem dX11_goes_101 : decode cX11_goes 101 = .ok (.iconst 0, 1) := by decide +kernel
theorem dX11_goes_102 : decode cX11_goes 102 = .ok (.ireturn, 1) := by decide +kernel
theorem dX11_shave_0 : decode cX11_shave 0 = .ok (.aload_n 0, 1) := by decide +kernel
theorem dX11_shave_1 : decode cX11_shave 1 = .ok (.iconst 0, 1) := by decide +kernel
theorem dX11_shave_2 : decode cX11_shave 2 = .ok (.putfield 90, 3) := by decide +kernel
theorem dX11_shave_5 : decode cX11_shave 5 = .ok (.aload_n 0, 1) := by decide +kernel
theorem dX11_shave_6 : decode cX11_shave 6 = .ok (.aload_n 0, 1) := by decide +kernel
theorem dX11_shave_7 : decode cX11_shave 7 = .ok (.getfield 61, 3) := by decide +kernel
theorem dX11_shave_10 : decode cX11_shave 10 = .ok (.iload_n 1, 1) := by decide +kernel
theorem dX11_shave_11 : decode cX11_shave 11 = .ok (.invokevirtual 374, 3) := by decide +kernel
theorem dX11_shave_14 : decode cX11_shave 14 = .ok (.ifCond .ne 5, 3) := by decide +kernel
theorem dX11_shave_17 : decode cX11_shave 17 = .ok (.iconst (-1), 1) := by decide +kernel
theorem dX11_shave_18 : decode cX11_shave 18 = .ok (.ireturn, 1) := by decide +kernel
theorem dX11_shave_19 : decode cX11_shave 19 = .ok (.aload_n 0, 1) := by decide +kernel
theorem dX11_shave_20 : decode cX11_shave 20 = .ok (.invokevirtual 354, 3) := by decide +kernel
theorem dX11_shave_23 : decode cX11_shave 23 = .ok (.aload_n 0, 1) := by decide +kernel
theorem dX11_shave_24 : decode cX11_shave 24 = .ok (.aload_n 0, 1) := by decide +kernel
theorem dX11_shave_25 : decode cX11_shave 25 = .ok (.getfield 61, 3) := by decide +kernel
theorem dX11_shave_28 : decode cX11_shave 28 = .ok (.iload_n 1, 1) := by decide +kernel
theorem dX11_shave_29 : decode cX11_shave 29 = .ok (.invokevirtual 377, 3) := by decide +kernel
theorem dX11_shave_32 : decode cX11_shave 32 = .ok (.ireturn, 1) := by decide +kernel
theorem dX11_give_0 : decode cX11_give 0 = .ok (.aload_n 0, 1) := by decide +kernel
theorem dX11_give_1 : decode cX11_give 1 = .ok (.iconst 0, 1) := by decide +kernel
theorem dX11_give_2 : decode cX11_give 2 = .ok (.putfield 90, 3) := by decide +kernel
theorem dX11_give_5 : decode cX11_give 5 = .ok (.aload_n 0, 1) := by decide +kernel
theorem dX11_give_6 : decode cX11_give 6 = .ok (.getfield 285, 3) := by decide +kernel
theorem dX11_give_9 : decode cX11_give 9 = .ok (.ifCond .eq 30, 3) := by decide +kernel
theorem dX11_give_12 : decode cX11_give 12 = .ok (.iload_n 1, 1) := by decide +kernel
theorem dX11_give_13 : decode cX11_give 13 = .ok (.i2l, 1) := by decide +kernel
theorem dX11_give_14 : decode cX11_give 14 = .ok (.lconst 1, 1) := by decide +kernel
theorem dX11_give_15 : decode cX11_give 15 = .ok (.ldc2_w 380, 3) := by decide +kernel
theorem dX11_give_18 : decode cX11_give 18 = .ok (.invokestatic 211, 3) := by decide +kernel
theorem dX11_give_21 : decode cX11_give 21 = .ok (.ifCond .eq 18, 3) := by decide +kernel
theorem dX11_give_24 : decode cX11_give 24 = .ok (.aload_n 0, 1) := by decide +kernel
theorem dX11_give_25 : decode cX11_give 25 = .ok (.getfield 61, 3) := by decide +kernel
theorem dX11_give_28 : decode cX11_give 28 = .ok (.bipush 64, 2) := by decide +kernel
theorem dX11_give_30 : decode cX11_give 30 = .ok (.iaload, 1) := by decide +kernel
theorem dX11_give_31 : decode cX11_give 31 = .ok (.iload_n 1, 1) := by decide +kernel
theorem dX11_give_32 : decode cX11_give 32 = .ok (.iadd, 1) := by decide +kernel
theorem dX11_give_33 : decode cX11_give 33 = .ok (.sipush 999, 3) := by decide +kernel
theorem dX11_give_36 : decode cX11_give 36 = .ok (.if_icmp .le 5, 3) := by decide +kernel
theorem dX11_give_39 : decode cX11_give 39 = .ok (.iconst (-1), 1) := by decide +kernel
theorem dX11_give_40 : decode cX11_give 40 = .ok (.ireturn, 1) := by decide +kernel
theorem dX11_give_41 : decode cX11_give 41 = .ok (.aload_n 0, 1) := by decide +kernel
theorem dX11_give_42 : decode cX11_give 42 = .ok (.invokevirtual 354, 3) := by decide +kernel
theorem dX11_give_45 : decode cX11_give 45 = .ok (.aload_n 0, 1) := by decide +kernel
theorem dX11_give_46 : decode cX11_give 46 = .ok (.getfield 61, 3) := by decide +kernel
theorem dX11_give_49 : decode cX11_give 49 = .ok (.bipush 64, 2) := by decide +kernel
theorem dX11_give_51 : decode cX11_give 51 = .ok (.dup2, 1) := by decide +kernel
theorem dX11_give_52 : decode cX11_give 52 = .ok (.iaload, 1) := by decide +kernel
theorem dX11_give_53 : decode cX11_give 53 = .ok (.iload_n 1, 1) := by decide +kernel
theorem dX11_give_54 : decode cX11_give 54 = .ok (.iadd, 1) := by decide +kernel
theorem dX11_give_55 : decode cX11_give 55 = .ok (.iastore, 1) := by decide +kernel
theorem dX11_give_56 : decode cX11_give 56 = .ok (.aload_n 0, 1) := by decide +kernel
theorem dX11_give_57 : decode cX11_give 57 = .ok (.getfield 61, 3) := by decide +kernel
theorem dX11_give_60 : decode cX11_give 60 = .ok (.bipush 64, 2) := by decide +kernel
theorem dX11_give_62 : decode cX11_give 62 = .ok (.iaload, 1) := by decide +kernel
theorem dX11_give_63 : decode cX11_give 63 = .ok (.ireturn, 1) := by decide +kernel
theorem dX11_smooth_0 : decode cX11_smooth 0 = .ok (.iconst 0, 1) := by decide +kernel
theorem dX11_smooth_1 : decode cX11_smooth 1 = .ok (.istore_n 2, 1) := by decide +kernel
theorem dX11_smooth_2 : decode cX11_smooth 2 = .ok (.iconst 0, 1) := by decide +kernel
theorem dX11_smooth_3 : decode cX11_smooth 3 = .ok (.istore_n 3, 1) := by decide +kernel
theorem dX11_smooth_4 : decode cX11_smooth 4 = .ok (.iload_n 3, 1) := by decide +kernel
theorem dX11_smooth_5 : decode cX11_smooth 5 = .ok (.aload_n 0, 1) := by decide +kernel
theorem dX11_smooth_6 : decode cX11_smooth 6 = .ok (.getfield 285, 3) := by decide +kernel
theorem dX11_smooth_9 : decode cX11_smooth 9 = .ok (.if_icmp .ge 30, 3) := by decide +kernel
theorem dX11_smooth_12 : decode cX11_smooth 12 = .ok (.iload_n 2, 1) := by decide +kernel
theorem dX11_smooth_13 : decode cX11_smooth 13 = .ok (.aload_n 1, 1) := by decide +kernel
theorem dX11_smooth_14 : decode cX11_smooth 14 = .ok (.bipush 10, 2) := by decide +kernel
theorem dX11_smooth_16 : decode cX11_smooth 16 = .ok (.iload_n 3, 1) := by decide +kernel
theorem dX11_smooth_17 : decode cX11_smooth 17 = .ok (.imul, 1) := by decide +kernel
theorem dX11_smooth_18 : decode cX11_smooth 18 = .ok (.iconst 0, 1) := by decide +kernel
theorem dX11_smooth_19 : decode cX11_smooth 19 = .ok (.iadd, 1) := by decide +kernel
theorem dX11_smooth_20 : decode cX11_smooth 20 = .ok (.iaload, 1) := by decide +kernel
theorem dX11_smooth_21 : decode cX11_smooth 21 = .ok (.ifCond .ne 9, 3) := by decide +kernel
theorem dX11_smooth_24 : decode cX11_smooth 24 = .ok (.iconst 1, 1) := by decide +kernel
theorem dX11_smooth_25 : decode cX11_smooth 25 = .ok (.iload_n 3, 1) := by decide +kernel
theorem dX11_smooth_26 : decode cX11_smooth 26 = .ok (.ishl, 1) := by decide +kernel
theorem dX11_smooth_27 : decode cX11_smooth 27 = .ok (.goto 4, 3) := by decide +kernel
theorem dX11_smooth_30 : decode cX11_smooth 30 = .ok (.iconst 0, 1) := by decide +kernel
theorem dX11_smooth_31 : decode cX11_smooth 31 = .ok (.ior, 1) := by decide +kernel
theorem dX11_smooth_32 : decode cX11_smooth 32 = .ok (.istore_n 2, 1) := by decide +kernel
theorem dX11_smooth_33 : decode cX11_smooth 33 = .ok (.iinc 3 1, 3) := by decide +kernel
theorem dX11_smooth_36 : decode cX11_smooth 36 = .ok (.goto (-32), 3) := by decide +kernel
theorem dX11_smooth_39 : decode cX11_smooth 39 = .ok (.iload_n 2, 1) := by decide +kernel
theorem dX11_smooth_40 : decode cX11_smooth 40 = .ok (.ireturn, 1) := by decide +kernel
theorem dX11_ages_0 : decode cX11_ages 0 = .ok (.iconst 0, 1) := by decide +kernel
theorem dX11_ages_1 : decode cX11_ages 1 = .ok (.istore_n 2, 1) := by decide +kernel
theorem dX11_ages_2 : decode cX11_ages 2 = .ok (.iload_n 2, 1) := by decide +kernel
theorem dX11_ages_3 : decode cX11_ages 3 = .ok (.aload_n 0, 1) := by decide +kernel
theorem dX11_ages_4 : decode cX11_ages 4 = .ok (.getfield 285, 3) := by decide +kernel
theorem dX11_ages_7 : decode cX11_ages 7 = .ok (.if_icmp .ge 70, 3) := by decide +kernel
theorem dX11_ages_10 : decode cX11_ages 10 = .ok (.aload_n 1, 1) := by decide +kernel
theorem dX11_ages_11 : decode cX11_ages 11 = .ok (.bipush 10, 2) := by decide +kernel
theorem dX11_ages_13 : decode cX11_ages 13 = .ok (.iload_n 2, 1) := by decide +kernel
theorem dX11_ages_14 : decode cX11_ages 14 = .ok (.imul, 1) := by decide +kernel
theorem dX11_ages_15 : decode cX11_ages 15 = .ok (.iconst 0, 1) := by decide +kernel
theorem dX11_ages_16 : decode cX11_ages 16 = .ok (.iadd, 1) := by decide +kernel
theorem dX11_ages_17 : decode cX11_ages 17 = .ok (.bipush 99, 2) := by decide +kernel
theorem dX11_ages_19 : decode cX11_ages 19 = .ok (.aload_n 1, 1) := by decide +kernel
theorem dX11_ages_20 : decode cX11_ages 20 = .ok (.bipush 10, 2) := by decide +kernel
theorem dX11_ages_22 : decode cX11_ages 22 = .ok (.iload_n 2, 1) := by decide +kernel
theorem dX11_ages_23 : decode cX11_ages 23 = .ok (.imul, 1) := by decide +kernel
theorem dX11_ages_24 : decode cX11_ages 24 = .ok (.iconst 0, 1) := by decide +kernel
theorem dX11_ages_25 : decode cX11_ages 25 = .ok (.iadd, 1) := by decide +kernel
theorem dX11_ages_26 : decode cX11_ages 26 = .ok (.iaload, 1) := by decide +kernel
theorem dX11_ages_27 : decode cX11_ages 27 = .ok (.iconst 1, 1) := by decide +kernel
theorem dX11_ages_28 : decode cX11_ages 28 = .ok (.iadd, 1) := by decide +kernel
theorem dX11_ages_29 : decode cX11_ages 29 = .ok (.invokestatic 316, 3) := by decide +kernel
theorem dX11_ages_32 : decode cX11_ages 32 = .ok (.iastore, 1) := by decide +kernel
theorem dX11_ages_33 : decode cX11_ages 33 = .ok (.iconst 0, 1) := by decide +kernel
theorem dX11_ages_34 : decode cX11_ages 34 = .ok (.istore_n 3, 1) := by decide +kernel
theorem dX11_ages_35 : decode cX11_ages 35 = .ok (.iload_n 3, 1) := by decide +kernel
theorem dX11_ages_36 : decode cX11_ages 36 = .ok (.aload_n 0, 1) := by decide +kernel
theorem dX11_ages_37 : decode cX11_ages 37 = .ok (.getfield 288, 3) := by decide +kernel
theorem dX11_ages_40 : decode cX11_ages 40 = .ok (.if_icmp .ge 31, 3) := by decide +kernel
theorem dX11_ages_43 : decode cX11_ages 43 = .ok (.aload_n 1, 1) := by decide +kernel
theorem dX11_ages_44 : decode cX11_ages 44 = .ok (.bipush 10, 2) := by decide +kernel
theorem dX11_ages_46 : decode cX11_ages 46 = .ok (.iload_n 2, 1) := by decide +kernel
theorem dX11_ages_47 : decode cX11_ages 47 = .ok (.imul, 1) := by decide +kernel
theorem dX11_ages_48 : decode cX11_ages 48 = .ok (.iconst 2, 1) := by decide +kernel
theorem dX11_ages_49 : decode cX11_ages 49 = .ok (.iadd, 1) := by decide +kernel
theorem dX11_ages_50 : decode cX11_ages 50 = .ok (.iload_n 3, 1) := by decide +kernel
theorem dX11_ages_51 : decode cX11_ages 51 = .ok (.iadd, 1) := by decide +kernel
theorem dX11_ages_52 : decode cX11_ages 52 = .ok (.iconst 0, 1) := by decide +kernel
theorem dX11_ages_53 : decode cX11_ages 53 = .ok (.aload_n 1, 1) := by decide +kernel
theorem dX11_ages_54 : decode cX11_ages 54 = .ok (.iload_n 2, 1) := by decide +kernel
theorem dX11_ages_55 : decode cX11_ages 55 = .ok (.iload_n 3, 1) := by decide +kernel
theorem dX11_ages_56 : decode cX11_ages 56 = .ok (.invokestatic 300, 3) := by decide +kernel
theorem dX11_ages_59 : decode cX11_ages 59 = .ok (.iconst 1, 1) := by decide +kernel
theorem dX11_ages_60 : decode cX11_ages 60 = .ok (.isub, 1) := by decide +kernel
theorem dX11_ages_61 : decode cX11_ages 61 = .ok (.invokestatic 318, 3) := by decide +kernel
theorem dX11_ages_64 : decode cX11_ages 64 = .ok (.iastore, 1) := by decide +kernel
theorem dX11_ages_65 : decode cX11_ages 65 = .ok (.iinc 3 1, 3) := by decide +kernel
theorem dX11_ages_68 : decode cX11_ages 68 = .ok (.goto (-33), 3) := by decide +kernel
theorem dX11_ages_71 : decode cX11_ages 71 = .ok (.iinc 2 1, 3) := by decide +kernel
theorem dX11_ages_74 : decode cX11_ages 74 = .ok (.goto (-72), 3) := by decide +kernel
theorem dX11_ages_77 : decode cX11_ages 77 = .ok (.aload_n 1, 1) := by decide +kernel
theorem dX11_ages_78 : decode cX11_ages 78 = .ok (.bipush 60, 2) := by decide +kernel
theorem dX11_ages_80 : decode cX11_ages 80 = .ok (.iconst 0, 1) := by decide +kernel
theorem dX11_ages_81 : decode cX11_ages 81 = .ok (.iastore, 1) := by decide +kernel
theorem dX11_ages_82 : decode cX11_ages 82 = .ok (.aload_n 1, 1) := by decide +kernel
theorem dX11_ages_83 : decode cX11_ages 83 = .ok (.bipush 66, 2) := by decide +kernel
theorem dX11_ages_85 : decode cX11_ages 85 = .ok (.iconst 0, 1) := by decide +kernel
theorem dX11_ages_86 : decode cX11_ages 86 = .ok (.iastore, 1) := by decide +kernel
theorem dX11_ages_87 : decode cX11_ages 87 = .ok (.aload_n 1, 1) := by decide +kernel
theorem dX11_ages_88 : decode cX11_ages 88 = .ok (.bipush 65, 2) := by decide +kernel
theorem dX11_ages_90 : decode cX11_ages 90 = .ok (.dup2, 1) := by decide +kernel
theorem dX11_ages_91 : decode cX11_ages 91 = .ok (.iaload, 1) := by decide +kernel
theorem dX11_ages_92 : decode cX11_ages 92 = .ok (.iconst 1, 1) := by decide +kernel
theorem dX11_ages_93 : decode cX11_ages 93 = .ok (.iadd, 1) := by decide +kernel
theorem dX11_ages_94 : decode cX11_ages 94 = .ok (.iastore, 1) := by decide +kernel
theorem dX11_ages_95 : decode cX11_ages 95 = .ok (.return_, 1) := by decide +kernel
theorem dX11_goDay_0 : decode cX11_goDay 0 = .ok (.aload_n 0, 1) := by decide +kernel
theorem dX11_goDay_1 : decode cX11_goDay 1 = .ok (.aload_n 1, 1) := by decide +kernel
theorem dX11_goDay_2 : decode cX11_goDay 2 = .ok (.invokevirtual 382, 3) := by decide +kernel
theorem dX11_goDay_5 : decode cX11_goDay 5 = .ok (.istore_n 2, 1) := by decide +kernel
theorem dX11_goDay_6 : decode cX11_goDay 6 = .ok (.aload_n 1, 1) := by decide +kernel
theorem dX11_goDay_7 : decode cX11_goDay 7 = .ok (.bipush 67, 2) := by decide +kernel
theorem dX11_goDay_9 : decode cX11_goDay 9 = .ok (.iaload, 1) := by decide +kernel
theorem dX11_goDay_10 : decode cX11_goDay 10 = .ok (.bipush 60, 2) := by decide +kernel
theorem dX11_goDay_12 : decode cX11_goDay 12 = .ok (.if_icmp .ne 40, 3) := by decide +kernel
theorem dX11_goDay_15 : decode cX11_goDay 15 = .ok (.iconst 1, 1) := by decide +kernel
theorem dX11_goDay_16 : decode cX11_goDay 16 = .ok (.istore_n 3, 1) := by decide +kernel
theorem dX11_goDay_17 : decode cX11_goDay 17 = .ok (.iload_n 3, 1) := by decide +kernel
theorem dX11_goDay_18 : decode cX11_goDay 18 = .ok (.sipush 177, 3) := by decide +kernel
theorem dX11_goDay_21 : decode cX11_goDay 21 = .ok (.if_icmp .gt 23, 3) := by decide +kernel
theorem dX11_goDay_24 : decode cX11_goDay 24 = .ok (.aload_n 1, 1) := by decide +kernel
theorem dX11_goDay_25 : decode cX11_goDay 25 = .ok (.bipush 67, 2) := by decide +kernel
theorem dX11_goDay_27 : decode cX11_goDay 27 = .ok (.iload_n 3, 1) := by decide +kernel
theorem dX11_goDay_28 : decode cX11_goDay 28 = .ok (.iadd, 1) := by decide +kernel
theorem dX11_goDay_29 : decode cX11_goDay 29 = .ok (.aload_n 1, 1) := by decide +kernel
theorem dX11_goDay_30 : decode cX11_goDay 30 = .ok (.bipush 67, 2) := by decide +kernel
theorem dX11_goDay_32 : decode cX11_goDay 32 = .ok (.iload_n 3, 1) := by decide +kernel
theorem dX11_goDay_33 : decode cX11_goDay 33 = .ok (.iadd, 1) := by decide +kernel
theorem dX11_goDay_34 : decode cX11_goDay 34 = .ok (.iconst 3, 1) := by decide +kernel
theorem dX11_goDay_35 : decode cX11_goDay 35 = .ok (.iadd, 1) := by decide +kernel
theorem dX11_goDay_36 : decode cX11_goDay 36 = .ok (.iaload, 1) := by decide +kernel
theorem dX11_goDay_37 : decode cX11_goDay 37 = .ok (.iastore, 1) := by decide +kernel
theorem dX11_goDay_38 : decode cX11_goDay 38 = .ok (.iinc 3 1, 3) := by decide +kernel
theorem dX11_goDay_41 : decode cX11_goDay 41 = .ok (.goto (-24), 3) := by decide +kernel
theorem dX11_goDay_44 : decode cX11_goDay 44 = .ok (.aload_n 1, 1) := by decide +kernel
theorem dX11_goDay_45 : decode cX11_goDay 45 = .ok (.bipush 67, 2) := by decide +kernel
theorem dX11_goDay_47 : decode cX11_goDay 47 = .ok (.dup2, 1) := by decide +kernel
theorem dX11_goDay_48 : decode cX11_goDay 48 = .ok (.iaload, 1) := by decide +kernel
theorem dX11_goDay_49 : decode cX11_goDay 49 = .ok (.iconst 1, 1) := by decide +kernel
theorem dX11_goDay_50 : decode cX11_goDay 50 = .ok (.isub, 1) := by decide +kernel
theorem dX11_goDay_51 : decode cX11_goDay 51 = .ok (.iastore, 1) := by decide +kernel
theorem dX11_goDay_52 : decode cX11_goDay 52 = .ok (.bipush 68, 2) := by decide +kernel
theorem dX11_goDay_54 : decode cX11_goDay 54 = .ok (.iconst 3, 1) := by decide +kernel
theorem dX11_goDay_55 : decode cX11_goDay 55 = .ok (.aload_n 1, 1) := by decide +kernel
theorem dX11_goDay_56 : decode cX11_goDay 56 = .ok (.bipush 67, 2) := by decide +kernel
theorem dX11_goDay_58 : decode cX11_goDay 58 = .ok (.iaload, 1) := by decide +kernel
theorem dX11_goDay_59 : decode cX11_goDay 59 = .ok (.imul, 1) := by decide +kernel
theorem dX11_goDay_60 : decode cX11_goDay 60 = .ok (.iadd, 1) := by decide +kernel
theorem dX11_goDay_61 : decode cX11_goDay 61 = .ok (.istore_n 3, 1) := by decide +kernel
theorem dX11_goDay_62 : decode cX11_goDay 62 = .ok (.aload_n 1, 1) := by decide +kernel
theorem dX11_goDay_63 : decode cX11_goDay 63 = .ok (.iload_n 3, 1) := by decide +kernel
theorem dX11_goDay_64 : decode cX11_goDay 64 = .ok (.iload_n 2, 1) := by decide +kernel
theorem dX11_goDay_65 : decode cX11_goDay 65 = .ok (.iastore, 1) := by decide +kernel
theorem dX11_goDay_66 : decode cX11_goDay 66 = .ok (.aload_n 1, 1) := by decide +kernel
theorem dX11_goDay_67 : decode cX11_goDay 67 = .ok (.iload_n 3, 1) := by decide +kernel
theorem dX11_goDay_68 : decode cX11_goDay 68 = .ok (.iconst 1, 1) := by decide +kernel
theorem dX11_goDay_69 : decode cX11_goDay 69 = .ok (.iadd, 1) := by decide +kernel
theorem dX11_goDay_70 : decode cX11_goDay 70 = .ok (.aload_n 1, 1) := by decide +kernel
theorem dX11_goDay_71 : decode cX11_goDay 71 = .ok (.bipush 66, 2) := by decide +kernel
theorem dX11_goDay_73 : decode cX11_goDay 73 = .ok (.iaload, 1) := by decide +kernel
theorem dX11_goDay_74 : decode cX11_goDay 74 = .ok (.iastore, 1) := by decide +kernel
theorem dX11_goDay_75 : decode cX11_goDay 75 = .ok (.aload_n 1, 1) := by decide +kernel
theorem dX11_goDay_76 : decode cX11_goDay 76 = .ok (.iload_n 3, 1) := by decide +kernel
theorem dX11_goDay_77 : decode cX11_goDay 77 = .ok (.iconst 2, 1) := by decide +kernel
theorem dX11_goDay_78 : decode cX11_goDay 78 = .ok (.iadd, 1) := by decide +kernel
theorem dX11_goDay_79 : decode cX11_goDay 79 = .ok (.aload_n 1, 1) := by decide +kernel
theorem dX11_goDay_80 : decode cX11_goDay 80 = .ok (.bipush 61, 2) := by decide +kernel
theorem dX11_goDay_82 : decode cX11_goDay 82 = .ok (.iaload, 1) := by decide +kernel
theorem dX11_goDay_83 : decode cX11_goDay 83 = .ok (.iastore, 1) := by decide +kernel
theorem dX11_goDay_84 : decode cX11_goDay 84 = .ok (.aload_n 1, 1) := by decide +kernel
theorem dX11_goDay_85 : decode cX11_goDay 85 = .ok (.bipush 67, 2) := by decide +kernel
theorem dX11_goDay_87 : decode cX11_goDay 87 = .ok (.dup2, 1) := by decide +kernel
theorem dX11_goDay_88 : decode cX11_goDay 88 = .ok (.iaload, 1) := by decide +kernel
theorem dX11_goDay_89 : decode cX11_goDay 89 = .ok (.iconst 1, 1) := by decide +kernel
theorem dX11_goDay_90 : decode cX11_goDay 90 = .ok (.iadd, 1) := by decide +kernel
theorem dX11_goDay_91 : decode cX11_goDay 91 = .ok (.iastore, 1) := by decide +kernel
theorem dX11_goDay_92 : decode cX11_goDay 92 = .ok (.iconst 0, 1) := by decide +kernel
theorem dX11_goDay_93 : decode cX11_goDay 93 = .ok (.istore 4, 2) := by decide +kernel
theorem dX11_goDay_95 : decode cX11_goDay 95 = .ok (.iload 4, 2) := by decide +kernel
theorem dX11_goDay_97 : decode cX11_goDay 97 = .ok (.aload_n 0, 1) := by decide +kernel
theorem dX11_goDay_98 : decode cX11_goDay 98 = .ok (.getfield 285, 3) := by decide +kernel
theorem dX11_goDay_101 : decode cX11_goDay 101 = .ok (.if_icmp .ge 55, 3) := by decide +kernel
theorem dX11_goDay_104 : decode cX11_goDay 104 = .ok (.iload_n 2, 1) := by decide +kernel
theorem dX11_goDay_105 : decode cX11_goDay 105 = .ok (.iload 4, 2) := by decide +kernel
theorem dX11_goDay_107 : decode cX11_goDay 107 = .ok (.invokestatic 223, 3) := by decide +kernel
theorem dX11_goDay_110 : decode cX11_goDay 110 = .ok (.ifCond .eq 40, 3) := by decide +kernel
theorem dX11_goDay_113 : decode cX11_goDay 113 = .ok (.aload_n 0, 1) := by decide +kernel
theorem dX11_goDay_114 : decode cX11_goDay 114 = .ok (.getfield 43, 3) := by decide +kernel
theorem dX11_goDay_117 : decode cX11_goDay 117 = .ok (.iconst 3, 1) := by decide +kernel
theorem dX11_goDay_118 : decode cX11_goDay 118 = .ok (.iload 4, 2) := by decide +kernel
theorem dX11_goDay_120 : decode cX11_goDay 120 = .ok (.imul, 1) := by decide +kernel
theorem dX11_goDay_121 : decode cX11_goDay 121 = .ok (.iconst 2, 1) := by decide +kernel
theorem dX11_goDay_122 : decode cX11_goDay 122 = .ok (.iadd, 1) := by decide +kernel
theorem dX11_goDay_123 : decode cX11_goDay 123 = .ok (.iaload, 1) := by decide +kernel
theorem dX11_goDay_124 : decode cX11_goDay 124 = .ok (.aload_n 1, 1) := by decide +kernel
theorem dX11_goDay_125 : decode cX11_goDay 125 = .ok (.bipush 65, 2) := by decide +kernel
theorem dX11_goDay_127 : decode cX11_goDay 127 = .ok (.iaload, 1) := by decide +kernel
theorem dX11_goDay_128 : decode cX11_goDay 128 = .ok (.bipush 7, 2) := by decide +kernel
theorem dX11_goDay_130 : decode cX11_goDay 130 = .ok (.irem, 1) := by decide +kernel
theorem dX11_goDay_131 : decode cX11_goDay 131 = .ok (.if_icmp .ne 19, 3) := by decide +kernel
theorem dX11_goDay_134 : decode cX11_goDay 134 = .ok (.aload_n 1, 1) := by decide +kernel
theorem dX11_goDay_135 : decode cX11_goDay 135 = .ok (.bipush 63, 2) := by decide +kernel
theorem dX11_goDay_137 : decode cX11_goDay 137 = .ok (.sipush 9999, 3) := by decide +kernel
theorem dX11_goDay_140 : decode cX11_goDay 140 = .ok (.aload_n 1, 1) := by decide +kernel
theorem dX11_goDay_141 : decode cX11_goDay 141 = .ok (.bipush 63, 2) := by decide +kernel
theorem dX11_goDay_143 : decode cX11_goDay 143 = .ok (.iaload, 1) := by decide +kernel
theorem dX11_goDay_144 : decode cX11_goDay 144 = .ok (.iconst 1, 1) := by decide +kernel
theorem dX11_goDay_145 : decode cX11_goDay 145 = .ok (.iadd, 1) := by decide +kernel
theorem dX11_goDay_146 : decode cX11_goDay 146 = .ok (.invokestatic 316, 3) := by decide +kernel
theorem dX11_goDay_149 : decode cX11_goDay 149 = .ok (.iastore, 1) := by decide +kernel
theorem dX11_goDay_150 : decode cX11_goDay 150 = .ok (.iinc 4 1, 3) := by decide +kernel
theorem dX11_goDay_153 : decode cX11_goDay 153 = .ok (.goto (-58), 3) := by decide +kernel
theorem dX11_goDay_156 : decode cX11_goDay 156 = .ok (.aload_n 0, 1) := by decide +kernel
theorem dX11_goDay_157 : decode cX11_goDay 157 = .ok (.aload_n 1, 1) := by decide +kernel
theorem dX11_goDay_158 : decode cX11_goDay 158 = .ok (.invokevirtual 386, 3) := by decide +kernel
theorem dX11_goDay_161 : decode cX11_goDay 161 = .ok (.iload_n 2, 1) := by decide +kernel
theorem dX11_goDay_162 : decode cX11_goDay 162 = .ok (.invokestatic 327, 3) := by decide +kernel
theorem dX11_goDay_165 : decode cX11_goDay 165 = .ok (.ireturn, 1) := by decide +kernel
theorem dX11_day_0 : decode cX11_day 0 = .ok (.aload_n 0, 1) := by decide +kernel
theorem dX11_day_1 : decode cX11_day 1 = .ok (.iconst 0, 1) := by decide +kernel
theorem dX11_day_2 : decode cX11_day 2 = .ok (.putfield 90, 3) := by decide +kernel
theorem dX11_day_5 : decode cX11_day 5 = .ok (.aload_n 0, 1) := by decide +kernel
theorem dX11_day_6 : decode cX11_day 6 = .ok (.getfield 285, 3) := by decide +kernel
theorem dX11_day_9 : decode cX11_day 9 = .ok (.ifCond .eq 16, 3) := by decide +kernel
theorem dX11_day_12 : decode cX11_day 12 = .ok (.aload_n 0, 1) := by decide +kernel
theorem dX11_day_13 : decode cX11_day 13 = .ok (.getfield 61, 3) := by decide +kernel
theorem dX11_day_16 : decode cX11_day 16 = .ok (.bipush 65, 2) := by decide +kernel
theorem dX11_day_18 : decode cX11_day 18 = .ok (.iaload, 1) := by decide +kernel
theorem dX11_day_19 : decode cX11_day 19 = .ok (.sipush 999, 3) := by decide +kernel
theorem dX11_day_22 : decode cX11_day 22 = .ok (.if_icmp .ne 5, 3) := by decide +kernel
theorem dX11_day_25 : decode cX11_day 25 = .ok (.iconst (-1), 1) := by decide +kernel
theorem dX11_day_26 : decode cX11_day 26 = .ok (.ireturn, 1) := by decide +kernel
theorem dX11_day_27 : decode cX11_day 27 = .ok (.aload_n 0, 1) := by decide +kernel
theorem dX11_day_28 : decode cX11_day 28 = .ok (.invokevirtual 354, 3) := by decide +kernel
theorem dX11_day_31 : decode cX11_day 31 = .ok (.aload_n 0, 1) := by decide +kernel
theorem dX11_day_32 : decode cX11_day 32 = .ok (.aload_n 0, 1) := by decide +kernel
theorem dX11_day_33 : decode cX11_day 33 = .ok (.getfield 61, 3) := by decide +kernel
theorem dX11_day_36 : decode cX11_day 36 = .ok (.invokevirtual 390, 3) := by decide +kernel
theorem dX11_day_39 : decode cX11_day 39 = .ok (.ireturn, 1) := by decide +kernel
theorem dX11_draw_0 : decode cX11_draw 0 = .ok (.aload_n 0, 1) := by decide +kernel
theorem dX11_draw_1 : decode cX11_draw 1 = .ok (.aload_n 0, 1) := by decide +kernel
theorem dX11_draw_2 : decode cX11_draw 2 = .ok (.getfield 393, 3) := by decide +kernel
theorem dX11_draw_5 : decode cX11_draw 5 = .ok (.ldc2_w 397, 3) := by decide +kernel
theorem dX11_draw_8 : decode cX11_draw 8 = .ok (.lmul, 1) := by decide +kernel
theorem dX11_draw_9 : decode cX11_draw 9 = .ok (.ldc2_w 399, 3) := by decide +kernel
theorem dX11_draw_12 : decode cX11_draw 12 = .ok (.ladd, 1) := by decide +kernel
theorem dX11_draw_13 : decode cX11_draw 13 = .ok (.putfield 393, 3) := by decide +kernel
theorem dX11_draw_16 : decode cX11_draw 16 = .ok (.aload_n 0, 1) := by decide +kernel
theorem dX11_draw_17 : decode cX11_draw 17 = .ok (.getfield 393, 3) := by decide +kernel
theorem dX11_draw_20 : decode cX11_draw 20 = .ok (.bipush 33, 2) := by decide +kernel
theorem dX11_draw_22 : decode cX11_draw 22 = .ok (.lushr, 1) := by decide +kernel
theorem dX11_draw_23 : decode cX11_draw 23 = .ok (.iload_n 1, 1) := by decide +kernel
theorem dX11_draw_24 : decode cX11_draw 24 = .ok (.i2l, 1) := by decide +kernel
theorem dX11_draw_25 : decode cX11_draw 25 = .ok (.lrem, 1) := by decide +kernel
theorem dX11_draw_26 : decode cX11_draw 26 = .ok (.l2i, 1) := by decide +kernel
theorem dX11_draw_27 : decode cX11_draw 27 = .ok (.ireturn, 1) := by decide +kernel
theorem dX11_years_0 : decode cX11_years 0 = .ok (.aload_n 0, 1) := by decide +kernel
theorem dX11_years_1 : decode cX11_years 1 = .ok (.iconst 0, 1) := by decide +kernel
theorem dX11_years_2 : decode cX11_years 2 = .ok (.putfield 90, 3) := by decide +kernel
theorem dX11_years_5 : decode cX11_years 5 = .ok (.aload_n 0, 1) := by decide +kernel
theorem dX11_years_6 : decode cX11_years 6 = .ok (.getfield 285, 3) := by decide +kernel
theorem dX11_years_9 : decode cX11_years 9 = .ok (.ifCond .eq 30, 3) := by decide +kernel
theorem dX11_years_12 : decode cX11_years 12 = .ok (.iload_n 1, 1) := by decide +kernel
theorem dX11_years_13 : decode cX11_years 13 = .ok (.i2l, 1) := by decide +kernel
theorem dX11_years_14 : decode cX11_years 14 = .ok (.lconst 1, 1) := by decide +kernel
theorem dX11_years_15 : decode cX11_years 15 = .ok (.ldc2_w 401, 3) := by decide +kernel
theorem dX11_years_18 : decode cX11_years 18 = .ok (.invokestatic 211, 3) := by decide +kernel
theorem dX11_years_21 : decode cX11_years 21 = .ok (.ifCond .eq 18, 3) := by decide +kernel
theorem dX11_years_24 : decode cX11_years 24 = .ok (.aload_n 0, 1) := by decide +kernel
theorem dX11_years_25 : decode cX11_years 25 = .ok (.getfield 61, 3) := by decide +kernel
theorem dX11_years_28 : decode cX11_years 28 = .ok (.bipush 65, 2) := by decide +kernel
theorem dX11_years_30 : decode cX11_years 30 = .ok (.iaload, 1) := by decide +kernel
theorem dX11_years_31 : decode cX11_years 31 = .ok (.iload_n 1, 1) := by decide +kernel
theorem dX11_years_32 : decode cX11_years 32 = .ok (.iadd, 1) := by decide +kernel
theorem dX11_years_33 : decode cX11_years 33 = .ok (.sipush 999, 3) := by decide +kernel
theorem dX11_years_36 : decode cX11_years 36 = .ok (.if_icmp .le 5, 3) := by decide +kernel
theorem dX11_years_39 : decode cX11_years 39 = .ok (.iconst (-1), 1) := by decide +kernel
theorem dX11_years_40 : decode cX11_years 40 = .ok (.ireturn, 1) := by decide +kernel
theorem dX11_years_41 : decode cX11_years 41 = .ok (.aload_n 0, 1) := by decide +kernel
theorem dX11_years_42 : decode cX11_years 42 = .ok (.lload_n 2, 1) := by decide +kernel
theorem dX11_years_43 : decode cX11_years 43 = .ok (.putfield 393, 3) := by decide +kernel
theorem dX11_years_46 : decode cX11_years 46 = .ok (.iconst 0, 1) := by decide +kernel
theorem dX11_years_47 : decode cX11_years 47 = .ok (.istore 4, 2) := by decide +kernel
theorem dX11_years_49 : decode cX11_years 49 = .ok (.iload 4, 2) := by decide +kernel
theorem dX11_years_51 : decode cX11_years 51 = .ok (.iload_n 1, 1) := by decide +kernel
theorem dX11_years_52 : decode cX11_years 52 = .ok (.if_icmp .ge 118, 3) := by decide +kernel
theorem dX11_years_55 : decode cX11_years 55 = .ok (.aload_n 0, 1) := by decide +kernel
theorem dX11_years_56 : decode cX11_years 56 = .ok (.invokevirtual 354, 3) := by decide +kernel
theorem dX11_years_59 : decode cX11_years 59 = .ok (.aload_n 0, 1) := by decide +kernel
theorem dX11_years_60 : decode cX11_years 60 = .ok (.aload_n 0, 1) := by decide +kernel
theorem dX11_years_61 : decode cX11_years 61 = .ok (.getfield 285, 3) := by decide +kernel
theorem dX11_years_64 : decode cX11_years 64 = .ok (.invokevirtual 403, 3) := by decide +kernel
theorem dX11_years_67 : decode cX11_years 67 = .ok (.istore 5, 2) := by decide +kernel
theorem dX11_years_69 : decode cX11_years 69 = .ok (.aload_n 0, 1) := by decide +kernel
theorem dX11_years_70 : decode cX11_years 70 = .ok (.aload_n 0, 1) := by decide +kernel
theorem dX11_years_71 : decode cX11_years 71 = .ok (.getfield 288, 3) := by decide +kernel
theorem dX11_years_74 : decode cX11_years 74 = .ok (.invokevirtual 403, 3) := by decide +kernel
theorem dX11_years_77 : decode cX11_years 77 = .ok (.istore 6, 2) := by decide +kernel
theorem dX11_years_79 : decode cX11_years 79 = .ok (.aload_n 0, 1) := by decide +kernel
theorem dX11_years_80 : decode cX11_years 80 = .ok (.aload_n 0, 1) := by decide +kernel
theorem dX11_years_81 : decode cX11_years 81 = .ok (.getfield 61, 3) := by decide +kernel
theorem dX11_years_84 : decode cX11_years 84 = .ok (.iload 5, 2) := by decide +kernel
theorem dX11_years_86 : decode cX11_years 86 = .ok (.iload 6, 2) := by decide +kernel
theorem dX11_years_88 : decode cX11_years 88 = .ok (.invokevirtual 350, 3) := by decide +kernel
theorem dX11_years_91 : decode cX11_years 91 = .ok (.ifCond .eq 15, 3) := by decide +kernel
theorem dX11_years_94 : decode cX11_years 94 = .ok (.aload_n 0, 1) := by decide +kernel
theorem dX11_years_95 : decode cX11_years 95 = .ok (.aload_n 0, 1) := by decide +kernel
theorem dX11_years_96 : decode cX11_years 96 = .ok (.getfield 61, 3) := by decide +kernel
theorem dX11_years_99 : decode cX11_years 99 = .ok (.iload 5, 2) := by decide +kernel
theorem dX11_years_101 : decode cX11_years 101 = .ok (.iload 6, 2) := by decide +kernel
theorem dX11_years_103 : decode cX11_years 103 = .ok (.invokevirtual 357, 3) := by decide +kernel
theorem dX11_years_106 : decode cX11_years 106 = .ok (.aload_n 0, 1) := by decide +kernel
theorem dX11_years_107 : decode cX11_years 107 = .ok (.bipush 10, 2) := by decide +kernel
theorem dX11_years_109 : decode cX11_years 109 = .ok (.invokevirtual 403, 3) := by decide +kernel
theorem dX11_years_112 : decode cX11_years 112 = .ok (.aload_n 0, 1) := by decide +kernel
theorem dX11_years_113 : decode cX11_years 113 = .ok (.getfield 71, 3) := by decide +kernel
theorem dX11_years_116 : decode cX11_years 116 = .ok (.if_icmp .ge 38, 3) := by decide +kernel
theorem dX11_years_119 : decode cX11_years 119 = .ok (.aload_n 0, 1) := by decide +kernel
theorem dX11_years_120 : decode cX11_years 120 = .ok (.aload_n 0, 1) := by decide +kernel
theorem dX11_years_121 : decode cX11_years 121 = .ok (.getfield 285, 3) := by decide +kernel
theorem dX11_years_124 : decode cX11_years 124 = .ok (.invokevirtual 403, 3) := by decide +kernel
theorem dX11_years_127 : decode cX11_years 127 = .ok (.istore 7, 2) := by decide +kernel
theorem dX11_years_129 : decode cX11_years 129 = .ok (.aload_n 0, 1) := by decide +kernel
theorem dX11_years_130 : decode cX11_years 130 = .ok (.aload_n 0, 1) := by decide +kernel
theorem dX11_years_131 : decode cX11_years 131 = .ok (.getfield 61, 3) := by decide +kernel
theorem dX11_years_134 : decode cX11_years 134 = .ok (.iload 7, 2) := by decide +kernel
theorem dX11_years_136 : decode cX11_years 136 = .ok (.invokevirtual 374, 3) := by decide +kernel
theorem dX11_years_139 : decode cX11_years 139 = .ok (.ifCond .eq 15, 3) := by decide +kernel
theorem dX11_years_142 : decode cX11_years 142 = .ok (.aload_n 0, 1) := by decide +kernel
theorem dX11_years_143 : decode cX11_years 143 = .ok (.aload_n 0, 1) := by decide +kernel
theorem dX11_years_144 : decode cX11_years 144 = .ok (.getfield 61, 3) := by decide +kernel
theorem dX11_years_147 : decode cX11_years 147 = .ok (.iload 7, 2) := by decide +kernel
theorem dX11_years_149 : decode cX11_years 149 = .ok (.invokevirtual 377, 3) := by decide +kernel
theorem dX11_years_152 : decode cX11_years 152 = .ok (.istore 8, 2) := by decide +kernel
theorem dX11_years_154 : decode cX11_years 154 = .ok (.aload_n 0, 1) := by decide +kernel
theorem dX11_years_155 : decode cX11_years 155 = .ok (.aload_n 0, 1) := by decide +kernel
theorem dX11_years_156 : decode cX11_years 156 = .ok (.getfield 61, 3) := by decide +kernel
theorem dX11_years_159 : decode cX11_years 159 = .ok (.invokevirtual 390, 3) := by decide +kernel
theorem dX11_years_162 : decode cX11_years 162 = .ok (.istore 7, 2) := by decide +kernel
theorem dX11_years_164 : decode cX11_years 164 = .ok (.iinc 4 1, 3) := by decide +kernel
theorem dX11_years_167 : decode cX11_years 167 = .ok (.goto (-118), 3) := by decide +kernel
theorem dX11_years_170 : decode cX11_years 170 = .ok (.aload_n 0, 1) := by decide +kernel
theorem dX11_years_171 : decode cX11_years 171 = .ok (.getfield 61, 3) := by decide +kernel
theorem dX11_years_174 : decode cX11_years 174 = .ok (.bipush 65, 2) := by decide +kernel
theorem dX11_years_176 : decode cX11_years 176 = .ok (.iaload, 1) := by decide +kernel
theorem dX11_years_177 : decode cX11_years 177 = .ok (.ireturn, 1) := by decide +kernel
theorem dX11_undo_0 : decode cX11_undo 0 = .ok (.aload_n 0, 1) := by decide +kernel
theorem dX11_undo_1 : decode cX11_undo 1 = .ok (.iconst 0, 1) := by decide +kernel
theorem dX11_undo_2 : decode cX11_undo 2 = .ok (.putfield 90, 3) := by decide +kernel
theorem dX11_undo_5 : decode cX11_undo 5 = .ok (.aload_n 0, 1) := by decide +kernel
theorem dX11_undo_6 : decode cX11_undo 6 = .ok (.getfield 294, 3) := by decide +kernel
theorem dX11_undo_9 : decode cX11_undo 9 = .ok (.ifCond .ne 5, 3) := by decide +kernel
theorem dX11_undo_12 : decode cX11_undo 12 = .ok (.iconst (-1), 1) := by decide +kernel
theorem dX11_undo_13 : decode cX11_undo 13 = .ok (.ireturn, 1) := by decide +kernel
theorem dX11_undo_14 : decode cX11_undo 14 = .ok (.aload_n 0, 1) := by decide +kernel
theorem dX11_undo_15 : decode cX11_undo 15 = .ok (.dup, 1) := by decide +kernel
theorem dX11_undo_16 : decode cX11_undo 16 = .ok (.getfield 294, 3) := by decide +kernel
theorem dX11_undo_19 : decode cX11_undo 19 = .ok (.iconst 1, 1) := by decide +kernel
theorem dX11_undo_20 : decode cX11_undo 20 = .ok (.isub, 1) := by decide +kernel
theorem dX11_undo_21 : decode cX11_undo 21 = .ok (.putfield 294, 3) := by decide +kernel
theorem dX11_undo_24 : decode cX11_undo 24 = .ok (.iconst 0, 1) := by decide +kernel
theorem dX11_undo_25 : decode cX11_undo 25 = .ok (.istore_n 1, 1) := by decide +kernel
theorem dX11_undo_26 : decode cX11_undo 26 = .ok (.iload_n 1, 1) := by decide +kernel
theorem dX11_undo_27 : decode cX11_undo 27 = .ok (.sipush 248, 3) := by decide +kernel
theorem dX11_undo_30 : decode cX11_undo 30 = .ok (.if_icmp .ge 30, 3) := by decide +kernel
theorem dX11_undo_33 : decode cX11_undo 33 = .ok (.aload_n 0, 1) := by decide +kernel
theorem dX11_undo_34 : decode cX11_undo 34 = .ok (.getfield 61, 3) := by decide +kernel
theorem dX11_undo_37 : decode cX11_undo 37 = .ok (.iload_n 1, 1) := by decide +kernel
theorem dX11_undo_38 : decode cX11_undo 38 = .ok (.aload_n 0, 1) := by decide +kernel
theorem dX11_undo_39 : decode cX11_undo 39 = .ok (.getfield 81, 3) := by decide +kernel
theorem dX11_undo_42 : decode cX11_undo 42 = .ok (.sipush 248, 3) := by decide +kernel
theorem dX11_undo_45 : decode cX11_undo 45 = .ok (.aload_n 0, 1) := by decide +kernel
theorem dX11_undo_46 : decode cX11_undo 46 = .ok (.getfield 294, 3) := by decide +kernel
theorem dX11_undo_49 : decode cX11_undo 49 = .ok (.imul, 1) := by decide +kernel
theorem dX11_undo_50 : decode cX11_undo 50 = .ok (.iload_n 1, 1) := by decide +kernel
theorem dX11_undo_51 : decode cX11_undo 51 = .ok (.iadd, 1) := by decide +kernel
theorem dX11_undo_52 : decode cX11_undo 52 = .ok (.iaload, 1) := by decide +kernel
theorem dX11_undo_53 : decode cX11_undo 53 = .ok (.iastore, 1) := by decide +kernel
theorem dX11_undo_54 : decode cX11_undo 54 = .ok (.iinc 1 1, 3) := by decide +kernel
theorem dX11_undo_57 : decode cX11_undo 57 = .ok (.goto (-31), 3) := by decide +kernel
theorem dX11_undo_60 : decode cX11_undo 60 = .ok (.aload_n 0, 1) := by decide +kernel
theorem dX11_undo_61 : decode cX11_undo 61 = .ok (.getfield 294, 3) := by decide +kernel
theorem dX11_undo_64 : decode cX11_undo 64 = .ok (.ireturn, 1) := by decide +kernel
theorem dX11_log_0 : decode cX11_log 0 = .ok (.aload_n 0, 1) := by decide +kernel
theorem dX11_log_1 : decode cX11_log 1 = .ok (.iconst 0, 1) := by decide +kernel
theorem dX11_log_2 : decode cX11_log 2 = .ok (.putfield 90, 3) := by decide +kernel
theorem dX11_log_5 : decode cX11_log 5 = .ok (.iload_n 1, 1) := by decide +kernel
theorem dX11_log_6 : decode cX11_log 6 = .ok (.i2l, 1) := by decide +kernel
theorem dX11_log_7 : decode cX11_log 7 = .ok (.lconst 0, 1) := by decide +kernel
theorem dX11_log_8 : decode cX11_log 8 = .ok (.aload_n 0, 1) := by decide +kernel
theorem dX11_log_9 : decode cX11_log 9 = .ok (.getfield 61, 3) := by decide +kernel
theorem dX11_log_12 : decode cX11_log 12 = .ok (.bipush 67, 2) := by decide +kernel
theorem dX11_log_14 : decode cX11_log 14 = .ok (.iaload, 1) := by decide +kernel
theorem dX11_log_15 : decode cX11_log 15 = .ok (.iconst 1, 1) := by decide +kernel
theorem dX11_log_16 : decode cX11_log 16 = .ok (.isub, 1) := by decide +kernel
theorem dX11_log_17 : decode cX11_log 17 = .ok (.i2l, 1) := by decide +kernel
theorem dX11_log_18 : decode cX11_log 18 = .ok (.invokestatic 211, 3) := by decide +kernel
theorem dX11_log_21 : decode cX11_log 21 = .ok (.ifCond .eq 41, 3) := by decide +kernel
theorem dX11_log_24 : decode cX11_log 24 = .ok (.iload_n 2, 1) := by decide +kernel
theorem dX11_log_25 : decode cX11_log 25 = .ok (.i2l, 1) := by decide +kernel
theorem dX11_log_26 : decode cX11_log 26 = .ok (.lconst 0, 1) := by decide +kernel
theorem dX11_log_27 : decode cX11_log 27 = .ok (.ldc2_w 266, 3) := by decide +kernel
theorem dX11_log_30 : decode cX11_log 30 = .ok (.invokestatic 211, 3) := by decide +kernel
theorem dX11_log_33 : decode cX11_log 33 = .ok (.ifCond .eq 29, 3) := by decide +kernel
theorem dX11_log_36 : decode cX11_log 36 = .ok (.aload_n 0, 1) := by decide +kernel
theorem dX11_log_37 : decode cX11_log 37 = .ok (.getfield 61, 3) := by decide +kernel
theorem dX11_log_40 : decode cX11_log 40 = .ok (.bipush 68, 2) := by decide +kernel
theorem dX11_log_42 : decode cX11_log 42 = .ok (.iconst 3, 1) := by decide +kernel
theorem dX11_log_43 : decode cX11_log 43 = .ok (.aload_n 0, 1) := by decide +kernel
theorem dX11_log_44 : decode cX11_log 44 = .ok (.getfield 61, 3) := by decide +kernel
theorem dX11_log_47 : decode cX11_log 47 = .ok (.bipush 67, 2) := by decide +kernel
theorem dX11_log_49 : decode cX11_log 49 = .ok (.iaload, 1) := by decide +kernel
theorem dX11_log_50 : decode cX11_log 50 = .ok (.iconst 1, 1) := by decide +kernel
theorem dX11_log_51 : decode cX11_log 51 = .ok (.isub, 1) := by decide +kernel
theorem dX11_log_52 : decode cX11_log 52 = .ok (.iload_n 1, 1) := by decide +kernel
theorem dX11_log_53 : decode cX11_log 53 = .ok (.isub, 1) := by decide +kernel
theorem dX11_log_54 : decode cX11_log 54 = .ok (.imul, 1) := by decide +kernel
theorem dX11_log_55 : decode cX11_log 55 = .ok (.iadd, 1) := by decide +kernel
theorem dX11_log_56 : decode cX11_log 56 = .ok (.iload_n 2, 1) := by decide +kernel
theorem dX11_log_57 : decode cX11_log 57 = .ok (.iadd, 1) := by decide +kernel
theorem dX11_log_58 : decode cX11_log 58 = .ok (.iaload, 1) := by decide +kernel
theorem dX11_log_59 : decode cX11_log 59 = .ok (.goto 4, 3) := by decide +kernel
theorem dX11_log_62 : decode cX11_log 62 = .ok (.iconst (-1), 1) := by decide +kernel
theorem dX11_log_63 : decode cX11_log 63 = .ok (.ireturn, 1) := by decide +kernel
theorem dX11_isPlan_0 : decode cX11_isPlan 0 = .ok (.iload_n 1, 1) := by decide +kernel
theorem dX11_isPlan_1 : decode cX11_isPlan 1 = .ok (.ifCond .lt 15, 3) := by decide +kernel
theorem dX11_isPlan_4 : decode cX11_isPlan 4 = .ok (.iload_n 1, 1) := by decide +kernel
theorem dX11_isPlan_5 : decode cX11_isPlan 5 = .ok (.aload_n 0, 1) := by decide +kernel
theorem dX11_isPlan_6 : decode cX11_isPlan 6 = .ok (.getfield 280, 3) := by decide +kernel
theorem dX11_isPlan_9 : decode cX11_isPlan 9 = .ok (.if_icmp .ge 7, 3) := by decide +kernel
theorem dX11_isPlan_12 : decode cX11_isPlan 12 = .ok (.iconst 1, 1) := by decide +kernel
theorem dX11_isPlan_13 : decode cX11_isPlan 13 = .ok (.goto 4, 3) := by decide +kernel
theorem dX11_isPlan_16 : decode cX11_isPlan 16 = .ok (.iconst 0, 1) := by decide +kernel
theorem dX11_isPlan_17 : decode cX11_isPlan 17 = .ok (.ireturn, 1) := by decide +kernel
theorem dX11_step_0 : decode cX11_step 0 = .ok (.aload_n 0, 1) := by decide +kernel
theorem dX11_step_1 : decode cX11_step 1 = .ok (.iconst 0, 1) := by decide +kernel
theorem dX11_step_2 : decode cX11_step 2 = .ok (.putfield 90, 3) := by decide +kernel
theorem dX11_step_5 : decode cX11_step 5 = .ok (.aload_n 0, 1) := by decide +kernel
theorem dX11_step_6 : decode cX11_step 6 = .ok (.iload_n 1, 1) := by decide +kernel
theorem dX11_step_7 : decode cX11_step 7 = .ok (.invokevirtual 406, 3) := by decide +kernel
theorem dX11_step_10 : decode cX11_step 10 = .ok (.ifCond .eq 51, 3) := by decide +kernel
theorem dX11_step_13 : decode cX11_step 13 = .ok (.iload_n 2, 1) := by decide +kernel
theorem dX11_step_14 : decode cX11_step 14 = .ok (.i2l, 1) := by decide +kernel
theorem dX11_step_15 : decode cX11_step 15 = .ok (.lconst 0, 1) := by decide +kernel
theorem dX11_step_16 : decode cX11_step 16 = .ok (.aload_n 0, 1) := by decide +kernel
theorem dX11_step_17 : decode cX11_step 17 = .ok (.getfield 58, 3) := by decide +kernel
theorem dX11_step_20 : decode cX11_step 20 = .ok (.iload_n 1, 1) := by decide +kernel
theorem dX11_step_21 : decode cX11_step 21 = .ok (.iaload, 1) := by decide +kernel
theorem dX11_step_22 : decode cX11_step 22 = .ok (.iconst 1, 1) := by decide +kernel
theorem dX11_step_23 : decode cX11_step 23 = .ok (.isub, 1) := by decide +kernel
theorem dX11_step_24 : decode cX11_step 24 = .ok (.i2l, 1) := by decide +kernel
theorem dX11_step_25 : decode cX11_step 25 = .ok (.invokestatic 211, 3) := by decide +kernel
theorem dX11_step_28 : decode cX11_step 28 = .ok (.ifCond .eq 33, 3) := by decide +kernel
theorem dX11_step_31 : decode cX11_step 31 = .ok (.iload_n 3, 1) := by decide +kernel
theorem dX11_step_32 : decode cX11_step 32 = .ok (.i2l, 1) := by decide +kernel
theorem dX11_step_33 : decode cX11_step 33 = .ok (.lconst 0, 1) := by decide +kernel
theorem dX11_step_34 : decode cX11_step 34 = .ok (.ldc2_w 266, 3) := by decide +kernel
theorem dX11_step_37 : decode cX11_step 37 = .ok (.invokestatic 211, 3) := by decide +kernel
theorem dX11_step_40 : decode cX11_step 40 = .ok (.ifCond .eq 21, 3) := by decide +kernel
theorem dX11_step_43 : decode cX11_step 43 = .ok (.aload_n 0, 1) := by decide +kernel
theorem dX11_step_44 : decode cX11_step 44 = .ok (.getfield 55, 3) := by decide +kernel
theorem dX11_step_47 : decode cX11_step 47 = .ok (.iconst 3, 1) := by decide +kernel
theorem dX11_step_48 : decode cX11_step 48 = .ok (.bipush 16, 2) := by decide +kernel
theorem dX11_step_50 : decode cX11_step 50 = .ok (.iload_n 1, 1) := by decide +kernel
theorem dX11_step_51 : decode cX11_step 51 = .ok (.imul, 1) := by decide +kernel
theorem dX11_step_52 : decode cX11_step 52 = .ok (.iload_n 2, 1) := by decide +kernel
theorem dX11_step_53 : decode cX11_step 53 = .ok (.iadd, 1) := by decide +kernel
theorem dX11_step_54 : decode cX11_step 54 = .ok (.imul, 1) := by decide +kernel
theorem dX11_step_55 : decode cX11_step 55 = .ok (.iload_n 3, 1) := by decide +kernel
theorem dX11_step_56 : decode cX11_step 56 = .ok (.iadd, 1) := by decide +kernel
theorem dX11_step_57 : decode cX11_step 57 = .ok (.iaload, 1) := by decide +kernel
theorem dX11_step_58 : decode cX11_step 58 = .ok (.goto 6, 3) := by decide +kernel
theorem dX11_step_61 : decode cX11_step 61 = .ok (.ldc_w 409, 3) := by decide +kernel
theorem dX11_step_64 : decode cX11_step 64 = .ok (.ireturn, 1) := by decide +kernel
theorem dX11_canStep_0 : decode cX11_canStep 0 = .ok (.aload_n 0, 1) := by decide +kernel
theorem dX11_canStep_1 : decode cX11_canStep 1 = .ok (.getfield 55, 3) := by decide +kernel
theorem dX11_canStep_4 : decode cX11_canStep 4 = .ok (.iload_n 2, 1) := by decide +kernel
theorem dX11_canStep_5 : decode cX11_canStep 5 = .ok (.iconst 1, 1) := by decide +kernel
theorem dX11_canStep_6 : decode cX11_canStep 6 = .ok (.iadd, 1) := by decide +kernel
theorem dX11_canStep_7 : decode cX11_canStep 7 = .ok (.iaload, 1) := by decide +kernel
theorem dX11_canStep_8 : decode cX11_canStep 8 = .ok (.istore_n 3, 1) := by decide +kernel
theorem dX11_canStep_9 : decode cX11_canStep 9 = .ok (.aload_n 0, 1) := by decide +kernel
theorem dX11_canStep_10 : decode cX11_canStep 10 = .ok (.getfield 55, 3) := by decide +kernel
theorem dX11_canStep_13 : decode cX11_canStep 13 = .ok (.iload_n 2, 1) := by decide +kernel
theorem dX11_canStep_14 : decode cX11_canStep 14 = .ok (.iaload, 1) := by decide +kernel
theorem dX11_canStep_15 : decode cX11_canStep 15 = .ok (.tableswitch 62 0 2 #[25, 40, 47], 25) := by decide +kernel
theorem dX11_canStep_40 : decode cX11_canStep 40 = .ok (.aload_n 0, 1) := by decide +kernel
theorem dX11_canStep_41 : decode cX11_canStep 41 = .ok (.aload_n 1, 1) := by decide +kernel
theorem dX11_canStep_42 : decode cX11_canStep 42 = .ok (.iload_n 3, 1) := by decide +kernel
theorem dX11_canStep_43 : decode cX11_canStep 43 = .ok (.aload_n 0, 1) := by decide +kernel
theorem dX11_canStep_44 : decode cX11_canStep 44 = .ok (.getfield 55, 3) := by decide +kernel
theorem dX11_canStep_47 : decode cX11_canStep 47 = .ok (.iload_n 2, 1) := by decide +kernel
theorem dX11_canStep_48 : decode cX11_canStep 48 = .ok (.iconst 2, 1) := by decide +kernel
theorem dX11_canStep_49 : decode cX11_canStep 49 = .ok (.iadd, 1) := by decide +kernel
theorem dX11_canStep_50 : decode cX11_canStep 50 = .ok (.iaload, 1) := by decide +kernel
theorem dX11_canStep_51 : decode cX11_canStep 51 = .ok (.invokevirtual 350, 3) := by decide +kernel
theorem dX11_canStep_54 : decode cX11_canStep 54 = .ok (.ireturn, 1) := by decide +kernel
theorem dX11_canStep_55 : decode cX11_canStep 55 = .ok (.aload_n 0, 1) := by decide +kernel
theorem dX11_canStep_56 : decode cX11_canStep 56 = .ok (.aload_n 1, 1) := by decide +kernel
theorem dX11_canStep_57 : decode cX11_canStep 57 = .ok (.iload_n 3, 1) := by decide +kernel
theorem dX11_canStep_58 : decode cX11_canStep 58 = .ok (.invokevirtual 374, 3) := by decide +kernel
theorem dX11_canStep_61 : decode cX11_canStep 61 = .ok (.ireturn, 1) := by decide +kernel
theorem dX11_canStep_62 : decode cX11_canStep 62 = .ok (.aload_n 0, 1) := by decide +kernel
theorem dX11_canStep_63 : decode cX11_canStep 63 = .ok (.aload_n 1, 1) := by decide +kernel
theorem dX11_canStep_64 : decode cX11_canStep 64 = .ok (.iload_n 3, 1) := by decide +kernel
theorem dX11_canStep_65 : decode cX11_canStep 65 = .ok (.aload_n 0, 1) := by decide +kernel
theorem dX11_canStep_66 : decode cX11_canStep 66 = .ok (.getfield 55, 3) := by decide +kernel
theorem dX11_canStep_69 : decode cX11_canStep 69 = .ok (.iload_n 2, 1) := by decide +kernel
theorem dX11_canStep_70 : decode cX11_canStep 70 = .ok (.iconst 2, 1) := by decide +kernel
theorem dX11_canStep_71 : decode cX11_canStep 71 = .ok (.iadd, 1) := by decide +kernel
theorem dX11_canStep_72 : decode cX11_canStep 72 = .ok (.iaload, 1) := by decide +kernel
theorem dX11_canStep_73 : decode cX11_canStep 73 = .ok (.invokevirtual 364, 3) := by decide +kernel
theorem dX11_canStep_76 : decode cX11_canStep 76 = .ok (.ireturn, 1) := by decide +kernel
theorem dX11_canStep_77 : decode cX11_canStep 77 = .ok (.aload_n 1, 1) := by decide +kernel
theorem dX11_canStep_78 : decode cX11_canStep 78 = .ok (.bipush 65, 2) := by decide +kernel
theorem dX11_canStep_80 : decode cX11_canStep 80 = .ok (.iaload, 1) := by decide +kernel
theorem dX11_canStep_81 : decode cX11_canStep 81 = .ok (.sipush 999, 3) := by decide +kernel
theorem dX11_canStep_84 : decode cX11_canStep 84 = .ok (.if_icmp .ge 7, 3) := by decide +kernel
theorem dX11_canStep_87 : decode cX11_canStep 87 = .ok (.iconst 1, 1) := by decide +kernel
theorem dX11_canStep_88 : decode cX11_canStep 88 = .ok (.goto 4, 3) := by decide +kernel
theorem dX11_canStep_91 : decode cX11_canStep 91 = .ok (.iconst 0, 1) := by decide +kernel
theorem dX11_canStep_92 : decode cX11_canStep 92 = .ok (.ireturn, 1) := by decide +kernel
theorem dX11_goStep_0 : decode cX11_goStep 0 = .ok (.aload_n 0, 1) := by decide +kernel
theorem dX11_goStep_1 : decode cX11_goStep 1 = .ok (.getfield 55, 3) := by decide +kernel
theorem dX11_goStep_4 : decode cX11_goStep 4 = .ok (.iload_n 2, 1) := by decide +kernel
theorem dX11_goStep_5 : decode cX11_goStep 5 = .ok (.iconst 1, 1) := by decide +kernel
theorem dX11_goStep_6 : decode cX11_goStep 6 = .ok (.iadd, 1) := by decide +kernel
theorem dX11_goStep_7 : decode cX11_goStep 7 = .ok (.iaload, 1) := by decide +kernel
theorem dX11_goStep_8 : decode cX11_goStep 8 = .ok (.istore_n 3, 1) := by decide +kernel
theorem dX11_goStep_9 : decode cX11_goStep 9 = .ok (.aload_n 0, 1) := by decide +kernel
theorem dX11_goStep_10 : decode cX11_goStep 10 = .ok (.getfield 55, 3) := by decide +kernel
theorem dX11_goStep_13 : decode cX11_goStep 13 = .ok (.iload_n 2, 1) := by decide +kernel
theorem dX11_goStep_14 : decode cX11_goStep 14 = .ok (.iconst 2, 1) := by decide +kernel
theorem dX11_goStep_15 : decode cX11_goStep 15 = .ok (.iadd, 1) := by decide +kernel
theorem dX11_goStep_16 : decode cX11_goStep 16 = .ok (.iaload, 1) := by decide +kernel
theorem dX11_goStep_17 : decode cX11_goStep 17 = .ok (.istore 4, 2) := by decide +kernel
theorem dX11_goStep_19 : decode cX11_goStep 19 = .ok (.iconst 0, 1) := by decide +kernel
theorem dX11_goStep_20 : decode cX11_goStep 20 = .ok (.istore 5, 2) := by decide +kernel
theorem dX11_goStep_22 : decode cX11_goStep 22 = .ok (.aload_n 0, 1) := by decide +kernel
theorem dX11_goStep_23 : decode cX11_goStep 23 = .ok (.getfield 55, 3) := by decide +kernel
theorem dX11_goStep_26 : decode cX11_goStep 26 = .ok (.iload_n 2, 1) := by decide +kernel
theorem dX11_goStep_27 : decode cX11_goStep 27 = .ok (.iaload, 1) := by decide +kernel
theorem dX11_goStep_28 : decode cX11_goStep 28 = .ok (.tableswitch 60 0 2 #[28, 39, 50], 28) := by decide +kernel
theorem dX11_goStep_56 : decode cX11_goStep 56 = .ok (.aload_n 0, 1) := by decide +kernel
theorem dX11_goStep_57 : decode cX11_goStep 57 = .ok (.aload_n 1, 1) := by decide +kernel
theorem dX11_goStep_58 : decode cX11_goStep 58 = .ok (.iload_n 3, 1) := by decide +kernel
theorem dX11_goStep_59 : decode cX11_goStep 59 = .ok (.iload 4, 2) := by decide +kernel
theorem dX11_goStep_61 : decode cX11_goStep 61 = .ok (.invokevirtual 357, 3) := by decide +kernel
theorem dX11_goStep_64 : decode cX11_goStep 64 = .ok (.goto 31, 3) := by decide +kernel
theorem dX11_goStep_67 : decode cX11_goStep 67 = .ok (.aload_n 0, 1) := by decide +kernel
theorem dX11_goStep_68 : decode cX11_goStep 68 = .ok (.aload_n 1, 1) := by decide +kernel
theorem dX11_goStep_69 : decode cX11_goStep 69 = .ok (.iload_n 3, 1) := by decide +kernel
theorem dX11_goStep_70 : decode cX11_goStep 70 = .ok (.invokevirtual 377, 3) := by decide +kernel
theorem dX11_goStep_73 : decode cX11_goStep 73 = .ok (.istore 5, 2) := by decide +kernel
theorem dX11_goStep_75 : decode cX11_goStep 75 = .ok (.goto 20, 3) := by decide +kernel
theorem dX11_goStep_78 : decode cX11_goStep 78 = .ok (.aload_n 1, 1) := by decide +kernel
theorem dX11_goStep_79 : decode cX11_goStep 79 = .ok (.iload_n 3, 1) := by decide +kernel
theorem dX11_goStep_80 : decode cX11_goStep 80 = .ok (.iload 4, 2) := by decide +kernel
theorem dX11_goStep_82 : decode cX11_goStep 82 = .ok (.invokestatic 367, 3) := by decide +kernel
theorem dX11_goStep_85 : decode cX11_goStep 85 = .ok (.goto 10, 3) := by decide +kernel
theorem dX11_goStep_88 : decode cX11_goStep 88 = .ok (.aload_n 0, 1) := by decide +kernel
theorem dX11_goStep_89 : decode cX11_goStep 89 = .ok (.aload_n 1, 1) := by decide +kernel
theorem dX11_goStep_90 : decode cX11_goStep 90 = .ok (.invokevirtual 390, 3) := by decide +kernel
theorem dX11_goStep_93 : decode cX11_goStep 93 = .ok (.istore 5, 2) := by decide +kernel
theorem dX11_goStep_95 : decode cX11_goStep 95 = .ok (.return_, 1) := by decide +kernel
theorem dX11_run_0 : decode cX11_run 0 = .ok (.aload_n 0, 1) := by decide +kernel
theorem dX11_run_1 : decode cX11_run 1 = .ok (.iconst 0, 1) := by decide +kernel
theorem dX11_run_2 : decode cX11_run 2 = .ok (.putfield 90, 3) := by decide +kernel
theorem dX11_run_5 : decode cX11_run 5 = .ok (.aload_n 0, 1) := by decide +kernel
theorem dX11_run_6 : decode cX11_run 6 = .ok (.iload_n 1, 1) := by decide +kernel
theorem dX11_run_7 : decode cX11_run 7 = .ok (.invokevirtual 406, 3) := by decide +kernel
theorem dX11_run_10 : decode cX11_run 10 = .ok (.ifCond .eq 20, 3) := by decide +kernel
theorem dX11_run_13 : decode cX11_run 13 = .ok (.aload_n 0, 1) := by decide +kernel
theorem dX11_run_14 : decode cX11_run 14 = .ok (.getfield 285, 3) := by decide +kernel
theorem dX11_run_17 : decode cX11_run 17 = .ok (.ifCond .eq 13, 3) := by decide +kernel
theorem dX11_run_20 : decode cX11_run 20 = .ok (.iload_n 2, 1) := by decide +kernel
theorem dX11_run_21 : decode cX11_run 21 = .ok (.i2l, 1) := by decide +kernel
theorem dX11_run_22 : decode cX11_run 22 = .ok (.lconst 0, 1) := by decide +kernel
theorem dX11_run_23 : decode cX11_run 23 = .ok (.lconst 1, 1) := by decide +kernel
theorem dX11_run_24 : decode cX11_run 24 = .ok (.invokestatic 211, 3) := by decide +kernel
theorem dX11_run_27 : decode cX11_run 27 = .ok (.ifCond .ne 7, 3) := by decide +kernel
theorem dX11_run_30 : decode cX11_run 30 = .ok (.ldc_w 409, 3) := by decide +kernel
theorem dX11_run_33 : decode cX11_run 33 = .ok (.ireturn, 1) := by decide +kernel
theorem dX11_run_34 : decode cX11_run 34 = .ok (.aload_n 0, 1) := by decide +kernel
theorem dX11_run_35 : decode cX11_run 35 = .ok (.getfield 61, 3) := by decide +kernel
theorem dX11_run_38 : decode cX11_run 38 = .ok (.aload_n 0, 1) := by decide +kernel
theorem dX11_run_39 : decode cX11_run 39 = .ok (.getfield 64, 3) := by decide +kernel
theorem dX11_run_42 : decode cX11_run 42 = .ok (.invokestatic 410, 3) := by decide +kernel
theorem dX11_run_45 : decode cX11_run 45 = .ok (.iconst 0, 1) := by decide +kernel
theorem dX11_run_46 : decode cX11_run 46 = .ok (.istore_n 3, 1) := by decide +kernel
theorem dX11_run_47 : decode cX11_run 47 = .ok (.iload_n 3, 1) := by decide +kernel
theorem dX11_run_48 : decode cX11_run 48 = .ok (.aload_n 0, 1) := by decide +kernel
theorem dX11_run_49 : decode cX11_run 49 = .ok (.getfield 58, 3) := by decide +kernel
theorem dX11_run_52 : decode cX11_run 52 = .ok (.iload_n 1, 1) := by decide +kernel
theorem dX11_run_53 : decode cX11_run 53 = .ok (.iaload, 1) := by decide +kernel
theorem dX11_run_54 : decode cX11_run 54 = .ok (.if_icmp .ge 44, 3) := by decide +kernel
theorem dX11_run_57 : decode cX11_run 57 = .ok (.aload_n 0, 1) := by decide +kernel
theorem dX11_run_58 : decode cX11_run 58 = .ok (.aload_n 0, 1) := by decide +kernel
theorem dX11_run_59 : decode cX11_run 59 = .ok (.getfield 64, 3) := by decide +kernel
theorem dX11_run_62 : decode cX11_run 62 = .ok (.iconst 3, 1) := by decide +kernel
theorem dX11_run_63 : decode cX11_run 63 = .ok (.bipush 16, 2) := by decide +kernel
theorem dX11_run_65 : decode cX11_run 65 = .ok (.iload_n 1, 1) := by decide +kernel
theorem dX11_run_66 : decode cX11_run 66 = .ok (.imul, 1) := by decide +kernel
theorem dX11_run_67 : decode cX11_run 67 = .ok (.iload_n 3, 1) := by decide +kernel
theorem dX11_run_68 : decode cX11_run 68 = .ok (.iadd, 1) := by decide +kernel
theorem dX11_run_69 : decode cX11_run 69 = .ok (.imul, 1) := by decide +kernel
theorem dX11_run_70 : decode cX11_run 70 = .ok (.invokevirtual 414, 3) := by decide +kernel
theorem dX11_run_73 : decode cX11_run 73 = .ok (.ifCond .eq 25, 3) := by decide +kernel
theorem dX11_run_76 : decode cX11_run 76 = .ok (.aload_n 0, 1) := by decide +kernel
theorem dX11_run_77 : decode cX11_run 77 = .ok (.aload_n 0, 1) := by decide +kernel
theorem dX11_run_78 : decode cX11_run 78 = .ok (.getfield 64, 3) := by decide +kernel
theorem dX11_run_81 : decode cX11_run 81 = .ok (.iconst 3, 1) := by decide +kernel
theorem dX11_run_82 : decode cX11_run 82 = .ok (.bipush 16, 2) := by decide +kernel
theorem dX11_run_84 : decode cX11_run 84 = .ok (.iload_n 1, 1) := by decide +kernel
theorem dX11_run_85 : decode cX11_run 85 = .ok (.imul, 1) := by decide +kernel
theorem dX11_run_86 : decode cX11_run 86 = .ok (.iload_n 3, 1) := by decide +kernel
theorem dX11_run_87 : decode cX11_run 87 = .ok (.iadd, 1) := by decide +kernel
theorem dX11_run_88 : decode cX11_run 88 = .ok (.imul, 1) := by decide +kernel
theorem dX11_run_89 : decode cX11_run 89 = .ok (.invokevirtual 417, 3) := by decide +kernel
theorem dX11_run_92 : decode cX11_run 92 = .ok (.iinc 3 1, 3) := by decide +kernel
theorem dX11_run_95 : decode cX11_run 95 = .ok (.goto (-48), 3) := by decide +kernel
theorem dX11_run_98 : decode cX11_run 98 = .ok (.iload_n 2, 1) := by decide +kernel
theorem dX11_run_99 : decode cX11_run 99 = .ok (.iconst 1, 1) := by decide +kernel
theorem dX11_run_100 : decode cX11_run 100 = .ok (.if_icmp .ne 19, 3) := by decide +kernel
theorem dX11_run_103 : decode cX11_run 103 = .ok (.aload_n 0, 1) := by decide +kernel
theorem dX11_run_104 : decode cX11_run 104 = .ok (.getfield 64, 3) := by decide +kernel
theorem dX11_run_107 : decode cX11_run 107 = .ok (.bipush 61, 2) := by decide +kernel
theorem dX11_run_109 : decode cX11_run 109 = .ok (.iaload, 1) := by decide +kernel
theorem dX11_run_110 : decode cX11_run 110 = .ok (.aload_n 0, 1) := by decide +kernel
theorem dX11_run_111 : decode cX11_run 111 = .ok (.getfield 61, 3) := by decide +kernel
theorem dX11_run_114 : decode cX11_run 114 = .ok (.bipush 61, 2) := by decide +kernel
theorem dX11_run_116 : decode cX11_run 116 = .ok (.iaload, 1) := by decide +kernel
theorem dX11_run_117 : decode cX11_run 117 = .ok (.isub, 1) := by decide +kernel
theorem dX11_run_118 : decode cX11_run 118 = .ok (.ireturn, 1) := by decide +kernel
theorem dX11_run_119 : decode cX11_run 119 = .ok (.iload_n 3, 1) := by decide +kernel
theorem dX11_run_120 : decode cX11_run 120 = .ok (.aload_n 0, 1) := by decide +kernel
theorem dX11_run_121 : decode cX11_run 121 = .ok (.getfield 58, 3) := by decide +kernel
theorem dX11_run_124 : decode cX11_run 124 = .ok (.iload_n 1, 1) := by decide +kernel
theorem dX11_run_125 : decode cX11_run 125 = .ok (.iaload, 1) := by decide +kernel
theorem dX11_run_126 : decode cX11_run 126 = .ok (.if_icmp .ne 7, 3) := by decide +kernel
theorem dX11_run_129 : decode cX11_run 129 = .ok (.iconst (-1), 1) := by decide +kernel
theorem dX11_run_130 : decode cX11_run 130 = .ok (.goto 4, 3) := by decide +kernel
theorem dX11_run_133 : decode cX11_run 133 = .ok (.iload_n 3, 1) := by decide +kernel
theorem dX11_run_134 : decode cX11_run 134 = .ok (.ireturn, 1) := by decide +kernel
theorem dX11_perform_0 : decode cX11_perform 0 = .ok (.aload_n 0, 1) := by decide +kernel
theorem dX11_perform_1 : decode cX11_perform 1 = .ok (.iconst 0, 1) := by decide +kernel
theorem dX11_perform_2 : decode cX11_perform 2 = .ok (.putfield 90, 3) := by decide +kernel
theorem dX11_perform_5 : decode cX11_perform 5 = .ok (.aload_n 0, 1) := by decide +kernel
theorem dX11_perform_6 : decode cX11_perform 6 = .ok (.iload_n 1, 1) := by decide +kernel
theorem dX11_perform_7 : decode cX11_perform 7 = .ok (.invokevirtual 406, 3) := by decide +kernel
theorem dX11_perform_10 : decode cX11_perform 10 = .ok (.ifCond .eq 10, 3) := by decide +kernel
theorem dX11_perform_13 : decode cX11_perform 13 = .ok (.aload_n 0, 1) := by decide +kernel
theorem dX11_perform_14 : decode cX11_perform 14 = .ok (.getfield 285, 3) := by decide +kernel
theorem dX11_perform_17 : decode cX11_perform 17 = .ok (.ifCond .ne 5, 3) := by decide +kernel
theorem dX11_perform_20 : decode cX11_perform 20 = .ok (.iconst (-1), 1) := by decide +kernel
theorem dX11_perform_21 : decode cX11_perform 21 = .ok (.ireturn, 1) := by decide +kernel
theorem dX11_perform_22 : decode cX11_perform 22 = .ok (.iconst 0, 1) := by decide +kernel
theorem dX11_perform_23 : decode cX11_perform 23 = .ok (.istore_n 2, 1) := by decide +kernel
theorem dX11_perform_24 : decode cX11_perform 24 = .ok (.iload_n 2, 1) := by decide +kernel
theorem dX11_perform_25 : decode cX11_perform 25 = .ok (.aload_n 0, 1) := by decide +kernel
theorem dX11_perform_26 : decode cX11_perform 26 = .ok (.getfield 58, 3) := by decide +kernel
theorem dX11_perform_29 : decode cX11_perform 29 = .ok (.iload_n 1, 1) := by decide +kernel
theorem dX11_perform_30 : decode cX11_perform 30 = .ok (.iaload, 1) := by decide +kernel
theorem dX11_perform_31 : decode cX11_perform 31 = .ok (.if_icmp .ge 48, 3) := by decide +kernel
theorem dX11_perform_34 : decode cX11_perform 34 = .ok (.aload_n 0, 1) := by decide +kernel
theorem dX11_perform_35 : decode cX11_perform 35 = .ok (.aload_n 0, 1) := by decide +kernel
theorem dX11_perform_36 : decode cX11_perform 36 = .ok (.getfield 61, 3) := by decide +kernel
theorem dX11_perform_39 : decode cX11_perform 39 = .ok (.iconst 3, 1) := by decide +kernel
theorem dX11_perform_40 : decode cX11_perform 40 = .ok (.bipush 16, 2) := by decide +kernel
theorem dX11_perform_42 : decode cX11_perform 42 = .ok (.iload_n 1, 1) := by decide +kernel
theorem dX11_perform_43 : decode cX11_perform 43 = .ok (.imul, 1) := by decide +kernel
theorem dX11_perform_44 : decode cX11_perform 44 = .ok (.iload_n 2, 1) := by decide +kernel
theorem dX11_perform_45 : decode cX11_perform 45 = .ok (.iadd, 1) := by decide +kernel
theorem dX11_perform_46 : decode cX11_perform 46 = .ok (.imul, 1) := by decide +kernel
theorem dX11_perform_47 : decode cX11_perform 47 = .ok (.invokevirtual 414, 3) := by decide +kernel
theorem dX11_perform_50 : decode cX11_perform 50 = .ok (.ifCond .eq 29, 3) := by decide +kernel
theorem dX11_perform_53 : decode cX11_perform 53 = .ok (.aload_n 0, 1) := by decide +kernel
theorem dX11_perform_54 : decode cX11_perform 54 = .ok (.invokevirtual 354, 3) := by decide +kernel
theorem dX11_perform_57 : decode cX11_perform 57 = .ok (.aload_n 0, 1) := by decide +kernel
theorem dX11_perform_58 : decode cX11_perform 58 = .ok (.aload_n 0, 1) := by decide +kernel
theorem dX11_perform_59 : decode cX11_perform 59 = .ok (.getfield 61, 3) := by decide +kernel
theorem dX11_perform_62 : decode cX11_perform 62 = .ok (.iconst 3, 1) := by decide +kernel
theorem dX11_perform_63 : decode cX11_perform 63 = .ok (.bipush 16, 2) := by decide +kernel
theorem dX11_perform_65 : decode cX11_perform 65 = .ok (.iload_n 1, 1) := by decide +kernel
theorem dX11_perform_66 : decode cX11_perform 66 = .ok (.imul, 1) := by decide +kernel
theorem dX11_perform_67 : decode cX11_perform 67 = .ok (.iload_n 2, 1) := by decide +kernel
theorem dX11_perform_68 : decode cX11_perform 68 = .ok (.iadd, 1) := by decide +kernel
theorem dX11_perform_69 : decode cX11_perform 69 = .ok (.imul, 1) := by decide +kernel
theorem dX11_perform_70 : decode cX11_perform 70 = .ok (.invokevirtual 417, 3) := by decide +kernel
theorem dX11_perform_73 : decode cX11_perform 73 = .ok (.iinc 2 1, 3) := by decide +kernel
theorem dX11_perform_76 : decode cX11_perform 76 = .ok (.goto (-52), 3) := by decide +kernel
theorem dX11_perform_79 : decode cX11_perform 79 = .ok (.iload_n 2, 1) := by decide +kernel
theorem dX11_perform_80 : decode cX11_perform 80 = .ok (.ireturn, 1) := by decide +kernel
theorem dX11_skin_0 : decode cX11_skin 0 = .ok (.aload_n 0, 1) := by decide +kernel
theorem dX11_skin_1 : decode cX11_skin 1 = .ok (.iconst 0, 1) := by decide +kernel
theorem dX11_skin_2 : decode cX11_skin 2 = .ok (.putfield 90, 3) := by decide +kernel
theorem dX11_skin_5 : decode cX11_skin 5 = .ok (.aload_n 0, 1) := by decide +kernel
theorem dX11_skin_6 : decode cX11_skin 6 = .ok (.iload_n 1, 1) := by decide +kernel
theorem dX11_skin_7 : decode cX11_skin 7 = .ok (.invokevirtual 342, 3) := by decide +kernel
theorem dX11_skin_10 : decode cX11_skin 10 = .ok (.ifCond .eq 15, 3) := by decide +kernel
theorem dX11_skin_13 : decode cX11_skin 13 = .ok (.iload_n 2, 1) := by decide +kernel
theorem dX11_skin_14 : decode cX11_skin 14 = .ok (.i2l, 1) := by decide +kernel
theorem dX11_skin_15 : decode cX11_skin 15 = .ok (.lconst 0, 1) := by decide +kernel
theorem dX11_skin_16 : decode cX11_skin 16 = .ok (.ldc2_w 266, 3) := by decide +kernel
theorem dX11_skin_19 : decode cX11_skin 19 = .ok (.invokestatic 211, 3) := by decide +kernel
theorem dX11_skin_22 : decode cX11_skin 22 = .ok (.ifCond .ne 7, 3) := by decide +kernel
theorem dX11_skin_25 : decode cX11_skin 25 = .ok (.ldc_w 409, 3) := by decide +kernel
theorem dX11_skin_28 : decode cX11_skin 28 = .ok (.ireturn, 1) := by decide +kernel
theorem dX11_skin_29 : decode cX11_skin 29 = .ok (.iload_n 2, 1) := by decide +kernel
theorem dX11_skin_30 : decode cX11_skin 30 = .ok (.ifCond .ne 9, 3) := by decide +kernel
theorem dX11_skin_33 : decode cX11_skin 33 = .ok (.aload_n 0, 1) := by decide +kernel
theorem dX11_skin_34 : decode cX11_skin 34 = .ok (.iload_n 1, 1) := by decide +kernel
theorem dX11_skin_35 : decode cX11_skin 35 = .ok (.invokevirtual 361, 3) := by decide +kernel
theorem dX11_skin_38 : decode cX11_skin 38 = .ok (.ireturn, 1) := by decide +kernel
theorem dX11_skin_39 : decode cX11_skin 39 = .ok (.aload_n 0, 1) := by decide +kernel
theorem dX11_skin_40 : decode cX11_skin 40 = .ok (.aload_n 0, 1) := by decide +kernel
theorem dX11_skin_41 : decode cX11_skin 41 = .ok (.getfield 61, 3) := by decide +kernel
theorem dX11_skin_44 : decode cX11_skin 44 = .ok (.iload_n 1, 1) := by decide +kernel
theorem dX11_skin_45 : decode cX11_skin 45 = .ok (.aload_n 0, 1) := by decide +kernel
theorem dX11_skin_46 : decode cX11_skin 46 = .ok (.aload_n 0, 1) := by decide +kernel
theorem dX11_skin_47 : decode cX11_skin 47 = .ok (.getfield 61, 3) := by decide +kernel
theorem dX11_skin_50 : decode cX11_skin 50 = .ok (.iload_n 1, 1) := by decide +kernel
theorem dX11_skin_51 : decode cX11_skin 51 = .ok (.invokevirtual 335, 3) := by decide +kernel
theorem dX11_skin_54 : decode cX11_skin 54 = .ok (.invokevirtual 339, 3) := by decide +kernel
theorem dX11_skin_57 : decode cX11_skin 57 = .ok (.istore_n 3, 1) := by decide +kernel
theorem dX11_skin_58 : decode cX11_skin 58 = .ok (.iload_n 2, 1) := by decide +kernel
theorem dX11_skin_59 : decode cX11_skin 59 = .ok (.iconst 1, 1) := by decide +kernel
theorem dX11_skin_60 : decode cX11_skin 60 = .ok (.if_icmp .ne 7, 3) := by decide +kernel
theorem dX11_skin_63 : decode cX11_skin 63 = .ok (.iload_n 3, 1) := by decide +kernel
theorem dX11_skin_64 : decode cX11_skin 64 = .ok (.goto 12, 3) := by decide +kernel
theorem dX11_skin_67 : decode cX11_skin 67 = .ok (.iload_n 3, 1) := by decide +kernel
theorem dX11_skin_68 : decode cX11_skin 68 = .ok (.ifCond .le 7, 3) := by decide +kernel
theorem dX11_skin_71 : decode cX11_skin 71 = .ok (.iconst 1, 1) := by decide +kernel
theorem dX11_skin_72 : decode cX11_skin 72 = .ok (.goto 4, 3) := by decide +kernel
theorem dX11_skin_75 : decode cX11_skin 75 = .ok (.iconst 0, 1) := by decide +kernel
theorem dX11_skin_76 : decode cX11_skin 76 = .ok (.ireturn, 1) := by decide +kernel
theorem dX11_meetsSet_0 : decode cX11_meetsSet 0 = .ok (.aload_n 0, 1) := by decide +kernel
theorem dX11_meetsSet_1 : decode cX11_meetsSet 1 = .ok (.getfield 421, 3) := by decide +kernel
theorem dX11_meetsSet_4 : decode cX11_meetsSet 4 = .ok (.iconst (-1), 1) := by decide +kernel
theorem dX11_meetsSet_5 : decode cX11_meetsSet 5 = .ok (.if_icmp .eq 11, 3) := by decide +kernel
theorem dX11_meetsSet_8 : decode cX11_meetsSet 8 = .ok (.iload_n 2, 1) := by decide +kernel
theorem dX11_meetsSet_9 : decode cX11_meetsSet 9 = .ok (.aload_n 0, 1) := by decide +kernel
theorem dX11_meetsSet_10 : decode cX11_meetsSet 10 = .ok (.getfield 424, 3) := by decide +kernel
theorem dX11_meetsSet_13 : decode cX11_meetsSet 13 = .ok (.if_icmp .ge 7, 3) := by decide +kernel
theorem dX11_meetsSet_16 : decode cX11_meetsSet 16 = .ok (.iconst 1, 1) := by decide +kernel
theorem dX11_meetsSet_17 : decode cX11_meetsSet 17 = .ok (.goto 4, 3) := by decide +kernel
theorem dX11_meetsSet_20 : decode cX11_meetsSet 20 = .ok (.iconst 0, 1) := by decide +kernel
theorem dX11_meetsSet_21 : decode cX11_meetsSet 21 = .ok (.istore_n 3, 1) := by decide +kernel
theorem dX11_meetsSet_22 : decode cX11_meetsSet 22 = .ok (.aload_n 0, 1) := by decide +kernel
theorem dX11_meetsSet_23 : decode cX11_meetsSet 23 = .ok (.getfield 421, 3) := by decide +kernel
theorem dX11_meetsSet_26 : decode cX11_meetsSet 26 = .ok (.iconst (-1), 1) := by decide +kernel
theorem dX11_meetsSet_27 : decode cX11_meetsSet 27 = .ok (.if_icmp .eq 53, 3) := by decide +kernel
theorem dX11_meetsSet_30 : decode cX11_meetsSet 30 = .ok (.iload_n 2, 1) := by decide +kernel
theorem dX11_meetsSet_31 : decode cX11_meetsSet 31 = .ok (.aload_n 0, 1) := by decide +kernel
theorem dX11_meetsSet_32 : decode cX11_meetsSet 32 = .ok (.getfield 424, 3) := by decide +kernel
theorem dX11_meetsSet_35 : decode cX11_meetsSet 35 = .ok (.if_icmp .ne 45, 3) := by decide +kernel
theorem dX11_meetsSet_38 : decode cX11_meetsSet 38 = .ok (.iload_n 1, 1) := by decide +kernel
theorem dX11_meetsSet_39 : decode cX11_meetsSet 39 = .ok (.invokestatic 327, 3) := by decide +kernel
theorem dX11_meetsSet_42 : decode cX11_meetsSet 42 = .ok (.aload_n 0, 1) := by decide +kernel
theorem dX11_meetsSet_43 : decode cX11_meetsSet 43 = .ok (.getfield 421, 3) := by decide +kernel
theorem dX11_meetsSet_46 : decode cX11_meetsSet 46 = .ok (.invokestatic 327, 3) := by decide +kernel
theorem dX11_meetsSet_49 : decode cX11_meetsSet 49 = .ok (.if_icmp .lt 25, 3) := by decide +kernel
theorem dX11_meetsSet_52 : decode cX11_meetsSet 52 = .ok (.iload_n 1, 1) := by decide +kernel
theorem dX11_meetsSet_53 : decode cX11_meetsSet 53 = .ok (.invokestatic 327, 3) := by decide +kernel
theorem dX11_meetsSet_56 : decode cX11_meetsSet 56 = .ok (.aload_n 0, 1) := by decide +kernel
theorem dX11_meetsSet_57 : decode cX11_meetsSet 57 = .ok (.getfield 421, 3) := by decide +kernel
theorem dX11_meetsSet_60 : decode cX11_meetsSet 60 = .ok (.invokestatic 327, 3) := by decide +kernel
theorem dX11_meetsSet_63 : decode cX11_meetsSet 63 = .ok (.if_icmp .ne 15, 3) := by decide +kernel
theorem dX11_meetsSet_66 : decode cX11_meetsSet 66 = .ok (.iload_n 1, 1) := by decide +kernel
theorem dX11_meetsSet_67 : decode cX11_meetsSet 67 = .ok (.aload_n 0, 1) := by decide +kernel
theorem dX11_meetsSet_68 : decode cX11_meetsSet 68 = .ok (.getfield 421, 3) := by decide +kernel
theorem dX11_meetsSet_71 : decode cX11_meetsSet 71 = .ok (.if_icmp .ge 7, 3) := by decide +kernel
theorem dX11_meetsSet_74 : decode cX11_meetsSet 74 = .ok (.iconst 1, 1) := by decide +kernel
theorem dX11_meetsSet_75 : decode cX11_meetsSet 75 = .ok (.goto 4, 3) := by decide +kernel
theorem dX11_meetsSet_78 : decode cX11_meetsSet 78 = .ok (.iconst 0, 1) := by decide +kernel
theorem dX11_meetsSet_79 : decode cX11_meetsSet 79 = .ok (.istore_n 3, 1) := by decide +kernel
theorem dX11_meetsSet_80 : decode cX11_meetsSet 80 = .ok (.iload_n 3, 1) := by decide +kernel
theorem dX11_meetsSet_81 : decode cX11_meetsSet 81 = .ok (.ifCond .ne 4, 3) := by decide +kernel
theorem dX11_meetsSet_84 : decode cX11_meetsSet 84 = .ok (.return_, 1) := by decide +kernel
theorem dX11_meetsSet_85 : decode cX11_meetsSet 85 = .ok (.aload_n 0, 1) := by decide +kernel
theorem dX11_meetsSet_86 : decode cX11_meetsSet 86 = .ok (.iload_n 1, 1) := by decide +kernel
theorem dX11_meetsSet_87 : decode cX11_meetsSet 87 = .ok (.putfield 421, 3) := by decide +kernel
theorem dX11_meetsSet_90 : decode cX11_meetsSet 90 = .ok (.aload_n 0, 1) := by decide +kernel
theorem dX11_meetsSet_91 : decode cX11_meetsSet 91 = .ok (.iload_n 2, 1) := by decide +kernel
theorem dX11_meetsSet_92 : decode cX11_meetsSet 92 = .ok (.putfield 424, 3) := by decide +kernel
theorem dX11_meetsSet_95 : decode cX11_meetsSet 95 = .ok (.return_, 1) := by decide +kernel
theorem dX11_least_0 : decode cX11_least 0 = .ok (.aload_n 0, 1) := by decide +kernel
theorem dX11_least_1 : decode cX11_least 1 = .ok (.iconst 0, 1) := by decide +kernel
theorem dX11_least_2 : decode cX11_least 2 = .ok (.putfield 90, 3) := by decide +kernel
theorem dX11_least_5 : decode cX11_least 5 = .ok (.aload_n 0, 1) := by decide +kernel
theorem dX11_least_6 : decode cX11_least 6 = .ok (.iload_n 1, 1) := by decide +kernel
theorem dX11_least_7 : decode cX11_least 7 = .ok (.invokevirtual 342, 3) := by decide +kernel
theorem dX11_least_10 : decode cX11_least 10 = .ok (.ifCond .eq 13, 3) := by decide +kernel
theorem dX11_least_13 : decode cX11_least 13 = .ok (.iload_n 2, 1) := by decide +kernel
theorem dX11_least_14 : decode cX11_least 14 = .ok (.i2l, 1) := by decide +kernel
theorem dX11_least_15 : decode cX11_least 15 = .ok (.lconst 0, 1) := by decide +kernel
theorem dX11_least_16 : decode cX11_least 16 = .ok (.lconst 1, 1) := by decide +kernel
theorem dX11_least_17 : decode cX11_least 17 = .ok (.invokestatic 211, 3) := by decide +kernel
theorem dX11_least_20 : decode cX11_least 20 = .ok (.ifCond .ne 5, 3) := by decide +kernel
theorem dX11_least_23 : decode cX11_least 23 = .ok (.iconst (-1), 1) := by decide +kernel
theorem dX11_least_24 : decode cX11_least 24 = .ok (.ireturn, 1) := by decide +kernel
theorem dX11_least_25 : decode cX11_least 25 = .ok (.aload_n 0, 1) := by decide +kernel
theorem dX11_least_26 : decode cX11_least 26 = .ok (.iconst (-1), 1) := by decide +kernel
theorem dX11_least_27 : decode cX11_least 27 = .ok (.putfield 421, 3) := by decide +kernel
theorem dX11_least_30 : decode cX11_least 30 = .ok (.aload_n 0, 1) := by decide +kernel
theorem dX11_least_31 : decode cX11_least 31 = .ok (.aload_n 0, 1) := by decide +kernel
theorem dX11_least_32 : decode cX11_least 32 = .ok (.getfield 61, 3) := by decide +kernel
theorem dX11_least_35 : decode cX11_least 35 = .ok (.iload_n 1, 1) := by decide +kernel
theorem dX11_least_36 : decode cX11_least 36 = .ok (.invokevirtual 335, 3) := by decide +kernel
theorem dX11_least_39 : decode cX11_least 39 = .ok (.istore_n 3, 1) := by decide +kernel
theorem dX11_least_40 : decode cX11_least 40 = .ok (.iconst 0, 1) := by decide +kernel
theorem dX11_least_41 : decode cX11_least 41 = .ok (.istore 4, 2) := by decide +kernel
theorem dX11_least_43 : decode cX11_least 43 = .ok (.iload 4, 2) := by decide +kernel
theorem dX11_least_45 : decode cX11_least 45 = .ok (.iconst 1, 1) := by decide +kernel
theorem dX11_least_46 : decode cX11_least 46 = .ok (.aload_n 0, 1) := by decide +kernel
theorem dX11_least_47 : decode cX11_least 47 = .ok (.getfield 288, 3) := by decide +kernel
theorem dX11_least_50 : decode cX11_least 50 = .ok (.ishl, 1) := by decide +kernel
theorem dX11_least_51 : decode cX11_least 51 = .ok (.if_icmp .ge 45, 3) := by decide +kernel
theorem dX11_least_54 : decode cX11_least 54 = .ok (.iload 4, 2) := by decide +kernel
theorem dX11_least_56 : decode cX11_least 56 = .ok (.iload_n 3, 1) := by decide +kernel
theorem dX11_least_57 : decode cX11_least 57 = .ok (.iand, 1) := by decide +kernel
theorem dX11_least_58 : decode cX11_least 58 = .ok (.ifCond .ne 32, 3) := by decide +kernel
theorem dX11_least_61 : decode cX11_least 61 = .ok (.aload_n 0, 1) := by decide +kernel
theorem dX11_least_62 : decode cX11_least 62 = .ok (.aload_n 0, 1) := by decide +kernel
theorem dX11_least_63 : decode cX11_least 63 = .ok (.getfield 61, 3) := by decide +kernel
theorem dX11_least_66 : decode cX11_least 66 = .ok (.iload_n 1, 1) := by decide +kernel
theorem dX11_least_67 : decode cX11_least 67 = .ok (.iload_n 3, 1) := by decide +kernel
theorem dX11_least_68 : decode cX11_least 68 = .ok (.iload 4, 2) := by decide +kernel
theorem dX11_least_70 : decode cX11_least 70 = .ok (.ior, 1) := by decide +kernel
theorem dX11_least_71 : decode cX11_least 71 = .ok (.invokevirtual 339, 3) := by decide +kernel
theorem dX11_least_74 : decode cX11_least 74 = .ok (.ifCond .le 16, 3) := by decide +kernel
theorem dX11_least_77 : decode cX11_least 77 = .ok (.aload_n 0, 1) := by decide +kernel
theorem dX11_least_78 : decode cX11_least 78 = .ok (.iload 4, 2) := by decide +kernel
theorem dX11_least_80 : decode cX11_least 80 = .ok (.aload_n 0, 1) := by decide +kernel
theorem dX11_least_81 : decode cX11_least 81 = .ok (.iload 4, 2) := by decide +kernel
theorem dX11_least_83 : decode cX11_least 83 = .ok (.iconst 1, 1) := by decide +kernel
theorem dX11_least_84 : decode cX11_least 84 = .ok (.invokevirtual 324, 3) := by decide +kernel
theorem dX11_least_87 : decode cX11_least 87 = .ok (.invokevirtual 427, 3) := by decide +kernel
theorem dX11_least_90 : decode cX11_least 90 = .ok (.iinc 4 1, 3) := by decide +kernel
theorem dX11_least_93 : decode cX11_least 93 = .ok (.goto (-50), 3) := by decide +kernel
theorem dX11_least_96 : decode cX11_least 96 = .ok (.aload_n 0, 1) := by decide +kernel
theorem dX11_least_97 : decode cX11_least 97 = .ok (.getfield 421, 3) := by decide +kernel
theorem dX11_least_100 : decode cX11_least 100 = .ok (.iconst (-1), 1) := by decide +kernel
theorem dX11_least_101 : decode cX11_least 101 = .ok (.if_icmp .eq 7, 3) := by decide +kernel
theorem dX11_least_104 : decode cX11_least 104 = .ok (.iload_n 2, 1) := by decide +kernel
theorem dX11_least_105 : decode cX11_least 105 = .ok (.ifCond .ne 10, 3) := by decide +kernel
theorem dX11_least_108 : decode cX11_least 108 = .ok (.aload_n 0, 1) := by decide +kernel
theorem dX11_least_109 : decode cX11_least 109 = .ok (.getfield 421, 3) := by decide +kernel
theorem dX11_least_112 : decode cX11_least 112 = .ok (.goto 7, 3) := by decide +kernel
theorem dX11_least_115 : decode cX11_least 115 = .ok (.aload_n 0, 1) := by decide +kernel
theorem dX11_least_116 : decode cX11_least 116 = .ok (.getfield 424, 3) := by decide +kernel
theorem dX11_least_119 : decode cX11_least 119 = .ok (.ireturn, 1) := by decide +kernel
theorem dX11_areGuilty_0 : decode cX11_areGuilty 0 = .ok (.iconst 0, 1) := by decide +kernel
theorem dX11_areGuilty_1 : decode cX11_areGuilty 1 = .ok (.istore_n 3, 1) := by decide +kernel
theorem dX11_areGuilty_2 : decode cX11_areGuilty 2 = .ok (.iload_n 3, 1) := by decide +kernel
theorem dX11_areGuilty_3 : decode cX11_areGuilty 3 = .ok (.aload_n 0, 1) := by decide +kernel
theorem dX11_areGuilty_4 : decode cX11_areGuilty 4 = .ok (.getfield 285, 3) := by decide +kernel
theorem dX11_areGuilty_7 : decode cX11_areGuilty 7 = .ok (.if_icmp .ge 42, 3) := by decide +kernel
theorem dX11_areGuilty_10 : decode cX11_areGuilty 10 = .ok (.iload_n 1, 1) := by decide +kernel
theorem dX11_areGuilty_11 : decode cX11_areGuilty 11 = .ok (.iload_n 3, 1) := by decide +kernel
theorem dX11_areGuilty_12 : decode cX11_areGuilty 12 = .ok (.invokestatic 223, 3) := by decide +kernel
theorem dX11_areGuilty_15 : decode cX11_areGuilty 15 = .ok (.ifCond .eq 28, 3) := by decide +kernel
theorem dX11_areGuilty_18 : decode cX11_areGuilty 18 = .ok (.aload_n 0, 1) := by decide +kernel
theorem dX11_areGuilty_19 : decode cX11_areGuilty 19 = .ok (.aload_n 0, 1) := by decide +kernel
theorem dX11_areGuilty_20 : decode cX11_areGuilty 20 = .ok (.getfield 61, 3) := by decide +kernel
theorem dX11_areGuilty_23 : decode cX11_areGuilty 23 = .ok (.iload_n 3, 1) := by decide +kernel
theorem dX11_areGuilty_24 : decode cX11_areGuilty 24 = .ok (.aload_n 0, 1) := by decide +kernel
theorem dX11_areGuilty_25 : decode cX11_areGuilty 25 = .ok (.aload_n 0, 1) := by decide +kernel
theorem dX11_areGuilty_26 : decode cX11_areGuilty 26 = .ok (.getfield 61, 3) := by decide +kernel
theorem dX11_areGuilty_29 : decode cX11_areGuilty 29 = .ok (.iload_n 3, 1) := by decide +kernel
theorem dX11_areGuilty_30 : decode cX11_areGuilty 30 = .ok (.invokevirtual 335, 3) := by decide +kernel
theorem dX11_areGuilty_33 : decode cX11_areGuilty 33 = .ok (.iload_n 2, 1) := by decide +kernel
theorem dX11_areGuilty_34 : decode cX11_areGuilty 34 = .ok (.ior, 1) := by decide +kernel
theorem dX11_areGuilty_35 : decode cX11_areGuilty 35 = .ok (.invokevirtual 339, 3) := by decide +kernel
theorem dX11_areGuilty_38 : decode cX11_areGuilty 38 = .ok (.ifCond .gt 5, 3) := by decide +kernel
theorem dX11_areGuilty_41 : decode cX11_areGuilty 41 = .ok (.iconst 0, 1) := by decide +kernel
theorem dX11_areGuilty_42 : decode cX11_areGuilty 42 = .ok (.ireturn, 1) := by decide +kernel
theorem dX11_areGuilty_43 : decode cX11_areGuilty 43 = .ok (.iinc 3 1, 3) := by decide +kernel
theorem dX11_areGuilty_46 : decode cX11_areGuilty 46 = .ok (.goto (-44), 3) := by decide +kernel
theorem dX11_areGuilty_49 : decode cX11_areGuilty 49 = .ok (.iconst 1, 1) := by decide +kernel
theorem dX11_areGuilty_50 : decode cX11_areGuilty 50 = .ok (.ireturn, 1) := by decide +kernel
theorem dX11_harmOf_0 : decode cX11_harmOf 0 = .ok (.iconst 0, 1) := by decide +kernel
theorem dX11_harmOf_1 : decode cX11_harmOf 1 = .ok (.istore_n 3, 1) := by decide +kernel
theorem dX11_harmOf_2 : decode cX11_harmOf 2 = .ok (.iconst 0, 1) := by decide +kernel
theorem dX11_harmOf_3 : decode cX11_harmOf 3 = .ok (.istore 4, 2) := by decide +kernel
theorem dX11_harmOf_5 : decode cX11_harmOf 5 = .ok (.iload 4, 2) := by decide +kernel
theorem dX11_harmOf_7 : decode cX11_harmOf 7 = .ok (.aload_n 0, 1) := by decide +kernel
theorem dX11_harmOf_8 : decode cX11_harmOf 8 = .ok (.getfield 285, 3) := by decide +kernel
theorem dX11_harmOf_11 : decode cX11_harmOf 11 = .ok (.if_icmp .ge 44, 3) := by decide +kernel
theorem dX11_harmOf_14 : decode cX11_harmOf 14 = .ok (.iload_n 3, 1) := by decide +kernel
theorem dX11_harmOf_15 : decode cX11_harmOf 15 = .ok (.iload_n 1, 1) := by decide +kernel
theorem dX11_harmOf_16 : decode cX11_harmOf 16 = .ok (.iload 4, 2) := by decide +kernel
theorem dX11_harmOf_18 : decode cX11_harmOf 18 = .ok (.invokestatic 223, 3) := by decide +kernel
theorem dX11_harmOf_21 : decode cX11_harmOf 21 = .ok (.ifCond .eq 25, 3) := by decide +kernel
theorem dX11_harmOf_24 : decode cX11_harmOf 24 = .ok (.aload_n 0, 1) := by decide +kernel
theorem dX11_harmOf_25 : decode cX11_harmOf 25 = .ok (.iload_n 2, 1) := by decide +kernel
theorem dX11_harmOf_26 : decode cX11_harmOf 26 = .ok (.aload_n 0, 1) := by decide +kernel
theorem dX11_harmOf_27 : decode cX11_harmOf 27 = .ok (.aload_n 0, 1) := by decide +kernel
theorem dX11_harmOf_28 : decode cX11_harmOf 28 = .ok (.getfield 61, 3) := by decide +kernel
theorem dX11_harmOf_31 : decode cX11_harmOf 31 = .ok (.iload 4, 2) := by decide +kernel
theorem dX11_harmOf_33 : decode cX11_harmOf 33 = .ok (.invokevirtual 335, 3) := by decide +kernel
theorem dX11_harmOf_36 : decode cX11_harmOf 36 = .ok (.iconst (-1), 1) := by decide +kernel
theorem dX11_harmOf_37 : decode cX11_harmOf 37 = .ok (.ixor, 1) := by decide +kernel
theorem dX11_harmOf_38 : decode cX11_harmOf 38 = .ok (.iand, 1) := by decide +kernel
theorem dX11_harmOf_39 : decode cX11_harmOf 39 = .ok (.iconst 1, 1) := by decide +kernel
theorem dX11_harmOf_40 : decode cX11_harmOf 40 = .ok (.invokevirtual 324, 3) := by decide +kernel
theorem dX11_harmOf_43 : decode cX11_harmOf 43 = .ok (.goto 4, 3) := by decide +kernel
theorem dX11_harmOf_46 : decode cX11_harmOf 46 = .ok (.iconst 0, 1) := by decide +kernel
theorem dX11_harmOf_47 : decode cX11_harmOf 47 = .ok (.iadd, 1) := by decide +kernel
theorem dX11_harmOf_48 : decode cX11_harmOf 48 = .ok (.istore_n 3, 1) := by decide +kernel
theorem dX11_harmOf_49 : decode cX11_harmOf 49 = .ok (.iinc 4 1, 3) := by decide +kernel
theorem dX11_harmOf_52 : decode cX11_harmOf 52 = .ok (.goto (-47), 3) := by decide +kernel
theorem dX11_harmOf_55 : decode cX11_harmOf 55 = .ok (.iload_n 3, 1) := by decide +kernel
theorem dX11_harmOf_56 : decode cX11_harmOf 56 = .ok (.ireturn, 1) := by decide +kernel
theorem dX11_cover_0 : decode cX11_cover 0 = .ok (.aload_n 0, 1) := by decide +kernel
theorem dX11_cover_1 : decode cX11_cover 1 = .ok (.iconst 0, 1) := by decide +kernel
theorem dX11_cover_2 : decode cX11_cover 2 = .ok (.putfield 90, 3) := by decide +kernel
theorem dX11_cover_5 : decode cX11_cover 5 = .ok (.aload_n 0, 1) := by decide +kernel
theorem dX11_cover_6 : decode cX11_cover 6 = .ok (.getfield 285, 3) := by decide +kernel
theorem dX11_cover_9 : decode cX11_cover 9 = .ok (.ifCond .eq 31, 3) := by decide +kernel
theorem dX11_cover_12 : decode cX11_cover 12 = .ok (.iload_n 1, 1) := by decide +kernel
theorem dX11_cover_13 : decode cX11_cover 13 = .ok (.i2l, 1) := by decide +kernel
theorem dX11_cover_14 : decode cX11_cover 14 = .ok (.lconst 1, 1) := by decide +kernel
theorem dX11_cover_15 : decode cX11_cover 15 = .ok (.iconst 1, 1) := by decide +kernel
theorem dX11_cover_16 : decode cX11_cover 16 = .ok (.aload_n 0, 1) := by decide +kernel
theorem dX11_cover_17 : decode cX11_cover 17 = .ok (.getfield 285, 3) := by decide +kernel
theorem dX11_cover_20 : decode cX11_cover 20 = .ok (.ishl, 1) := by decide +kernel
theorem dX11_cover_21 : decode cX11_cover 21 = .ok (.iconst 1, 1) := by decide +kernel
theorem dX11_cover_22 : decode cX11_cover 22 = .ok (.isub, 1) := by decide +kernel
theorem dX11_cover_23 : decode cX11_cover 23 = .ok (.i2l, 1) := by decide +kernel
theorem dX11_cover_24 : decode cX11_cover 24 = .ok (.invokestatic 211, 3) := by decide +kernel
theorem dX11_cover_27 : decode cX11_cover 27 = .ok (.ifCond .eq 13, 3) := by decide +kernel
theorem dX11_cover_30 : decode cX11_cover 30 = .ok (.iload_n 2, 1) := by decide +kernel
theorem dX11_cover_31 : decode cX11_cover 31 = .ok (.i2l, 1) := by decide +kernel
theorem dX11_cover_32 : decode cX11_cover 32 = .ok (.lconst 0, 1) := by decide +kernel
theorem dX11_cover_33 : decode cX11_cover 33 = .ok (.lconst 1, 1) := by decide +kernel
theorem dX11_cover_34 : decode cX11_cover 34 = .ok (.invokestatic 211, 3) := by decide +kernel
theorem dX11_cover_37 : decode cX11_cover 37 = .ok (.ifCond .ne 5, 3) := by decide +kernel
theorem dX11_cover_40 : decode cX11_cover 40 = .ok (.iconst (-1), 1) := by decide +kernel
theorem dX11_cover_41 : decode cX11_cover 41 = .ok (.ireturn, 1) := by decide +kernel
theorem dX11_cover_42 : decode cX11_cover 42 = .ok (.aload_n 0, 1) := by decide +kernel
theorem dX11_cover_43 : decode cX11_cover 43 = .ok (.iconst (-1), 1) := by decide +kernel
theorem dX11_cover_44 : decode cX11_cover 44 = .ok (.putfield 421, 3) := by decide +kernel
theorem dX11_cover_47 : decode cX11_cover 47 = .ok (.iconst 0, 1) := by decide +kernel
theorem dX11_cover_48 : decode cX11_cover 48 = .ok (.istore_n 3, 1) := by decide +kernel
theorem dX11_cover_49 : decode cX11_cover 49 = .ok (.iload_n 3, 1) := by decide +kernel
theorem dX11_cover_50 : decode cX11_cover 50 = .ok (.iconst 1, 1) := by decide +kernel
theorem dX11_cover_51 : decode cX11_cover 51 = .ok (.aload_n 0, 1) := by decide +kernel
theorem dX11_cover_52 : decode cX11_cover 52 = .ok (.getfield 288, 3) := by decide +kernel
theorem dX11_cover_55 : decode cX11_cover 55 = .ok (.ishl, 1) := by decide +kernel
theorem dX11_cover_56 : decode cX11_cover 56 = .ok (.if_icmp .ge 29, 3) := by decide +kernel
theorem dX11_cover_59 : decode cX11_cover 59 = .ok (.aload_n 0, 1) := by decide +kernel
theorem dX11_cover_60 : decode cX11_cover 60 = .ok (.iload_n 1, 1) := by decide +kernel
theorem dX11_cover_61 : decode cX11_cover 61 = .ok (.iload_n 3, 1) := by decide +kernel
theorem dX11_cover_62 : decode cX11_cover 62 = .ok (.invokevirtual 431, 3) := by decide +kernel
theorem dX11_cover_65 : decode cX11_cover 65 = .ok (.ifCond .eq 14, 3) := by decide +kernel
theorem dX11_cover_68 : decode cX11_cover 68 = .ok (.aload_n 0, 1) := by decide +kernel
theorem dX11_cover_69 : decode cX11_cover 69 = .ok (.iload_n 3, 1) := by decide +kernel
theorem dX11_cover_70 : decode cX11_cover 70 = .ok (.aload_n 0, 1) := by decide +kernel
theorem dX11_cover_71 : decode cX11_cover 71 = .ok (.iload_n 1, 1) := by decide +kernel
theorem dX11_cover_72 : decode cX11_cover 72 = .ok (.iload_n 3, 1) := by decide +kernel
theorem dX11_cover_73 : decode cX11_cover 73 = .ok (.invokevirtual 434, 3) := by decide +kernel
theorem dX11_cover_76 : decode cX11_cover 76 = .ok (.invokevirtual 427, 3) := by decide +kernel
theorem dX11_cover_79 : decode cX11_cover 79 = .ok (.iinc 3 1, 3) := by decide +kernel
theorem dX11_cover_82 : decode cX11_cover 82 = .ok (.goto (-33), 3) := by decide +kernel
theorem dX11_cover_85 : decode cX11_cover 85 = .ok (.aload_n 0, 1) := by decide +kernel
theorem dX11_cover_86 : decode cX11_cover 86 = .ok (.getfield 421, 3) := by decide +kernel
theorem dX11_cover_89 : decode cX11_cover 89 = .ok (.iconst (-1), 1) := by decide +kernel
theorem dX11_cover_90 : decode cX11_cover 90 = .ok (.if_icmp .eq 7, 3) := by decide +kernel
theorem dX11_cover_93 : decode cX11_cover 93 = .ok (.iload_n 2, 1) := by decide +kernel
theorem dX11_cover_94 : decode cX11_cover 94 = .ok (.ifCond .ne 10, 3) := by decide +kernel
theorem dX11_cover_97 : decode cX11_cover 97 = .ok (.aload_n 0, 1) := by decide +kernel
theorem dX11_cover_98 : decode cX11_cover 98 = .ok (.getfield 421, 3) := by decide +kernel
theorem dX11_cover_101 : decode cX11_cover 101 = .ok (.goto 7, 3) := by decide +kernel
theorem dX11_cover_104 : decode cX11_cover 104 = .ok (.aload_n 0, 1) := by decide +kernel
theorem dX11_cover_105 : decode cX11_cover 105 = .ok (.getfield 424, 3) := by decide +kernel
theorem dX11_cover_108 : decode cX11_cover 108 = .ok (.ireturn, 1) := by decide +kernel
theorem dX11_soon_0 : decode cX11_soon 0 = .ok (.aload_n 0, 1) := by decide +kernel
theorem dX11_soon_1 : decode cX11_soon 1 = .ok (.iconst 0, 1) := by decide +kernel
theorem dX11_soon_2 : decode cX11_soon 2 = .ok (.putfield 90, 3) := by decide +kernel
theorem dX11_soon_5 : decode cX11_soon 5 = .ok (.aload_n 0, 1) := by decide +kernel
theorem dX11_soon_6 : decode cX11_soon 6 = .ok (.iload_n 1, 1) := by decide +kernel
theorem dX11_soon_7 : decode cX11_soon 7 = .ok (.invokevirtual 342, 3) := by decide +kernel
theorem dX11_soon_10 : decode cX11_soon 10 = .ok (.ifCond .ne 5, 3) := by decide +kernel
theorem dX11_soon_13 : decode cX11_soon 13 = .ok (.iconst (-1), 1) := by decide +kernel
theorem dX11_soon_14 : decode cX11_soon 14 = .ok (.ireturn, 1) := by decide +kernel
theorem dX11_soon_15 : decode cX11_soon 15 = .ok (.aload_n 0, 1) := by decide +kernel
theorem dX11_soon_16 : decode cX11_soon 16 = .ok (.getfield 61, 3) := by decide +kernel
theorem dX11_soon_19 : decode cX11_soon 19 = .ok (.aload_n 0, 1) := by decide +kernel
theorem dX11_soon_20 : decode cX11_soon 20 = .ok (.getfield 64, 3) := by decide +kernel
theorem dX11_soon_23 : decode cX11_soon 23 = .ok (.invokestatic 410, 3) := by decide +kernel
theorem dX11_soon_26 : decode cX11_soon 26 = .ok (.iconst 0, 1) := by decide +kernel
theorem dX11_soon_27 : decode cX11_soon 27 = .ok (.istore_n 2, 1) := by decide +kernel
theorem dX11_soon_28 : decode cX11_soon 28 = .ok (.iload_n 2, 1) := by decide +kernel
theorem dX11_soon_29 : decode cX11_soon 29 = .ok (.bipush 60, 2) := by decide +kernel
theorem dX11_soon_31 : decode cX11_soon 31 = .ok (.if_icmp .gt 31, 3) := by decide +kernel
theorem dX11_soon_34 : decode cX11_soon 34 = .ok (.aload_n 0, 1) := by decide +kernel
theorem dX11_soon_35 : decode cX11_soon 35 = .ok (.aload_n 0, 1) := by decide +kernel
theorem dX11_soon_36 : decode cX11_soon 36 = .ok (.getfield 64, 3) := by decide +kernel
theorem dX11_soon_39 : decode cX11_soon 39 = .ok (.iload_n 1, 1) := by decide +kernel
theorem dX11_soon_40 : decode cX11_soon 40 = .ok (.invokevirtual 370, 3) := by decide +kernel
theorem dX11_soon_43 : decode cX11_soon 43 = .ok (.ifCond .ne 5, 3) := by decide +kernel
theorem dX11_soon_46 : decode cX11_soon 46 = .ok (.iload_n 2, 1) := by decide +kernel
theorem dX11_soon_47 : decode cX11_soon 47 = .ok (.ireturn, 1) := by decide +kernel
theorem dX11_soon_48 : decode cX11_soon 48 = .ok (.aload_n 0, 1) := by decide +kernel
theorem dX11_soon_49 : decode cX11_soon 49 = .ok (.aload_n 0, 1) := by decide +kernel
theorem dX11_soon_50 : decode cX11_soon 50 = .ok (.getfield 64, 3) := by decide +kernel
theorem dX11_soon_53 : decode cX11_soon 53 = .ok (.invokevirtual 386, 3) := by decide +kernel
theorem dX11_soon_56 : decode cX11_soon 56 = .ok (.iinc 2 1, 3) := by decide +kernel
theorem dX11_soon_59 : decode cX11_soon 59 = .ok (.goto (-31), 3) := by decide +kernel
theorem dX11_soon_62 : decode cX11_soon 62 = .ok (.iconst (-1), 1) := by decide +kernel
theorem dX11_soon_63 : decode cX11_soon 63 = .ok (.ireturn, 1) := by decide +kernel
theorem dX11_clean_0 : decode cX11_clean 0 = .ok (.aload_n 0, 1) := by decide +kernel
theorem dX11_clean_1 : decode cX11_clean 1 = .ok (.iconst 0, 1) := by decide +kernel
theorem dX11_clean_2 : decode cX11_clean 2 = .ok (.putfield 90, 3) := by decide +kernel
theorem dX11_clean_5 : decode cX11_clean 5 = .ok (.aload_n 0, 1) := by decide +kernel
theorem dX11_clean_6 : decode cX11_clean 6 = .ok (.getfield 285, 3) := by decide +kernel
theorem dX11_clean_9 : decode cX11_clean 9 = .ok (.ifCond .ne 5, 3) := by decide +kernel
theorem dX11_clean_12 : decode cX11_clean 12 = .ok (.iconst (-1), 1) := by decide +kernel
theorem dX11_clean_13 : decode cX11_clean 13 = .ok (.ireturn, 1) := by decide +kernel
theorem dX11_clean_14 : decode cX11_clean 14 = .ok (.iconst 0, 1) := by decide +kernel
theorem dX11_clean_15 : decode cX11_clean 15 = .ok (.istore_n 1, 1) := by decide +kernel
theorem dX11_clean_16 : decode cX11_clean 16 = .ok (.iconst 0, 1) := by decide +kernel
theorem dX11_clean_17 : decode cX11_clean 17 = .ok (.istore_n 2, 1) := by decide +kernel
theorem dX11_clean_18 : decode cX11_clean 18 = .ok (.iload_n 2, 1) := by decide +kernel
theorem dX11_clean_19 : decode cX11_clean 19 = .ok (.aload_n 0, 1) := by decide +kernel
theorem dX11_clean_20 : decode cX11_clean 20 = .ok (.getfield 285, 3) := by decide +kernel
theorem dX11_clean_23 : decode cX11_clean 23 = .ok (.if_icmp .ge 39, 3) := by decide +kernel
theorem dX11_clean_26 : decode cX11_clean 26 = .ok (.iconst 0, 1) := by decide +kernel
theorem dX11_clean_27 : decode cX11_clean 27 = .ok (.istore_n 3, 1) := by decide +kernel
theorem dX11_clean_28 : decode cX11_clean 28 = .ok (.iload_n 3, 1) := by decide +kernel
theorem dX11_clean_29 : decode cX11_clean 29 = .ok (.aload_n 0, 1) := by decide +kernel
theorem dX11_clean_30 : decode cX11_clean 30 = .ok (.getfield 288, 3) := by decide +kernel
theorem dX11_clean_33 : decode cX11_clean 33 = .ok (.if_icmp .ge 23, 3) := by decide +kernel
theorem dX11_clean_36 : decode cX11_clean 36 = .ok (.iload_n 1, 1) := by decide +kernel
theorem dX11_clean_37 : decode cX11_clean 37 = .ok (.aload_n 0, 1) := by decide +kernel
theorem dX11_clean_38 : decode cX11_clean 38 = .ok (.getfield 61, 3) := by decide +kernel
theorem dX11_clean_41 : decode cX11_clean 41 = .ok (.iload_n 2, 1) := by decide +kernel
theorem dX11_clean_42 : decode cX11_clean 42 = .ok (.iload_n 3, 1) := by decide +kernel
theorem dX11_clean_43 : decode cX11_clean 43 = .ok (.invokestatic 300, 3) := by decide +kernel
theorem dX11_clean_46 : decode cX11_clean 46 = .ok (.invokestatic 318, 3) := by decide +kernel
theorem dX11_clean_49 : decode cX11_clean 49 = .ok (.istore_n 1, 1) := by decide +kernel
theorem dX11_clean_50 : decode cX11_clean 50 = .ok (.iinc 3 1, 3) := by decide +kernel
theorem dX11_clean_53 : decode cX11_clean 53 = .ok (.goto (-25), 3) := by decide +kernel
theorem dX11_clean_56 : decode cX11_clean 56 = .ok (.iinc 2 1, 3) := by decide +kernel
theorem dX11_clean_59 : decode cX11_clean 59 = .ok (.goto (-41), 3) := by decide +kernel
theorem dX11_clean_62 : decode cX11_clean 62 = .ok (.iload_n 1, 1) := by decide +kernel
theorem dX11_clean_63 : decode cX11_clean 63 = .ok (.ireturn, 1) := by decide +kernel
theorem dX11_bargain_0 : decode cX11_bargain 0 = .ok (.aload_n 0, 1) := by decide +kernel
theorem dX11_bargain_1 : decode cX11_bargain 1 = .ok (.iconst 0, 1) := by decide +kernel
theorem dX11_bargain_2 : decode cX11_bargain 2 = .ok (.putfield 90, 3) := by decide +kernel
theorem dX11_bargain_5 : decode cX11_bargain 5 = .ok (.aload_n 0, 1) := by decide +kernel
theorem dX11_bargain_6 : decode cX11_bargain 6 = .ok (.iload_n 1, 1) := by decide +kernel
theorem dX11_bargain_7 : decode cX11_bargain 7 = .ok (.invokevirtual 342, 3) := by decide +kernel
theorem dX11_bargain_10 : decode cX11_bargain 10 = .ok (.ifCond .eq 16, 3) := by decide +kernel
theorem dX11_bargain_13 : decode cX11_bargain 13 = .ok (.aload_n 0, 1) := by decide +kernel
theorem dX11_bargain_14 : decode cX11_bargain 14 = .ok (.iload_n 2, 1) := by decide +kernel
theorem dX11_bargain_15 : decode cX11_bargain 15 = .ok (.invokevirtual 342, 3) := by decide +kernel
theorem dX11_bargain_18 : decode cX11_bargain 18 = .ok (.ifCond .eq 8, 3) := by decide +kernel
theorem dX11_bargain_21 : decode cX11_bargain 21 = .ok (.iload_n 1, 1) := by decide +kernel
theorem dX11_bargain_22 : decode cX11_bargain 22 = .ok (.iload_n 2, 1) := by decide +kernel
theorem dX11_bargain_23 : decode cX11_bargain 23 = .ok (.if_icmp .ne 5, 3) := by decide +kernel
theorem dX11_bargain_26 : decode cX11_bargain 26 = .ok (.iconst (-1), 1) := by decide +kernel
theorem dX11_bargain_27 : decode cX11_bargain 27 = .ok (.ireturn, 1) := by decide +kernel
theorem dX11_bargain_28 : decode cX11_bargain 28 = .ok (.aload_n 0, 1) := by decide +kernel
theorem dX11_bargain_29 : decode cX11_bargain 29 = .ok (.aload_n 0, 1) := by decide +kernel
theorem dX11_bargain_30 : decode cX11_bargain 30 = .ok (.getfield 61, 3) := by decide +kernel
theorem dX11_bargain_33 : decode cX11_bargain 33 = .ok (.iload_n 1, 1) := by decide +kernel
theorem dX11_bargain_34 : decode cX11_bargain 34 = .ok (.invokevirtual 335, 3) := by decide +kernel
theorem dX11_bargain_37 : decode cX11_bargain 37 = .ok (.istore_n 3, 1) := by decide +kernel
theorem dX11_bargain_38 : decode cX11_bargain 38 = .ok (.aload_n 0, 1) := by decide +kernel
theorem dX11_bargain_39 : decode cX11_bargain 39 = .ok (.aload_n 0, 1) := by decide +kernel
theorem dX11_bargain_40 : decode cX11_bargain 40 = .ok (.getfield 61, 3) := by decide +kernel
theorem dX11_bargain_43 : decode cX11_bargain 43 = .ok (.iload_n 2, 1) := by decide +kernel
theorem dX11_bargain_44 : decode cX11_bargain 44 = .ok (.invokevirtual 335, 3) := by decide +kernel
theorem dX11_bargain_47 : decode cX11_bargain 47 = .ok (.istore 4, 2) := by decide +kernel
theorem dX11_bargain_49 : decode cX11_bargain 49 = .ok (.iconst 0, 1) := by decide +kernel
theorem dX11_bargain_50 : decode cX11_bargain 50 = .ok (.istore 5, 2) := by decide +kernel
theorem dX11_bargain_52 : decode cX11_bargain 52 = .ok (.iload 5, 2) := by decide +kernel
theorem dX11_bargain_54 : decode cX11_bargain 54 = .ok (.aload_n 0, 1) := by decide +kernel
theorem dX11_bargain_55 : decode cX11_bargain 55 = .ok (.getfield 288, 3) := by decide +kernel
theorem dX11_bargain_58 : decode cX11_bargain 58 = .ok (.if_icmp .ge 70, 3) := by decide +kernel
theorem dX11_bargain_61 : decode cX11_bargain 61 = .ok (.iload_n 3, 1) := by decide +kernel
theorem dX11_bargain_62 : decode cX11_bargain 62 = .ok (.iload 5, 2) := by decide +kernel
theorem dX11_bargain_64 : decode cX11_bargain 64 = .ok (.invokestatic 223, 3) := by decide +kernel
theorem dX11_bargain_67 : decode cX11_bargain 67 = .ok (.ifCond .eq 55, 3) := by decide +kernel
theorem dX11_bargain_70 : decode cX11_bargain 70 = .ok (.iload 4, 2) := by decide +kernel
theorem dX11_bargain_72 : decode cX11_bargain 72 = .ok (.iload 5, 2) := by decide +kernel
theorem dX11_bargain_74 : decode cX11_bargain 74 = .ok (.invokestatic 223, 3) := by decide +kernel
theorem dX11_bargain_77 : decode cX11_bargain 77 = .ok (.ifCond .ne 45, 3) := by decide +kernel
theorem dX11_bargain_80 : decode cX11_bargain 80 = .ok (.aload_n 0, 1) := by decide +kernel
theorem dX11_bargain_81 : decode cX11_bargain 81 = .ok (.aload_n 0, 1) := by decide +kernel
theorem dX11_bargain_82 : decode cX11_bargain 82 = .ok (.getfield 61, 3) := by decide +kernel
theorem dX11_bargain_85 : decode cX11_bargain 85 = .ok (.iload_n 1, 1) := by decide +kernel
theorem dX11_bargain_86 : decode cX11_bargain 86 = .ok (.iload_n 3, 1) := by decide +kernel
theorem dX11_bargain_87 : decode cX11_bargain 87 = .ok (.iconst 1, 1) := by decide +kernel
theorem dX11_bargain_88 : decode cX11_bargain 88 = .ok (.iload 5, 2) := by decide +kernel
theorem dX11_bargain_90 : decode cX11_bargain 90 = .ok (.ishl, 1) := by decide +kernel
theorem dX11_bargain_91 : decode cX11_bargain 91 = .ok (.iconst (-1), 1) := by decide +kernel
theorem dX11_bargain_92 : decode cX11_bargain 92 = .ok (.ixor, 1) := by decide +kernel
theorem dX11_bargain_93 : decode cX11_bargain 93 = .ok (.iand, 1) := by decide +kernel
theorem dX11_bargain_94 : decode cX11_bargain 94 = .ok (.invokevirtual 339, 3) := by decide +kernel
theorem dX11_bargain_97 : decode cX11_bargain 97 = .ok (.ifCond .le 25, 3) := by decide +kernel
theorem dX11_bargain_100 : decode cX11_bargain 100 = .ok (.aload_n 0, 1) := by decide +kernel
theorem dX11_bargain_101 : decode cX11_bargain 101 = .ok (.aload_n 0, 1) := by decide +kernel
theorem dX11_bargain_102 : decode cX11_bargain 102 = .ok (.getfield 61, 3) := by decide +kernel
theorem dX11_bargain_105 : decode cX11_bargain 105 = .ok (.iload_n 2, 1) := by decide +kernel
theorem dX11_bargain_106 : decode cX11_bargain 106 = .ok (.iload 4, 2) := by decide +kernel
theorem dX11_bargain_108 : decode cX11_bargain 108 = .ok (.iconst 1, 1) := by decide +kernel
theorem dX11_bargain_109 : decode cX11_bargain 109 = .ok (.iload 5, 2) := by decide +kernel
theorem dX11_bargain_111 : decode cX11_bargain 111 = .ok (.ishl, 1) := by decide +kernel
theorem dX11_bargain_112 : decode cX11_bargain 112 = .ok (.ior, 1) := by decide +kernel
theorem dX11_bargain_113 : decode cX11_bargain 113 = .ok (.invokevirtual 339, 3) := by decide +kernel
theorem dX11_bargain_116 : decode cX11_bargain 116 = .ok (.ifCond .le 6, 3) := by decide +kernel
theorem dX11_bargain_119 : decode cX11_bargain 119 = .ok (.iload 5, 2) := by decide +kernel
theorem dX11_bargain_121 : decode cX11_bargain 121 = .ok (.ireturn, 1) := by decide +kernel
theorem dX11_bargain_122 : decode cX11_bargain 122 = .ok (.iinc 5 1, 3) := by decide +kernel
theorem dX11_bargain_125 : decode cX11_bargain 125 = .ok (.goto (-73), 3) := by decide +kernel
theorem dX11_bargain_128 : decode cX11_bargain 128 = .ok (.iconst (-1), 1) := by decide +kernel
theorem dX11_bargain_129 : decode cX11_bargain 129 = .ok (.ireturn, 1) := by decide +kernel
theorem dX11_seen_0 : decode cX11_seen 0 = .ok (.aload_n 0, 1) := by decide +kernel
theorem dX11_seen_1 : decode cX11_seen 1 = .ok (.iconst 0, 1) := by decide +kernel
theorem dX11_seen_2 : decode cX11_seen 2 = .ok (.putfield 90, 3) := by decide +kernel
theorem dX11_seen_5 : decode cX11_seen 5 = .ok (.aload_n 0, 1) := by decide +kernel
theorem dX11_seen_6 : decode cX11_seen 6 = .ok (.iload_n 1, 1) := by decide +kernel
theorem dX11_seen_7 : decode cX11_seen 7 = .ok (.invokevirtual 342, 3) := by decide +kernel
theorem dX11_seen_10 : decode cX11_seen 10 = .ok (.ifCond .eq 24, 3) := by decide +kernel
theorem dX11_seen_13 : decode cX11_seen 13 = .ok (.iload_n 2, 1) := by decide +kernel
theorem dX11_seen_14 : decode cX11_seen 14 = .ok (.i2l, 1) := by decide +kernel
theorem dX11_seen_15 : decode cX11_seen 15 = .ok (.lconst 0, 1) := by decide +kernel
theorem dX11_seen_16 : decode cX11_seen 16 = .ok (.ldc2_w 437, 3) := by decide +kernel
theorem dX11_seen_19 : decode cX11_seen 19 = .ok (.invokestatic 211, 3) := by decide +kernel
theorem dX11_seen_22 : decode cX11_seen 22 = .ok (.ifCond .eq 12, 3) := by decide +kernel
theorem dX11_seen_25 : decode cX11_seen 25 = .ok (.aload_n 0, 1) := by decide +kernel
theorem dX11_seen_26 : decode cX11_seen 26 = .ok (.getfield 291, 3) := by decide +kernel
theorem dX11_seen_29 : decode cX11_seen 29 = .ok (.bipush 10, 2) := by decide +kernel
theorem dX11_seen_31 : decode cX11_seen 31 = .ok (.if_icmp .ne 5, 3) := by decide +kernel
theorem dX11_seen_34 : decode cX11_seen 34 = .ok (.iconst (-1), 1) := by decide +kernel
theorem dX11_seen_35 : decode cX11_seen 35 = .ok (.ireturn, 1) := by decide +kernel
theorem dX11_seen_36 : decode cX11_seen 36 = .ok (.aload_n 0, 1) := by decide +kernel
theorem dX11_seen_37 : decode cX11_seen 37 = .ok (.getfield 84, 3) := by decide +kernel
theorem dX11_seen_40 : decode cX11_seen 40 = .ok (.iconst 3, 1) := by decide +kernel
theorem dX11_seen_41 : decode cX11_seen 41 = .ok (.aload_n 0, 1) := by decide +kernel
theorem dX11_seen_42 : decode cX11_seen 42 = .ok (.getfield 291, 3) := by decide +kernel
theorem dX11_seen_45 : decode cX11_seen 45 = .ok (.imul, 1) := by decide +kernel
theorem dX11_seen_46 : decode cX11_seen 46 = .ok (.iload_n 1, 1) := by decide +kernel
theorem dX11_seen_47 : decode cX11_seen 47 = .ok (.iastore, 1) := by decide +kernel
theorem dX11_seen_48 : decode cX11_seen 48 = .ok (.aload_n 0, 1) := by decide +kernel
theorem dX11_seen_49 : decode cX11_seen 49 = .ok (.getfield 84, 3) := by decide +kernel
theorem dX11_seen_52 : decode cX11_seen 52 = .ok (.iconst 3, 1) := by decide +kernel
theorem dX11_seen_53 : decode cX11_seen 53 = .ok (.aload_n 0, 1) := by decide +kernel
theorem dX11_seen_54 : decode cX11_seen 54 = .ok (.getfield 291, 3) := by decide +kernel
theorem dX11_seen_57 : decode cX11_seen 57 = .ok (.imul, 1) := by decide +kernel
theorem dX11_seen_58 : decode cX11_seen 58 = .ok (.iconst 1, 1) := by decide +kernel
theorem dX11_seen_59 : decode cX11_seen 59 = .ok (.iadd, 1) := by decide +kernel
theorem dX11_seen_60 : decode cX11_seen 60 = .ok (.iload_n 2, 1) := by decide +kernel
theorem dX11_seen_61 : decode cX11_seen 61 = .ok (.iastore, 1) := by decide +kernel
theorem dX11_seen_62 : decode cX11_seen 62 = .ok (.aload_n 0, 1) := by decide +kernel
theorem dX11_seen_63 : decode cX11_seen 63 = .ok (.getfield 84, 3) := by decide +kernel
theorem dX11_seen_66 : decode cX11_seen 66 = .ok (.iconst 3, 1) := by decide +kernel
theorem dX11_seen_67 : decode cX11_seen 67 = .ok (.aload_n 0, 1) := by decide +kernel
theorem dX11_seen_68 : decode cX11_seen 68 = .ok (.getfield 291, 3) := by decide +kernel
theorem dX11_seen_71 : decode cX11_seen 71 = .ok (.imul, 1) := by decide +kernel
theorem dX11_seen_72 : decode cX11_seen 72 = .ok (.iconst 2, 1) := by decide +kernel
theorem dX11_seen_73 : decode cX11_seen 73 = .ok (.iadd, 1) := by decide +kernel
theorem dX11_seen_74 : decode cX11_seen 74 = .ok (.iload_n 3, 1) := by decide +kernel
theorem dX11_seen_75 : decode cX11_seen 75 = .ok (.ifCond .eq 7, 3) := by decide +kernel
theorem dX11_seen_78 : decode cX11_seen 78 = .ok (.iconst 1, 1) := by decide +kernel
theorem dX11_seen_79 : decode cX11_seen 79 = .ok (.goto 4, 3) := by decide +kernel
theorem dX11_seen_82 : decode cX11_seen 82 = .ok (.iconst 0, 1) := by decide +kernel
theorem dX11_seen_83 : decode cX11_seen 83 = .ok (.iastore, 1) := by decide +kernel
theorem dX11_seen_84 : decode cX11_seen 84 = .ok (.aload_n 0, 1) := by decide +kernel
theorem dX11_seen_85 : decode cX11_seen 85 = .ok (.dup, 1) := by decide +kernel
theorem dX11_seen_86 : decode cX11_seen 86 = .ok (.getfield 291, 3) := by decide +kernel
theorem dX11_seen_89 : decode cX11_seen 89 = .ok (.iconst 1, 1) := by decide +kernel
theorem dX11_seen_90 : decode cX11_seen 90 = .ok (.iadd, 1) := by decide +kernel
theorem dX11_seen_91 : decode cX11_seen 91 = .ok (.putfield 291, 3) := by decide +kernel
theorem dX11_seen_94 : decode cX11_seen 94 = .ok (.aload_n 0, 1) := by decide +kernel
theorem dX11_seen_95 : decode cX11_seen 95 = .ok (.getfield 291, 3) := by decide +kernel
theorem dX11_seen_98 : decode cX11_seen 98 = .ok (.ireturn, 1) := by decide +kernel
theorem dX11_wouldBe_0 : decode cX11_wouldBe 0 = .ok (.aload_n 0, 1) := by decide +kernel
theorem dX11_wouldBe_1 : decode cX11_wouldBe 1 = .ok (.iload_n 1, 1) := by decide +kernel
theorem dX11_wouldBe_2 : decode cX11_wouldBe 2 = .ok (.aload_n 0, 1) := by decide +kernel
theorem dX11_wouldBe_3 : decode cX11_wouldBe 3 = .ok (.iload_n 2, 1) := by decide +kernel
theorem dX11_wouldBe_4 : decode cX11_wouldBe 4 = .ok (.iconst 0, 1) := by decide +kernel
theorem dX11_wouldBe_5 : decode cX11_wouldBe 5 = .ok (.invokevirtual 324, 3) := by decide +kernel
theorem dX11_wouldBe_8 : decode cX11_wouldBe 8 = .ok (.iload_n 3, 1) := by decide +kernel
theorem dX11_wouldBe_9 : decode cX11_wouldBe 9 = .ok (.iload_n 2, 1) := by decide +kernel
theorem dX11_wouldBe_10 : decode cX11_wouldBe 10 = .ok (.invokestatic 327, 3) := by decide +kernel
theorem dX11_wouldBe_13 : decode cX11_wouldBe 13 = .ok (.iconst 0, 1) := by decide +kernel
theorem dX11_wouldBe_14 : decode cX11_wouldBe 14 = .ok (.iconst 0, 1) := by decide +kernel
theorem dX11_wouldBe_15 : decode cX11_wouldBe 15 = .ok (.invokevirtual 332, 3) := by decide +kernel
theorem dX11_wouldBe_18 : decode cX11_wouldBe 18 = .ok (.ifCond .le 7, 3) := by decide +kernel
theorem dX11_wouldBe_21 : decode cX11_wouldBe 21 = .ok (.iconst 1, 1) := by decide +kernel
theorem dX11_wouldBe_22 : decode cX11_wouldBe 22 = .ok (.goto 4, 3) := by decide +kernel
theorem dX11_wouldBe_25 : decode cX11_wouldBe 25 = .ok (.iconst 0, 1) := by decide +kernel
theorem dX11_wouldBe_26 : decode cX11_wouldBe 26 = .ok (.ireturn, 1) := by decide +kernel
theorem dX11_isSet_0 : decode cX11_isSet 0 = .ok (.iconst 0, 1) := by decide +kernel
theorem dX11_isSet_1 : decode cX11_isSet 1 = .ok (.istore_n 3, 1) := by decide +kernel
theorem dX11_isSet_2 : decode cX11_isSet 2 = .ok (.iload_n 3, 1) := by decide +kernel
theorem dX11_isSet_3 : decode cX11_isSet 3 = .ok (.aload_n 0, 1) := by decide +kernel
theorem dX11_isSet_4 : decode cX11_isSet 4 = .ok (.getfield 291, 3) := by decide +kernel
theorem dX11_isSet_7 : decode cX11_isSet 7 = .ok (.if_icmp .ge 61, 3) := by decide +kernel
theorem dX11_isSet_10 : decode cX11_isSet 10 = .ok (.aload_n 0, 1) := by decide +kernel
theorem dX11_isSet_11 : decode cX11_isSet 11 = .ok (.getfield 84, 3) := by decide +kernel
theorem dX11_isSet_14 : decode cX11_isSet 14 = .ok (.iconst 3, 1) := by decide +kernel
theorem dX11_isSet_15 : decode cX11_isSet 15 = .ok (.iload_n 3, 1) := by decide +kernel
theorem dX11_isSet_16 : decode cX11_isSet 16 = .ok (.imul, 1) := by decide +kernel
theorem dX11_isSet_17 : decode cX11_isSet 17 = .ok (.iaload, 1) := by decide +kernel
theorem dX11_isSet_18 : decode cX11_isSet 18 = .ok (.iload_n 1, 1) := by decide +kernel
theorem dX11_isSet_19 : decode cX11_isSet 19 = .ok (.if_icmp .ne 43, 3) := by decide +kernel
theorem dX11_isSet_22 : decode cX11_isSet 22 = .ok (.aload_n 0, 1) := by decide +kernel
theorem dX11_isSet_23 : decode cX11_isSet 23 = .ok (.iload_n 1, 1) := by decide +kernel
theorem dX11_isSet_24 : decode cX11_isSet 24 = .ok (.iload_n 2, 1) := by decide +kernel
theorem dX11_isSet_25 : decode cX11_isSet 25 = .ok (.aload_n 0, 1) := by decide +kernel
theorem dX11_isSet_26 : decode cX11_isSet 26 = .ok (.getfield 84, 3) := by decide +kernel
theorem dX11_isSet_29 : decode cX11_isSet 29 = .ok (.iconst 3, 1) := by decide +kernel
theorem dX11_isSet_30 : decode cX11_isSet 30 = .ok (.iload_n 3, 1) := by decide +kernel
theorem dX11_isSet_31 : decode cX11_isSet 31 = .ok (.imul, 1) := by decide +kernel
theorem dX11_isSet_32 : decode cX11_isSet 32 = .ok (.iconst 1, 1) := by decide +kernel
theorem dX11_isSet_33 : decode cX11_isSet 33 = .ok (.iadd, 1) := by decide +kernel
theorem dX11_isSet_34 : decode cX11_isSet 34 = .ok (.iaload, 1) := by decide +kernel
theorem dX11_isSet_35 : decode cX11_isSet 35 = .ok (.invokevirtual 439, 3) := by decide +kernel
theorem dX11_isSet_38 : decode cX11_isSet 38 = .ok (.aload_n 0, 1) := by decide +kernel
theorem dX11_isSet_39 : decode cX11_isSet 39 = .ok (.getfield 84, 3) := by decide +kernel
theorem dX11_isSet_42 : decode cX11_isSet 42 = .ok (.iconst 3, 1) := by decide +kernel
theorem dX11_isSet_43 : decode cX11_isSet 43 = .ok (.iload_n 3, 1) := by decide +kernel
theorem dX11_isSet_44 : decode cX11_isSet 44 = .ok (.imul, 1) := by decide +kernel
theorem dX11_isSet_45 : decode cX11_isSet 45 = .ok (.iconst 2, 1) := by decide +kernel
theorem dX11_isSet_46 : decode cX11_isSet 46 = .ok (.iadd, 1) := by decide +kernel
theorem dX11_isSet_47 : decode cX11_isSet 47 = .ok (.iaload, 1) := by decide +kernel
theorem dX11_isSet_48 : decode cX11_isSet 48 = .ok (.iconst 1, 1) := by decide +kernel
theorem dX11_isSet_49 : decode cX11_isSet 49 = .ok (.if_icmp .ne 7, 3) := by decide +kernel
theorem dX11_isSet_52 : decode cX11_isSet 52 = .ok (.iconst 1, 1) := by decide +kernel
theorem dX11_isSet_53 : decode cX11_isSet 53 = .ok (.goto 4, 3) := by decide +kernel
theorem dX11_isSet_56 : decode cX11_isSet 56 = .ok (.iconst 0, 1) := by decide +kernel
theorem dX11_isSet_57 : decode cX11_isSet 57 = .ok (.if_icmp .eq 5, 3) := by decide +kernel
theorem dX11_isSet_60 : decode cX11_isSet 60 = .ok (.iconst 0, 1) := by decide +kernel
theorem dX11_isSet_61 : decode cX11_isSet 61 = .ok (.ireturn, 1) := by decide +kernel
theorem dX11_isSet_62 : decode cX11_isSet 62 = .ok (.iinc 3 1, 3) := by decide +kernel
theorem dX11_isSet_65 : decode cX11_isSet 65 = .ok (.goto (-63), 3) := by decide +kernel
theorem dX11_isSet_68 : decode cX11_isSet 68 = .ok (.iconst 1, 1) := by decide +kernel
theorem dX11_isSet_69 : decode cX11_isSet 69 = .ok (.ireturn, 1) := by decide +kernel
theorem dX11_sets_0 : decode cX11_sets 0 = .ok (.aload_n 0, 1) := by decide +kernel
theorem dX11_sets_1 : decode cX11_sets 1 = .ok (.iconst 0, 1) := by decide +kernel
theorem dX11_sets_2 : decode cX11_sets 2 = .ok (.putfield 90, 3) := by decide +kernel
theorem dX11_sets_5 : decode cX11_sets 5 = .ok (.aload_n 0, 1) := by decide +kernel
theorem dX11_sets_6 : decode cX11_sets 6 = .ok (.iload_n 1, 1) := by decide +kernel
theorem dX11_sets_7 : decode cX11_sets 7 = .ok (.invokevirtual 342, 3) := by decide +kernel
theorem dX11_sets_10 : decode cX11_sets 10 = .ok (.ifCond .eq 8, 3) := by decide +kernel
theorem dX11_sets_13 : decode cX11_sets 13 = .ok (.iload_n 2, 1) := by decide +kernel
theorem dX11_sets_14 : decode cX11_sets 14 = .ok (.iconst (-1), 1) := by decide +kernel
theorem dX11_sets_15 : decode cX11_sets 15 = .ok (.if_icmp .ge 5, 3) := by decide +kernel
theorem dX11_sets_18 : decode cX11_sets 18 = .ok (.iconst (-1), 1) := by decide +kernel
theorem dX11_sets_19 : decode cX11_sets 19 = .ok (.ireturn, 1) := by decide +kernel
theorem dX11_sets_20 : decode cX11_sets 20 = .ok (.iconst 0, 1) := by decide +kernel
theorem dX11_sets_21 : decode cX11_sets 21 = .ok (.istore_n 3, 1) := by decide +kernel
theorem dX11_sets_22 : decode cX11_sets 22 = .ok (.iconst 0, 1) := by decide +kernel
theorem dX11_sets_23 : decode cX11_sets 23 = .ok (.istore 4, 2) := by decide +kernel
theorem dX11_sets_25 : decode cX11_sets 25 = .ok (.iload 4, 2) := by decide +kernel
theorem dX11_sets_27 : decode cX11_sets 27 = .ok (.iconst 1, 1) := by decide +kernel
theorem dX11_sets_28 : decode cX11_sets 28 = .ok (.aload_n 0, 1) := by decide +kernel
theorem dX11_sets_29 : decode cX11_sets 29 = .ok (.getfield 288, 3) := by decide +kernel
theorem dX11_sets_32 : decode cX11_sets 32 = .ok (.ishl, 1) := by decide +kernel
theorem dX11_sets_33 : decode cX11_sets 33 = .ok (.if_icmp .ge 33, 3) := by decide +kernel
theorem dX11_sets_36 : decode cX11_sets 36 = .ok (.aload_n 0, 1) := by decide +kernel
theorem dX11_sets_37 : decode cX11_sets 37 = .ok (.iload_n 1, 1) := by decide +kernel
theorem dX11_sets_38 : decode cX11_sets 38 = .ok (.iload 4, 2) := by decide +kernel
theorem dX11_sets_40 : decode cX11_sets 40 = .ok (.invokevirtual 443, 3) := by decide +kernel
theorem dX11_sets_43 : decode cX11_sets 43 = .ok (.ifCond .ne 6, 3) := by decide +kernel
theorem dX11_sets_46 : decode cX11_sets 46 = .ok (.goto 14, 3) := by decide +kernel
theorem dX11_sets_49 : decode cX11_sets 49 = .ok (.iload_n 3, 1) := by decide +kernel
theorem dX11_sets_50 : decode cX11_sets 50 = .ok (.iload_n 2, 1) := by decide +kernel
theorem dX11_sets_51 : decode cX11_sets 51 = .ok (.if_icmp .ne 6, 3) := by decide +kernel
theorem dX11_sets_54 : decode cX11_sets 54 = .ok (.iload 4, 2) := by decide +kernel
theorem dX11_sets_56 : decode cX11_sets 56 = .ok (.ireturn, 1) := by decide +kernel
theorem dX11_sets_57 : decode cX11_sets 57 = .ok (.iinc 3 1, 3) := by decide +kernel
theorem dX11_sets_60 : decode cX11_sets 60 = .ok (.iinc 4 1, 3) := by decide +kernel
theorem dX11_sets_63 : decode cX11_sets 63 = .ok (.goto (-38), 3) := by decide +kernel
theorem dX11_sets_66 : decode cX11_sets 66 = .ok (.iload_n 2, 1) := by decide +kernel
theorem dX11_sets_67 : decode cX11_sets 67 = .ok (.iconst (-1), 1) := by decide +kernel
theorem dX11_sets_68 : decode cX11_sets 68 = .ok (.if_icmp .ne 7, 3) := by decide +kernel
theorem dX11_sets_71 : decode cX11_sets 71 = .ok (.iload_n 3, 1) := by decide +kernel
theorem dX11_sets_72 : decode cX11_sets 72 = .ok (.goto 4, 3) := by decide +kernel
theorem dX11_sets_75 : decode cX11_sets 75 = .ok (.iconst (-1), 1) := by decide +kernel
theorem dX11_sets_76 : decode cX11_sets 76 = .ok (.ireturn, 1) := by decide +kernel
theorem dX11_ask_0 : decode cX11_ask 0 = .ok (.aload_n 0, 1) := by decide +kernel
theorem dX11_ask_1 : decode cX11_ask 1 = .ok (.iconst 0, 1) := by decide +kernel
theorem dX11_ask_2 : decode cX11_ask 2 = .ok (.putfield 90, 3) := by decide +kernel
theorem dX11_ask_5 : decode cX11_ask 5 = .ok (.aload_n 0, 1) := by decide +kernel
theorem dX11_ask_6 : decode cX11_ask 6 = .ok (.iload_n 1, 1) := by decide +kernel
theorem dX11_ask_7 : decode cX11_ask 7 = .ok (.invokevirtual 342, 3) := by decide +kernel
theorem dX11_ask_10 : decode cX11_ask 10 = .ok (.ifCond .ne 5, 3) := by decide +kernel
theorem dX11_ask_13 : decode cX11_ask 13 = .ok (.iconst (-1), 1) := by decide +kernel
theorem dX11_ask_14 : decode cX11_ask 14 = .ok (.ireturn, 1) := by decide +kernel
theorem dX11_ask_15 : decode cX11_ask 15 = .ok (.iconst (-1), 1) := by decide +kernel
theorem dX11_ask_16 : decode cX11_ask 16 = .ok (.istore_n 2, 1) := by decide +kernel
theorem dX11_ask_17 : decode cX11_ask 17 = .ok (.iconst 0, 1) := by decide +kernel
theorem dX11_ask_18 : decode cX11_ask 18 = .ok (.istore_n 3, 1) := by decide +kernel
theorem dX11_ask_19 : decode cX11_ask 19 = .ok (.iconst 0, 1) := by decide +kernel
theorem dX11_ask_20 : decode cX11_ask 20 = .ok (.istore 4, 2) := by decide +kernel
theorem dX11_ask_22 : decode cX11_ask 22 = .ok (.iload 4, 2) := by decide +kernel
theorem dX11_ask_24 : decode cX11_ask 24 = .ok (.bipush 99, 2) := by decide +kernel
theorem dX11_ask_26 : decode cX11_ask 26 = .ok (.if_icmp .gt 107, 3) := by decide +kernel
theorem dX11_ask_29 : decode cX11_ask 29 = .ok (.iconst 0, 1) := by decide +kernel
theorem dX11_ask_30 : decode cX11_ask 30 = .ok (.istore 5, 2) := by decide +kernel
theorem dX11_ask_32 : decode cX11_ask 32 = .ok (.iconst 0, 1) := by decide +kernel
theorem dX11_ask_33 : decode cX11_ask 33 = .ok (.istore 6, 2) := by decide +kernel
theorem dX11_ask_35 : decode cX11_ask 35 = .ok (.iconst 0, 1) := by decide +kernel
theorem dX11_ask_36 : decode cX11_ask 36 = .ok (.istore 7, 2) := by decide +kernel
theorem dX11_ask_38 : decode cX11_ask 38 = .ok (.iload 7, 2) := by decide +kernel
theorem dX11_ask_40 : decode cX11_ask 40 = .ok (.iconst 1, 1) := by decide +kernel
theorem dX11_ask_41 : decode cX11_ask 41 = .ok (.aload_n 0, 1) := by decide +kernel
theorem dX11_ask_42 : decode cX11_ask 42 = .ok (.getfield 288, 3) := by decide +kernel
theorem dX11_ask_45 : decode cX11_ask 45 = .ok (.ishl, 1) := by decide +kernel
theorem dX11_ask_46 : decode cX11_ask 46 = .ok (.if_icmp .ge 47, 3) := by decide +kernel
theorem dX11_ask_49 : decode cX11_ask 49 = .ok (.aload_n 0, 1) := by decide +kernel
theorem dX11_ask_50 : decode cX11_ask 50 = .ok (.iload_n 1, 1) := by decide +kernel
theorem dX11_ask_51 : decode cX11_ask 51 = .ok (.iload 7, 2) := by decide +kernel
theorem dX11_ask_53 : decode cX11_ask 53 = .ok (.invokevirtual 443, 3) := by decide +kernel
theorem dX11_ask_56 : decode cX11_ask 56 = .ok (.ifCond .ne 6, 3) := by decide +kernel
theorem dX11_ask_59 : decode cX11_ask 59 = .ok (.goto 28, 3) := by decide +kernel
theorem dX11_ask_62 : decode cX11_ask 62 = .ok (.iconst 1, 1) := by decide +kernel
theorem dX11_ask_63 : decode cX11_ask 63 = .ok (.istore 6, 2) := by decide +kernel
theorem dX11_ask_65 : decode cX11_ask 65 = .ok (.iload 5, 2) := by decide +kernel
theorem dX11_ask_67 : decode cX11_ask 67 = .ok (.aload_n 0, 1) := by decide +kernel
theorem dX11_ask_68 : decode cX11_ask 68 = .ok (.iload_n 1, 1) := by decide +kernel
theorem dX11_ask_69 : decode cX11_ask 69 = .ok (.iload 7, 2) := by decide +kernel
theorem dX11_ask_71 : decode cX11_ask 71 = .ok (.iload 4, 2) := by decide +kernel
theorem dX11_ask_73 : decode cX11_ask 73 = .ok (.invokevirtual 439, 3) := by decide +kernel
theorem dX11_ask_76 : decode cX11_ask 76 = .ok (.ifCond .eq 7, 3) := by decide +kernel
theorem dX11_ask_79 : decode cX11_ask 79 = .ok (.iconst 1, 1) := by decide +kernel
theorem dX11_ask_80 : decode cX11_ask 80 = .ok (.goto 4, 3) := by decide +kernel
theorem dX11_ask_83 : decode cX11_ask 83 = .ok (.iconst (-1), 1) := by decide +kernel
theorem dX11_ask_84 : decode cX11_ask 84 = .ok (.iadd, 1) := by decide +kernel
theorem dX11_ask_85 : decode cX11_ask 85 = .ok (.istore 5, 2) := by decide +kernel
theorem dX11_ask_87 : decode cX11_ask 87 = .ok (.iinc 7 1, 3) := by decide +kernel
theorem dX11_ask_90 : decode cX11_ask 90 = .ok (.goto (-52), 3) := by decide +kernel
theorem dX11_ask_93 : decode cX11_ask 93 = .ok (.iload 6, 2) := by decide +kernel
theorem dX11_ask_95 : decode cX11_ask 95 = .ok (.ifCond .ne 5, 3) := by decide +kernel
theorem dX11_ask_98 : decode cX11_ask 98 = .ok (.iconst (-1), 1) := by decide +kernel
theorem dX11_ask_99 : decode cX11_ask 99 = .ok (.ireturn, 1) := by decide +kernel
theorem dX11_ask_100 : decode cX11_ask 100 = .ok (.iload 5, 2) := by decide +kernel
theorem dX11_ask_102 : decode cX11_ask 102 = .ok (.invokestatic 446, 3) := by decide +kernel
theorem dX11_ask_105 : decode cX11_ask 105 = .ok (.istore 5, 2) := by decide +kernel
theorem dX11_ask_107 : decode cX11_ask 107 = .ok (.iload_n 2, 1) := by decide +kernel
theorem dX11_ask_108 : decode cX11_ask 108 = .ok (.iconst (-1), 1) := by decide +kernel
theorem dX11_ask_109 : decode cX11_ask 109 = .ok (.if_icmp .eq 12, 3) := by decide +kernel
theorem dX11_ask_112 : decode cX11_ask 112 = .ok (.iload 5, 2) := by decide +kernel
theorem dX11_ask_114 : decode cX11_ask 114 = .ok (.iload_n 3, 1) := by decide +kernel
theorem dX11_ask_115 : decode cX11_ask 115 = .ok (.if_icmp .lt 6, 3) := by decide +kernel
theorem dX11_ask_118 : decode cX11_ask 118 = .ok (.goto 9, 3) := by decide +kernel
theorem dX11_ask_121 : decode cX11_ask 121 = .ok (.iload 4, 2) := by decide +kernel
theorem dX11_ask_123 : decode cX11_ask 123 = .ok (.istore_n 2, 1) := by decide +kernel
theorem dX11_ask_124 : decode cX11_ask 124 = .ok (.iload 5, 2) := by decide +kernel
theorem dX11_ask_126 : decode cX11_ask 126 = .ok (.istore_n 3, 1) := by decide +kernel
theorem dX11_ask_127 : decode cX11_ask 127 = .ok (.iinc 4 1, 3) := by decide +kernel
theorem dX11_ask_130 : decode cX11_ask 130 = .ok (.goto (-108), 3) := by decide +kernel
theorem dX11_ask_133 : decode cX11_ask 133 = .ok (.iload_n 2, 1) := by decide +kernel
theorem dX11_ask_134 : decode cX11_ask 134 = .ok (.ireturn, 1) := by decide +kernel
theorem dX11_seems_0 : decode cX11_seems 0 = .ok (.aload_n 0, 1) := by decide +kernel
theorem dX11_seems_1 : decode cX11_seems 1 = .ok (.aload_n 0, 1) := by decide +kernel
theorem dX11_seems_2 : decode cX11_seems 2 = .ok (.getfield 61, 3) := by decide +kernel
theorem dX11_seems_5 : decode cX11_seems 5 = .ok (.iload_n 1, 1) := by decide +kernel
theorem dX11_seems_6 : decode cX11_seems 6 = .ok (.invokevirtual 335, 3) := by decide +kernel
theorem dX11_seems_9 : decode cX11_seems 9 = .ok (.istore_n 3, 1) := by decide +kernel
theorem dX11_seems_10 : decode cX11_seems 10 = .ok (.aload_n 0, 1) := by decide +kernel
theorem dX11_seems_11 : decode cX11_seems 11 = .ok (.iload_n 1, 1) := by decide +kernel
theorem dX11_seems_12 : decode cX11_seems 12 = .ok (.iconst 0, 1) := by decide +kernel
theorem dX11_seems_13 : decode cX11_seems 13 = .ok (.aload_n 0, 1) := by decide +kernel
theorem dX11_seems_14 : decode cX11_seems 14 = .ok (.iload_n 3, 1) := by decide +kernel
theorem dX11_seems_15 : decode cX11_seems 15 = .ok (.iconst 0, 1) := by decide +kernel
theorem dX11_seems_16 : decode cX11_seems 16 = .ok (.invokevirtual 324, 3) := by decide +kernel
theorem dX11_seems_19 : decode cX11_seems 19 = .ok (.iload_n 2, 1) := by decide +kernel
theorem dX11_seems_20 : decode cX11_seems 20 = .ok (.iadd, 1) := by decide +kernel
theorem dX11_seems_21 : decode cX11_seems 21 = .ok (.invokestatic 318, 3) := by decide +kernel
theorem dX11_seems_24 : decode cX11_seems 24 = .ok (.aload_n 0, 1) := by decide +kernel
theorem dX11_seems_25 : decode cX11_seems 25 = .ok (.getfield 61, 3) := by decide +kernel
theorem dX11_seems_28 : decode cX11_seems 28 = .ok (.bipush 10, 2) := by decide +kernel
theorem dX11_seems_30 : decode cX11_seems 30 = .ok (.iload_n 1, 1) := by decide +kernel
theorem dX11_seems_31 : decode cX11_seems 31 = .ok (.imul, 1) := by decide +kernel
theorem dX11_seems_32 : decode cX11_seems 32 = .ok (.iconst 0, 1) := by decide +kernel
theorem dX11_seems_33 : decode cX11_seems 33 = .ok (.iadd, 1) := by decide +kernel
theorem dX11_seems_34 : decode cX11_seems 34 = .ok (.iaload, 1) := by decide +kernel
theorem dX11_seems_35 : decode cX11_seems 35 = .ok (.iload_n 3, 1) := by decide +kernel
theorem dX11_seems_36 : decode cX11_seems 36 = .ok (.invokestatic 327, 3) := by decide +kernel
theorem dX11_seems_39 : decode cX11_seems 39 = .ok (.aload_n 0, 1) := by decide +kernel
theorem dX11_seems_40 : decode cX11_seems 40 = .ok (.getfield 61, 3) := by decide +kernel
theorem dX11_seems_43 : decode cX11_seems 43 = .ok (.bipush 65, 2) := by decide +kernel
theorem dX11_seems_45 : decode cX11_seems 45 = .ok (.iaload, 1) := by decide +kernel
theorem dX11_seems_46 : decode cX11_seems 46 = .ok (.bipush 7, 2) := by decide +kernel
theorem dX11_seems_48 : decode cX11_seems 48 = .ok (.irem, 1) := by decide +kernel
theorem dX11_seems_49 : decode cX11_seems 49 = .ok (.aload_n 0, 1) := by decide +kernel
theorem dX11_seems_50 : decode cX11_seems 50 = .ok (.getfield 61, 3) := by decide +kernel
theorem dX11_seems_53 : decode cX11_seems 53 = .ok (.bipush 10, 2) := by decide +kernel
theorem dX11_seems_55 : decode cX11_seems 55 = .ok (.iload_n 1, 1) := by decide +kernel
theorem dX11_seems_56 : decode cX11_seems 56 = .ok (.imul, 1) := by decide +kernel
theorem dX11_seems_57 : decode cX11_seems 57 = .ok (.iconst 1, 1) := by decide +kernel
theorem dX11_seems_58 : decode cX11_seems 58 = .ok (.iadd, 1) := by decide +kernel
