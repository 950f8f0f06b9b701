theorem dX2_digest_45 : decode cX2_digest 45 = .ok (.iconst 0, 1) := by decide +kernel
theorem dX2_digest_46 : decode cX2_digest 46 = .ok (.invokevirtual 212, 3) := by decide +kernel
theorem dX2_digest_49 : decode cX2_digest 49 = .ok (.invokestatic 208, 3) := by decide +kernel
theorem dX2_digest_52 : decode cX2_digest 52 = .ok (.lstore_n 1, 1) := by decide +kernel
theorem dX2_digest_53 : decode cX2_digest 53 = .ok (.lload_n 1, 1) := by decide +kernel
theorem dX2_digest_54 : decode cX2_digest 54 = .ok (.aload_n 0, 1) := by decide +kernel
theorem dX2_digest_55 : decode cX2_digest 55 = .ok (.iload_n 3, 1) := by decide +kernel
theorem dX2_digest_56 : decode cX2_digest 56 = .ok (.iconst 1, 1) := by decide +kernel
theorem dX2_digest_57 : decode cX2_digest 57 = .ok (.invokevirtual 212, 3) := by decide +kernel
theorem dX2_digest_60 : decode cX2_digest 60 = .ok (.invokestatic 208, 3) := by decide +kernel
theorem dX2_digest_63 : decode cX2_digest 63 = .ok (.lstore_n 1, 1) := by decide +kernel
theorem dX2_digest_64 : decode cX2_digest 64 = .ok (.lload_n 1, 1) := by decide +kernel
theorem dX2_digest_65 : decode cX2_digest 65 = .ok (.aload_n 0, 1) := by decide +kernel
theorem dX2_digest_66 : decode cX2_digest 66 = .ok (.iload_n 3, 1) := by decide +kernel
theorem dX2_digest_67 : decode cX2_digest 67 = .ok (.iconst 5, 1) := by decide +kernel
theorem dX2_digest_68 : decode cX2_digest 68 = .ok (.invokevirtual 212, 3) := by decide +kernel
theorem dX2_digest_71 : decode cX2_digest 71 = .ok (.invokestatic 208, 3) := by decide +kernel
theorem dX2_digest_74 : decode cX2_digest 74 = .ok (.lstore_n 1, 1) := by decide +kernel
theorem dX2_digest_75 : decode cX2_digest 75 = .ok (.iinc 3 1, 3) := by decide +kernel
theorem dX2_digest_78 : decode cX2_digest 78 = .ok (.goto (-72), 3) := by decide +kernel
theorem dX2_digest_81 : decode cX2_digest 81 = .ok (.aload_n 0, 1) := by decide +kernel
theorem dX2_digest_82 : decode cX2_digest 82 = .ok (.getfield 39, 3) := by decide +kernel
theorem dX2_digest_85 : decode cX2_digest 85 = .ok (.ifCond .le 67, 3) := by decide +kernel
theorem dX2_digest_88 : decode cX2_digest 88 = .ok (.iconst 0, 1) := by decide +kernel
theorem dX2_digest_89 : decode cX2_digest 89 = .ok (.istore_n 3, 1) := by decide +kernel
theorem dX2_digest_90 : decode cX2_digest 90 = .ok (.iload_n 3, 1) := by decide +kernel
theorem dX2_digest_91 : decode cX2_digest 91 = .ok (.iconst 3, 1) := by decide +kernel
theorem dX2_digest_92 : decode cX2_digest 92 = .ok (.if_icmp .gt 22, 3) := by decide +kernel
theorem dX2_digest_95 : decode cX2_digest 95 = .ok (.lload_n 1, 1) := by decide +kernel
theorem dX2_digest_96 : decode cX2_digest 96 = .ok (.aload_n 0, 1) := by decide +kernel
theorem dX2_digest_97 : decode cX2_digest 97 = .ok (.bipush 20, 2) := by decide +kernel
theorem dX2_digest_99 : decode cX2_digest 99 = .ok (.iconst 2, 1) := by decide +kernel
theorem dX2_digest_100 : decode cX2_digest 100 = .ok (.iload_n 3, 1) := by decide +kernel
theorem dX2_digest_101 : decode cX2_digest 101 = .ok (.invokevirtual 215, 3) := by decide +kernel
theorem dX2_digest_104 : decode cX2_digest 104 = .ok (.invokestatic 208, 3) := by decide +kernel
theorem dX2_digest_107 : decode cX2_digest 107 = .ok (.lstore_n 1, 1) := by decide +kernel
theorem dX2_digest_108 : decode cX2_digest 108 = .ok (.iinc 3 1, 3) := by decide +kernel
theorem dX2_digest_111 : decode cX2_digest 111 = .ok (.goto (-21), 3) := by decide +kernel
theorem dX2_digest_114 : decode cX2_digest 114 = .ok (.lload_n 1, 1) := by decide +kernel
theorem dX2_digest_115 : decode cX2_digest 115 = .ok (.aload_n 0, 1) := by decide +kernel
theorem dX2_digest_116 : decode cX2_digest 116 = .ok (.iconst 0, 1) := by decide +kernel
theorem dX2_digest_117 : decode cX2_digest 117 = .ok (.invokevirtual 219, 3) := by decide +kernel
theorem dX2_digest_120 : decode cX2_digest 120 = .ok (.invokestatic 208, 3) := by decide +kernel
theorem dX2_digest_123 : decode cX2_digest 123 = .ok (.lstore_n 1, 1) := by decide +kernel
theorem dX2_digest_124 : decode cX2_digest 124 = .ok (.lload_n 1, 1) := by decide +kernel
theorem dX2_digest_125 : decode cX2_digest 125 = .ok (.aload_n 0, 1) := by decide +kernel
theorem dX2_digest_126 : decode cX2_digest 126 = .ok (.iconst 1, 1) := by decide +kernel
theorem dX2_digest_127 : decode cX2_digest 127 = .ok (.invokevirtual 219, 3) := by decide +kernel
theorem dX2_digest_130 : decode cX2_digest 130 = .ok (.invokestatic 208, 3) := by decide +kernel
theorem dX2_digest_133 : decode cX2_digest 133 = .ok (.lstore_n 1, 1) := by decide +kernel
theorem dX2_digest_134 : decode cX2_digest 134 = .ok (.lload_n 1, 1) := by decide +kernel
theorem dX2_digest_135 : decode cX2_digest 135 = .ok (.aload_n 0, 1) := by decide +kernel
theorem dX2_digest_136 : decode cX2_digest 136 = .ok (.invokevirtual 222, 3) := by decide +kernel
theorem dX2_digest_139 : decode cX2_digest 139 = .ok (.invokestatic 208, 3) := by decide +kernel
theorem dX2_digest_142 : decode cX2_digest 142 = .ok (.lstore_n 1, 1) := by decide +kernel
theorem dX2_digest_143 : decode cX2_digest 143 = .ok (.lload_n 1, 1) := by decide +kernel
theorem dX2_digest_144 : decode cX2_digest 144 = .ok (.aload_n 0, 1) := by decide +kernel
theorem dX2_digest_145 : decode cX2_digest 145 = .ok (.invokevirtual 225, 3) := by decide +kernel
theorem dX2_digest_148 : decode cX2_digest 148 = .ok (.invokestatic 208, 3) := by decide +kernel
theorem dX2_digest_151 : decode cX2_digest 151 = .ok (.lstore_n 1, 1) := by decide +kernel
theorem dX2_digest_152 : decode cX2_digest 152 = .ok (.iconst 0, 1) := by decide +kernel
theorem dX2_digest_153 : decode cX2_digest 153 = .ok (.istore_n 3, 1) := by decide +kernel
theorem dX2_digest_154 : decode cX2_digest 154 = .ok (.iload_n 3, 1) := by decide +kernel
theorem dX2_digest_155 : decode cX2_digest 155 = .ok (.aload_n 0, 1) := by decide +kernel
theorem dX2_digest_156 : decode cX2_digest 156 = .ok (.getfield 10, 3) := by decide +kernel
theorem dX2_digest_159 : decode cX2_digest 159 = .ok (.getfield 58, 3) := by decide +kernel
theorem dX2_digest_162 : decode cX2_digest 162 = .ok (.if_icmp .ge 22, 3) := by decide +kernel
theorem dX2_digest_165 : decode cX2_digest 165 = .ok (.lload_n 1, 1) := by decide +kernel
theorem dX2_digest_166 : decode cX2_digest 166 = .ok (.aload_n 0, 1) := by decide +kernel
theorem dX2_digest_167 : decode cX2_digest 167 = .ok (.getfield 10, 3) := by decide +kernel
theorem dX2_digest_170 : decode cX2_digest 170 = .ok (.iload_n 3, 1) := by decide +kernel
theorem dX2_digest_171 : decode cX2_digest 171 = .ok (.invokevirtual 228, 3) := by decide +kernel
theorem dX2_digest_174 : decode cX2_digest 174 = .ok (.invokestatic 208, 3) := by decide +kernel
theorem dX2_digest_177 : decode cX2_digest 177 = .ok (.lstore_n 1, 1) := by decide +kernel
theorem dX2_digest_178 : decode cX2_digest 178 = .ok (.iinc 3 1, 3) := by decide +kernel
theorem dX2_digest_181 : decode cX2_digest 181 = .ok (.goto (-27), 3) := by decide +kernel
theorem dX2_digest_184 : decode cX2_digest 184 = .ok (.iconst 0, 1) := by decide +kernel
theorem dX2_digest_185 : decode cX2_digest 185 = .ok (.istore_n 3, 1) := by decide +kernel
theorem dX2_digest_186 : decode cX2_digest 186 = .ok (.iload_n 3, 1) := by decide +kernel
theorem dX2_digest_187 : decode cX2_digest 187 = .ok (.bipush 9, 2) := by decide +kernel
theorem dX2_digest_189 : decode cX2_digest 189 = .ok (.if_icmp .gt 19, 3) := by decide +kernel
theorem dX2_digest_192 : decode cX2_digest 192 = .ok (.lload_n 1, 1) := by decide +kernel
theorem dX2_digest_193 : decode cX2_digest 193 = .ok (.aload_n 0, 1) := by decide +kernel
theorem dX2_digest_194 : decode cX2_digest 194 = .ok (.iload_n 3, 1) := by decide +kernel
theorem dX2_digest_195 : decode cX2_digest 195 = .ok (.invokevirtual 231, 3) := by decide +kernel
theorem dX2_digest_198 : decode cX2_digest 198 = .ok (.invokestatic 208, 3) := by decide +kernel
theorem dX2_digest_201 : decode cX2_digest 201 = .ok (.lstore_n 1, 1) := by decide +kernel
theorem dX2_digest_202 : decode cX2_digest 202 = .ok (.iinc 3 1, 3) := by decide +kernel
theorem dX2_digest_205 : decode cX2_digest 205 = .ok (.goto (-19), 3) := by decide +kernel
theorem dX2_digest_208 : decode cX2_digest 208 = .ok (.lload_n 1, 1) := by decide +kernel
theorem dX2_digest_209 : decode cX2_digest 209 = .ok (.lreturn, 1) := by decide +kernel
theorem dX2_isWithin_0 : decode cX2_isWithin 0 = .ok (.iload_n 0, 1) := by decide +kernel
theorem dX2_isWithin_1 : decode cX2_isWithin 1 = .ok (.iload_n 1, 1) := by decide +kernel
theorem dX2_isWithin_2 : decode cX2_isWithin 2 = .ok (.if_icmp .lt 12, 3) := by decide +kernel
theorem dX2_isWithin_5 : decode cX2_isWithin 5 = .ok (.iload_n 0, 1) := by decide +kernel
theorem dX2_isWithin_6 : decode cX2_isWithin 6 = .ok (.iload_n 2, 1) := by decide +kernel
theorem dX2_isWithin_7 : decode cX2_isWithin 7 = .ok (.if_icmp .gt 7, 3) := by decide +kernel
theorem dX2_isWithin_10 : decode cX2_isWithin 10 = .ok (.iconst 1, 1) := by decide +kernel
theorem dX2_isWithin_11 : decode cX2_isWithin 11 = .ok (.goto 4, 3) := by decide +kernel
theorem dX2_isWithin_14 : decode cX2_isWithin 14 = .ok (.iconst 0, 1) := by decide +kernel
theorem dX2_isWithin_15 : decode cX2_isWithin 15 = .ok (.ireturn, 1) := by decide +kernel
theorem dX2_hasBit_0 : decode cX2_hasBit 0 = .ok (.iload_n 0, 1) := by decide +kernel
theorem dX2_hasBit_1 : decode cX2_hasBit 1 = .ok (.iload_n 1, 1) := by decide +kernel
theorem dX2_hasBit_2 : decode cX2_hasBit 2 = .ok (.ishr, 1) := by decide +kernel
theorem dX2_hasBit_3 : decode cX2_hasBit 3 = .ok (.iconst 1, 1) := by decide +kernel
theorem dX2_hasBit_4 : decode cX2_hasBit 4 = .ok (.iand, 1) := by decide +kernel
theorem dX2_hasBit_5 : decode cX2_hasBit 5 = .ok (.iconst 1, 1) := by decide +kernel
theorem dX2_hasBit_6 : decode cX2_hasBit 6 = .ok (.if_icmp .ne 7, 3) := by decide +kernel
theorem dX2_hasBit_9 : decode cX2_hasBit 9 = .ok (.iconst 1, 1) := by decide +kernel
theorem dX2_hasBit_10 : decode cX2_hasBit 10 = .ok (.goto 4, 3) := by decide +kernel
theorem dX2_hasBit_13 : decode cX2_hasBit 13 = .ok (.iconst 0, 1) := by decide +kernel
theorem dX2_hasBit_14 : decode cX2_hasBit 14 = .ok (.ireturn, 1) := by decide +kernel
theorem dX2_mixed_0 : decode cX2_mixed 0 = .ok (.ldc2_w 234, 3) := by decide +kernel
theorem dX2_mixed_3 : decode cX2_mixed 3 = .ok (.lload_n 0, 1) := by decide +kernel
theorem dX2_mixed_4 : decode cX2_mixed 4 = .ok (.lmul, 1) := by decide +kernel
theorem dX2_mixed_5 : decode cX2_mixed 5 = .ok (.iload_n 2, 1) := by decide +kernel
theorem dX2_mixed_6 : decode cX2_mixed 6 = .ok (.i2l, 1) := by decide +kernel
theorem dX2_mixed_7 : decode cX2_mixed 7 = .ok (.ladd, 1) := by decide +kernel
theorem dX2_mixed_8 : decode cX2_mixed 8 = .ok (.lreturn, 1) := by decide +kernel
theorem dX2_seedAfter_0 : decode cX2_seedAfter 0 = .ok (.ldc2_w 236, 3) := by decide +kernel
theorem dX2_seedAfter_3 : decode cX2_seedAfter 3 = .ok (.iload_n 0, 1) := by decide +kernel
theorem dX2_seedAfter_4 : decode cX2_seedAfter 4 = .ok (.i2l, 1) := by decide +kernel
theorem dX2_seedAfter_5 : decode cX2_seedAfter 5 = .ok (.lmul, 1) := by decide +kernel
theorem dX2_seedAfter_6 : decode cX2_seedAfter 6 = .ok (.ldc2_w 238, 3) := by decide +kernel
theorem dX2_seedAfter_9 : decode cX2_seedAfter 9 = .ok (.ladd, 1) := by decide +kernel
theorem dX2_seedAfter_10 : decode cX2_seedAfter 10 = .ok (.ldc2_w 240, 3) := by decide +kernel
theorem dX2_seedAfter_13 : decode cX2_seedAfter 13 = .ok (.lrem, 1) := by decide +kernel
theorem dX2_seedAfter_14 : decode cX2_seedAfter 14 = .ok (.l2i, 1) := by decide +kernel
theorem dX2_seedAfter_15 : decode cX2_seedAfter 15 = .ok (.ireturn, 1) := by decide +kernel
theorem dX2_drawOf_0 : decode cX2_drawOf 0 = .ok (.iload_n 0, 1) := by decide +kernel
theorem dX2_drawOf_1 : decode cX2_drawOf 1 = .ok (.ifCond .le 12, 3) := by decide +kernel
theorem dX2_drawOf_4 : decode cX2_drawOf 4 = .ok (.iload_n 1, 1) := by decide +kernel
theorem dX2_drawOf_5 : decode cX2_drawOf 5 = .ok (.ldc 242, 2) := by decide +kernel
theorem dX2_drawOf_7 : decode cX2_drawOf 7 = .ok (.idiv, 1) := by decide +kernel
theorem dX2_drawOf_8 : decode cX2_drawOf 8 = .ok (.iload_n 0, 1) := by decide +kernel
theorem dX2_drawOf_9 : decode cX2_drawOf 9 = .ok (.irem, 1) := by decide +kernel
theorem dX2_drawOf_10 : decode cX2_drawOf 10 = .ok (.goto 4, 3) := by decide +kernel
theorem dX2_drawOf_13 : decode cX2_drawOf 13 = .ok (.iconst 0, 1) := by decide +kernel
theorem dX2_drawOf_14 : decode cX2_drawOf 14 = .ok (.ireturn, 1) := by decide +kernel
theorem dX2_isSite_0 : decode cX2_isSite 0 = .ok (.iload_n 1, 1) := by decide +kernel
theorem dX2_isSite_1 : decode cX2_isSite 1 = .ok (.ifCond .lt 15, 3) := by decide +kernel
theorem dX2_isSite_4 : decode cX2_isSite 4 = .ok (.iload_n 1, 1) := by decide +kernel
theorem dX2_isSite_5 : decode cX2_isSite 5 = .ok (.aload_n 0, 1) := by decide +kernel
theorem dX2_isSite_6 : decode cX2_isSite 6 = .ok (.getfield 39, 3) := by decide +kernel
theorem dX2_isSite_9 : decode cX2_isSite 9 = .ok (.if_icmp .ge 7, 3) := by decide +kernel
theorem dX2_isSite_12 : decode cX2_isSite 12 = .ok (.iconst 1, 1) := by decide +kernel
theorem dX2_isSite_13 : decode cX2_isSite 13 = .ok (.goto 4, 3) := by decide +kernel
theorem dX2_isSite_16 : decode cX2_isSite 16 = .ok (.iconst 0, 1) := by decide +kernel
theorem dX2_isSite_17 : decode cX2_isSite 17 = .ok (.ireturn, 1) := by decide +kernel
theorem dX2_isOfKind_0 : decode cX2_isOfKind 0 = .ok (.iload_n 1, 1) := by decide +kernel
theorem dX2_isOfKind_1 : decode cX2_isOfKind 1 = .ok (.ifCond .eq 18, 3) := by decide +kernel
theorem dX2_isOfKind_4 : decode cX2_isOfKind 4 = .ok (.iload_n 1, 1) := by decide +kernel
theorem dX2_isOfKind_5 : decode cX2_isOfKind 5 = .ok (.iload_n 0, 1) := by decide +kernel
theorem dX2_isOfKind_6 : decode cX2_isOfKind 6 = .ok (.if_icmp .eq 13, 3) := by decide +kernel
theorem dX2_isOfKind_9 : decode cX2_isOfKind 9 = .ok (.iload_n 1, 1) := by decide +kernel
theorem dX2_isOfKind_10 : decode cX2_isOfKind 10 = .ok (.iconst 2, 1) := by decide +kernel
theorem dX2_isOfKind_11 : decode cX2_isOfKind 11 = .ok (.if_icmp .ne 12, 3) := by decide +kernel
theorem dX2_isOfKind_14 : decode cX2_isOfKind 14 = .ok (.iload_n 0, 1) := by decide +kernel
theorem dX2_isOfKind_15 : decode cX2_isOfKind 15 = .ok (.iconst 4, 1) := by decide +kernel
theorem dX2_isOfKind_16 : decode cX2_isOfKind 16 = .ok (.if_icmp .ne 7, 3) := by decide +kernel
theorem dX2_isOfKind_19 : decode cX2_isOfKind 19 = .ok (.iconst 1, 1) := by decide +kernel
theorem dX2_isOfKind_20 : decode cX2_isOfKind 20 = .ok (.goto 4, 3) := by decide +kernel
theorem dX2_isOfKind_23 : decode cX2_isOfKind 23 = .ok (.iconst 0, 1) := by decide +kernel
theorem dX2_isOfKind_24 : decode cX2_isOfKind 24 = .ok (.ireturn, 1) := by decide +kernel
theorem dX2_melting_0 : decode cX2_melting 0 = .ok (.iload_n 1, 1) := by decide +kernel
theorem dX2_melting_1 : decode cX2_melting 1 = .ok (.iload_n 2, 1) := by decide +kernel
theorem dX2_melting_2 : decode cX2_melting 2 = .ok (.iadd, 1) := by decide +kernel
theorem dX2_melting_3 : decode cX2_melting 3 = .ok (.istore_n 3, 1) := by decide +kernel
theorem dX2_melting_4 : decode cX2_melting 4 = .ok (.iload_n 0, 1) := by decide +kernel
theorem dX2_melting_5 : decode cX2_melting 5 = .ok (.tableswitch 65 1 4 #[31, 44, 48, 50], 31) := by decide +kernel
theorem dX2_melting_36 : decode cX2_melting 36 = .ok (.iload_n 3, 1) := by decide +kernel
theorem dX2_melting_37 : decode cX2_melting 37 = .ok (.iconst 2, 1) := by decide +kernel
theorem dX2_melting_38 : decode cX2_melting 38 = .ok (.if_icmp .le 9, 3) := by decide +kernel
theorem dX2_melting_41 : decode cX2_melting 41 = .ok (.iload_n 3, 1) := by decide +kernel
theorem dX2_melting_42 : decode cX2_melting 42 = .ok (.iconst 2, 1) := by decide +kernel
theorem dX2_melting_43 : decode cX2_melting 43 = .ok (.isub, 1) := by decide +kernel
theorem dX2_melting_44 : decode cX2_melting 44 = .ok (.goto 4, 3) := by decide +kernel
theorem dX2_melting_47 : decode cX2_melting 47 = .ok (.iconst 0, 1) := by decide +kernel
theorem dX2_melting_48 : decode cX2_melting 48 = .ok (.ireturn, 1) := by decide +kernel
theorem dX2_melting_49 : decode cX2_melting 49 = .ok (.iload_n 3, 1) := by decide +kernel
theorem dX2_melting_50 : decode cX2_melting 50 = .ok (.iconst 2, 1) := by decide +kernel
theorem dX2_melting_51 : decode cX2_melting 51 = .ok (.idiv, 1) := by decide +kernel
theorem dX2_melting_52 : decode cX2_melting 52 = .ok (.ireturn, 1) := by decide +kernel
theorem dX2_melting_53 : decode cX2_melting 53 = .ok (.iload_n 1, 1) := by decide +kernel
theorem dX2_melting_54 : decode cX2_melting 54 = .ok (.ireturn, 1) := by decide +kernel
theorem dX2_melting_55 : decode cX2_melting 55 = .ok (.iload_n 3, 1) := by decide +kernel
theorem dX2_melting_56 : decode cX2_melting 56 = .ok (.iconst 2, 1) := by decide +kernel
theorem dX2_melting_57 : decode cX2_melting 57 = .ok (.if_icmp .le 11, 3) := by decide +kernel
theorem dX2_melting_60 : decode cX2_melting 60 = .ok (.iload_n 3, 1) := by decide +kernel
theorem dX2_melting_61 : decode cX2_melting 61 = .ok (.iconst 2, 1) := by decide +kernel
theorem dX2_melting_62 : decode cX2_melting 62 = .ok (.idiv, 1) := by decide +kernel
theorem dX2_melting_63 : decode cX2_melting 63 = .ok (.iconst 1, 1) := by decide +kernel
theorem dX2_melting_64 : decode cX2_melting 64 = .ok (.isub, 1) := by decide +kernel
theorem dX2_melting_65 : decode cX2_melting 65 = .ok (.goto 4, 3) := by decide +kernel
theorem dX2_melting_68 : decode cX2_melting 68 = .ok (.iconst 0, 1) := by decide +kernel
theorem dX2_melting_69 : decode cX2_melting 69 = .ok (.ireturn, 1) := by decide +kernel
theorem dX2_melting_70 : decode cX2_melting 70 = .ok (.iload_n 3, 1) := by decide +kernel
theorem dX2_melting_71 : decode cX2_melting 71 = .ok (.ireturn, 1) := by decide +kernel
set_option maxRecDepth 20000 in
theorem ggX2_meltsNow_X2_melting : GoodIn wsX2_meltsNow wsX2_melting := goodIn_r _ [8] (by decide +kernel) (by decide +kernel)
set_option maxRecDepth 20000 in
theorem gX2_meltsNow_X2_melting : GoodIn wsX2_meltsNow (va_wsS RX2 243 yX2_melting wsX2_melting) := goodIn_app (goodIn_of _ (by decide +kernel)) ggX2_meltsNow_X2_melting
theorem dX2_meltsNow_0 : decode cX2_meltsNow 0 = .ok (.aload_n 0, 1) := by decide +kernel
theorem dX2_meltsNow_1 : decode cX2_meltsNow 1 = .ok (.getfield 16, 3) := by decide +kernel
theorem dX2_meltsNow_4 : decode cX2_meltsNow 4 = .ok (.iload_n 1, 1) := by decide +kernel
theorem dX2_meltsNow_5 : decode cX2_meltsNow 5 = .ok (.iaload, 1) := by decide +kernel
theorem dX2_meltsNow_6 : decode cX2_meltsNow 6 = .ok (.aload_n 0, 1) := by decide +kernel
theorem dX2_meltsNow_7 : decode cX2_meltsNow 7 = .ok (.getfield 26, 3) := by decide +kernel
theorem dX2_meltsNow_10 : decode cX2_meltsNow 10 = .ok (.getfield 121, 3) := by decide +kernel
theorem dX2_meltsNow_13 : decode cX2_meltsNow 13 = .ok (.aload_n 0, 1) := by decide +kernel
theorem dX2_meltsNow_14 : decode cX2_meltsNow 14 = .ok (.getfield 26, 3) := by decide +kernel
theorem dX2_meltsNow_17 : decode cX2_meltsNow 17 = .ok (.getfield 95, 3) := by decide +kernel
theorem dX2_meltsNow_20 : decode cX2_meltsNow 20 = .ok (.iload_n 1, 1) := by decide +kernel
theorem dX2_meltsNow_21 : decode cX2_meltsNow 21 = .ok (.iaload, 1) := by decide +kernel
theorem dX2_meltsNow_22 : decode cX2_meltsNow 22 = .ok (.invokestatic 243, 3) := by decide +kernel
theorem dX2_meltsNow_25 : decode cX2_meltsNow 25 = .ok (.ireturn, 1) := by decide +kernel
theorem dX2_deepened_0 : decode cX2_deepened 0 = .ok (.bipush 30, 2) := by decide +kernel
theorem dX2_deepened_2 : decode cX2_deepened 2 = .ok (.iload_n 0, 1) := by decide +kernel
theorem dX2_deepened_3 : decode cX2_deepened 3 = .ok (.iload_n 1, 1) := by decide +kernel
theorem dX2_deepened_4 : decode cX2_deepened 4 = .ok (.iadd, 1) := by decide +kernel
theorem dX2_deepened_5 : decode cX2_deepened 5 = .ok (.invokestatic 246, 3) := by decide +kernel
theorem dX2_deepened_8 : decode cX2_deepened 8 = .ok (.ireturn, 1) := by decide +kernel
theorem dX2_leftOf_0 : decode cX2_leftOf 0 = .ok (.iload_n 0, 1) := by decide +kernel
theorem dX2_leftOf_1 : decode cX2_leftOf 1 = .ok (.iload_n 1, 1) := by decide +kernel
theorem dX2_leftOf_2 : decode cX2_leftOf 2 = .ok (.if_icmp .le 9, 3) := by decide +kernel
theorem dX2_leftOf_5 : decode cX2_leftOf 5 = .ok (.iload_n 0, 1) := by decide +kernel
theorem dX2_leftOf_6 : decode cX2_leftOf 6 = .ok (.iload_n 1, 1) := by decide +kernel
theorem dX2_leftOf_7 : decode cX2_leftOf 7 = .ok (.isub, 1) := by decide +kernel
theorem dX2_leftOf_8 : decode cX2_leftOf 8 = .ok (.goto 4, 3) := by decide +kernel
theorem dX2_leftOf_11 : decode cX2_leftOf 11 = .ok (.iconst 0, 1) := by decide +kernel
theorem dX2_leftOf_12 : decode cX2_leftOf 12 = .ok (.ireturn, 1) := by decide +kernel
theorem dX2_priceAt_0 : decode cX2_priceAt 0 = .ok (.iload_n 0, 1) := by decide +kernel
theorem dX2_priceAt_1 : decode cX2_priceAt 1 = .ok (.iconst 1, 1) := by decide +kernel
theorem dX2_priceAt_2 : decode cX2_priceAt 2 = .ok (.iadd, 1) := by decide +kernel
theorem dX2_priceAt_3 : decode cX2_priceAt 3 = .ok (.ireturn, 1) := by decide +kernel
theorem dX2_isKeptWith_0 : decode cX2_isKeptWith 0 = .ok (.iload_n 2, 1) := by decide +kernel
theorem dX2_isKeptWith_1 : decode cX2_isKeptWith 1 = .ok (.aload_n 0, 1) := by decide +kernel
theorem dX2_isKeptWith_2 : decode cX2_isKeptWith 2 = .ok (.getfield 20, 3) := by decide +kernel
theorem dX2_isKeptWith_5 : decode cX2_isKeptWith 5 = .ok (.iload_n 1, 1) := by decide +kernel
theorem dX2_isKeptWith_6 : decode cX2_isKeptWith 6 = .ok (.iaload, 1) := by decide +kernel
theorem dX2_isKeptWith_7 : decode cX2_isKeptWith 7 = .ok (.if_icmp .lt 7, 3) := by decide +kernel
theorem dX2_isKeptWith_10 : decode cX2_isKeptWith 10 = .ok (.iconst 1, 1) := by decide +kernel
theorem dX2_isKeptWith_11 : decode cX2_isKeptWith 11 = .ok (.goto 4, 3) := by decide +kernel
theorem dX2_isKeptWith_14 : decode cX2_isKeptWith 14 = .ok (.iconst 0, 1) := by decide +kernel
theorem dX2_isKeptWith_15 : decode cX2_isKeptWith 15 = .ok (.ireturn, 1) := by decide +kernel
set_option maxRecDepth 20000 in
theorem ggX2_keptIn_X2_isKeptWith : GoodIn wsX2_keptIn wsX2_isKeptWith := goodIn_r _ [6, 7, 8, 9, 10, 11, 12, 13, 14, 15, 16, 17] (by decide +kernel) (by decide +kernel)
set_option maxRecDepth 20000 in
theorem gX2_keptIn_X2_isKeptWith : GoodIn wsX2_keptIn (wsV RX2 101 RX2 yX2_isKeptWith wsX2_isKeptWith) := goodIn_app (goodIn_of _ (by decide +kernel)) ggX2_keptIn_X2_isKeptWith
theorem dX2_keptIn_0 : decode cX2_keptIn 0 = .ok (.iconst 0, 1) := by decide +kernel
theorem dX2_keptIn_1 : decode cX2_keptIn 1 = .ok (.istore_n 2, 1) := by decide +kernel
theorem dX2_keptIn_2 : decode cX2_keptIn 2 = .ok (.iconst 0, 1) := by decide +kernel
theorem dX2_keptIn_3 : decode cX2_keptIn 3 = .ok (.istore_n 3, 1) := by decide +kernel
theorem dX2_keptIn_4 : decode cX2_keptIn 4 = .ok (.iload_n 3, 1) := by decide +kernel
theorem dX2_keptIn_5 : decode cX2_keptIn 5 = .ok (.aload_n 0, 1) := by decide +kernel
theorem dX2_keptIn_6 : decode cX2_keptIn 6 = .ok (.getfield 39, 3) := by decide +kernel
theorem dX2_keptIn_9 : decode cX2_keptIn 9 = .ok (.if_icmp .ge 23, 3) := by decide +kernel
theorem dX2_keptIn_12 : decode cX2_keptIn 12 = .ok (.aload_n 0, 1) := by decide +kernel
theorem dX2_keptIn_13 : decode cX2_keptIn 13 = .ok (.iload_n 3, 1) := by decide +kernel
theorem dX2_keptIn_14 : decode cX2_keptIn 14 = .ok (.aload_n 1, 1) := by decide +kernel
theorem dX2_keptIn_15 : decode cX2_keptIn 15 = .ok (.iload_n 3, 1) := by decide +kernel
theorem dX2_keptIn_16 : decode cX2_keptIn 16 = .ok (.iaload, 1) := by decide +kernel
theorem dX2_keptIn_17 : decode cX2_keptIn 17 = .ok (.invokevirtual 101, 3) := by decide +kernel
theorem dX2_keptIn_20 : decode cX2_keptIn 20 = .ok (.ifCond .eq 6, 3) := by decide +kernel
theorem dX2_keptIn_23 : decode cX2_keptIn 23 = .ok (.iinc 2 1, 3) := by decide +kernel
theorem dX2_keptIn_26 : decode cX2_keptIn 26 = .ok (.iinc 3 1, 3) := by decide +kernel
theorem dX2_keptIn_29 : decode cX2_keptIn 29 = .ok (.goto (-25), 3) := by decide +kernel
theorem dX2_keptIn_32 : decode cX2_keptIn 32 = .ok (.iload_n 2, 1) := by decide +kernel
theorem dX2_keptIn_33 : decode cX2_keptIn 33 = .ok (.ireturn, 1) := by decide +kernel
theorem dX2_snowIn_0 : decode cX2_snowIn 0 = .ok (.iconst 0, 1) := by decide +kernel
theorem dX2_snowIn_1 : decode cX2_snowIn 1 = .ok (.istore_n 2, 1) := by decide +kernel
theorem dX2_snowIn_2 : decode cX2_snowIn 2 = .ok (.iconst 0, 1) := by decide +kernel
theorem dX2_snowIn_3 : decode cX2_snowIn 3 = .ok (.istore_n 3, 1) := by decide +kernel
theorem dX2_snowIn_4 : decode cX2_snowIn 4 = .ok (.iload_n 3, 1) := by decide +kernel
theorem dX2_snowIn_5 : decode cX2_snowIn 5 = .ok (.aload_n 0, 1) := by decide +kernel
theorem dX2_snowIn_6 : decode cX2_snowIn 6 = .ok (.getfield 39, 3) := by decide +kernel
theorem dX2_snowIn_9 : decode cX2_snowIn 9 = .ok (.if_icmp .ge 15, 3) := by decide +kernel
theorem dX2_snowIn_12 : decode cX2_snowIn 12 = .ok (.iload_n 2, 1) := by decide +kernel
theorem dX2_snowIn_13 : decode cX2_snowIn 13 = .ok (.aload_n 1, 1) := by decide +kernel
theorem dX2_snowIn_14 : decode cX2_snowIn 14 = .ok (.iload_n 3, 1) := by decide +kernel
theorem dX2_snowIn_15 : decode cX2_snowIn 15 = .ok (.iaload, 1) := by decide +kernel
theorem dX2_snowIn_16 : decode cX2_snowIn 16 = .ok (.iadd, 1) := by decide +kernel
theorem dX2_snowIn_17 : decode cX2_snowIn 17 = .ok (.istore_n 2, 1) := by decide +kernel
theorem dX2_snowIn_18 : decode cX2_snowIn 18 = .ok (.iinc 3 1, 3) := by decide +kernel
theorem dX2_snowIn_21 : decode cX2_snowIn 21 = .ok (.goto (-17), 3) := by decide +kernel
theorem dX2_snowIn_24 : decode cX2_snowIn 24 = .ok (.iload_n 2, 1) := by decide +kernel
theorem dX2_snowIn_25 : decode cX2_snowIn 25 = .ok (.ireturn, 1) := by decide +kernel
set_option maxRecDepth 20000 in
theorem ggX2_bringOneLoad_X2_isSite : GoodIn wsX2_bringOneLoad wsX2_isSite := goodIn_r _ [5, 6, 14, 15, 16, 17, 18, 19, 20, 21, 22, 23] (by decide +kernel) (by decide +kernel)
set_option maxRecDepth 20000 in
theorem gX2_bringOneLoad_X2_isSite : GoodIn wsX2_bringOneLoad (wsV RX2 89 RX2 yX2_isSite wsX2_isSite) := goodIn_app (goodIn_of _ (by decide +kernel)) ggX2_bringOneLoad_X2_isSite
set_option maxRecDepth 20000 in
theorem ggX2_bringOneLoad_X2_deepened : GoodIn wsX2_bringOneLoad wsX2_deepened := goodIn_r _ [9, 10, 11, 12, 13] (by decide +kernel) (by decide +kernel)
set_option maxRecDepth 20000 in
theorem gX2_bringOneLoad_X2_deepened : GoodIn wsX2_bringOneLoad (va_wsS RX2 111 yX2_deepened wsX2_deepened) := goodIn_app (goodIn_of _ (by decide +kernel)) ggX2_bringOneLoad_X2_deepened
theorem dX2_bringOneLoad_0 : decode cX2_bringOneLoad 0 = .ok (.aload_n 0, 1) := by decide +kernel
theorem dX2_bringOneLoad_1 : decode cX2_bringOneLoad 1 = .ok (.iload_n 2, 1) := by decide +kernel
theorem dX2_bringOneLoad_2 : decode cX2_bringOneLoad 2 = .ok (.invokevirtual 89, 3) := by decide +kernel
theorem dX2_bringOneLoad_5 : decode cX2_bringOneLoad 5 = .ok (.ifCond .eq 13, 3) := by decide +kernel
theorem dX2_bringOneLoad_8 : decode cX2_bringOneLoad 8 = .ok (.aload_n 1, 1) := by decide +kernel
theorem dX2_bringOneLoad_9 : decode cX2_bringOneLoad 9 = .ok (.iload_n 2, 1) := by decide +kernel
theorem dX2_bringOneLoad_10 : decode cX2_bringOneLoad 10 = .ok (.aload_n 1, 1) := by decide +kernel
theorem dX2_bringOneLoad_11 : decode cX2_bringOneLoad 11 = .ok (.iload_n 2, 1) := by decide +kernel
theorem dX2_bringOneLoad_12 : decode cX2_bringOneLoad 12 = .ok (.iaload, 1) := by decide +kernel
theorem dX2_bringOneLoad_13 : decode cX2_bringOneLoad 13 = .ok (.iconst 1, 1) := by decide +kernel
theorem dX2_bringOneLoad_14 : decode cX2_bringOneLoad 14 = .ok (.invokestatic 111, 3) := by decide +kernel
theorem dX2_bringOneLoad_17 : decode cX2_bringOneLoad 17 = .ok (.iastore, 1) := by decide +kernel
theorem dX2_bringOneLoad_18 : decode cX2_bringOneLoad 18 = .ok (.return_, 1) := by decide +kernel
set_option maxRecDepth 20000 in
theorem ggX2_meltAll_X2_melting : GoodIn wsX2_meltAll wsX2_melting := goodIn_r _ [8] (by decide +kernel) (by decide +kernel)
set_option maxRecDepth 20000 in
theorem gX2_meltAll_X2_melting : GoodIn wsX2_meltAll (va_wsS RX2 243 yX2_melting wsX2_melting) := goodIn_app (goodIn_of _ (by decide +kernel)) ggX2_meltAll_X2_melting
set_option maxRecDepth 20000 in
theorem ggX2_meltAll_X2_leftOf : GoodIn wsX2_meltAll wsX2_leftOf := goodIn_r _ [11] (by decide +kernel) (by decide +kernel)
set_option maxRecDepth 20000 in
theorem gX2_meltAll_X2_leftOf : GoodIn wsX2_meltAll (va_wsS RX2 251 yX2_leftOf wsX2_leftOf) := goodIn_app (goodIn_of _ (by decide +kernel)) ggX2_meltAll_X2_leftOf
set_option maxRecDepth 20000 in
theorem ggX2_meltAll_X2_keptIn : GoodIn wsX2_meltAll wsX2_keptIn := goodIn_r _ [15, 1, 16, 17, 18, 7, 19, 20, 21, 22, 23, 24, 25, 26, 27, 28, 29, 30] (by decide +kernel) (by decide +kernel)
set_option maxRecDepth 20000 in
theorem gX2_meltAll_X2_keptIn : GoodIn wsX2_meltAll (wsV RX2 197 RX2 yX2_keptIn wsX2_keptIn) := goodIn_app (goodIn_of _ (by decide +kernel)) ggX2_meltAll_X2_keptIn
theorem dX2_meltAll_0 : decode cX2_meltAll 0 = .ok (.iconst 0, 1) := by decide +kernel
theorem dX2_meltAll_1 : decode cX2_meltAll 1 = .ok (.istore_n 3, 1) := by decide +kernel
theorem dX2_meltAll_2 : decode cX2_meltAll 2 = .ok (.iload_n 3, 1) := by decide +kernel
theorem dX2_meltAll_3 : decode cX2_meltAll 3 = .ok (.aload_n 0, 1) := by decide +kernel
theorem dX2_meltAll_4 : decode cX2_meltAll 4 = .ok (.getfield 39, 3) := by decide +kernel
theorem dX2_meltAll_7 : decode cX2_meltAll 7 = .ok (.if_icmp .ge 37, 3) := by decide +kernel
theorem dX2_meltAll_10 : decode cX2_meltAll 10 = .ok (.aload_n 1, 1) := by decide +kernel
theorem dX2_meltAll_11 : decode cX2_meltAll 11 = .ok (.iload_n 3, 1) := by decide +kernel
theorem dX2_meltAll_12 : decode cX2_meltAll 12 = .ok (.aload_n 1, 1) := by decide +kernel
theorem dX2_meltAll_13 : decode cX2_meltAll 13 = .ok (.iload_n 3, 1) := by decide +kernel
theorem dX2_meltAll_14 : decode cX2_meltAll 14 = .ok (.iaload, 1) := by decide +kernel
theorem dX2_meltAll_15 : decode cX2_meltAll 15 = .ok (.aload_n 0, 1) := by decide +kernel
theorem dX2_meltAll_16 : decode cX2_meltAll 16 = .ok (.getfield 16, 3) := by decide +kernel
theorem dX2_meltAll_19 : decode cX2_meltAll 19 = .ok (.iload_n 3, 1) := by decide +kernel
theorem dX2_meltAll_20 : decode cX2_meltAll 20 = .ok (.iaload, 1) := by decide +kernel
theorem dX2_meltAll_21 : decode cX2_meltAll 21 = .ok (.iload_n 2, 1) := by decide +kernel
theorem dX2_meltAll_22 : decode cX2_meltAll 22 = .ok (.aload_n 0, 1) := by decide +kernel
theorem dX2_meltAll_23 : decode cX2_meltAll 23 = .ok (.getfield 26, 3) := by decide +kernel
theorem dX2_meltAll_26 : decode cX2_meltAll 26 = .ok (.getfield 95, 3) := by decide +kernel
theorem dX2_meltAll_29 : decode cX2_meltAll 29 = .ok (.iload_n 3, 1) := by decide +kernel
theorem dX2_meltAll_30 : decode cX2_meltAll 30 = .ok (.iaload, 1) := by decide +kernel
theorem dX2_meltAll_31 : decode cX2_meltAll 31 = .ok (.invokestatic 243, 3) := by decide +kernel
theorem dX2_meltAll_34 : decode cX2_meltAll 34 = .ok (.invokestatic 251, 3) := by decide +kernel
theorem dX2_meltAll_37 : decode cX2_meltAll 37 = .ok (.iastore, 1) := by decide +kernel
theorem dX2_meltAll_38 : decode cX2_meltAll 38 = .ok (.iinc 3 1, 3) := by decide +kernel
theorem dX2_meltAll_41 : decode cX2_meltAll 41 = .ok (.goto (-39), 3) := by decide +kernel
theorem dX2_meltAll_44 : decode cX2_meltAll 44 = .ok (.aload_n 0, 1) := by decide +kernel
theorem dX2_meltAll_45 : decode cX2_meltAll 45 = .ok (.aload_n 1, 1) := by decide +kernel
theorem dX2_meltAll_46 : decode cX2_meltAll 46 = .ok (.invokevirtual 197, 3) := by decide +kernel
theorem dX2_meltAll_49 : decode cX2_meltAll 49 = .ok (.ireturn, 1) := by decide +kernel
set_option maxRecDepth 20000 in
theorem ggX2_loadsNeeded_X2_meltsNow : GoodIn wsX2_loadsNeeded wsX2_meltsNow := goodIn_r _ [12, 13, 2, 14, 15, 16, 17, 11, 18, 19, 20, 21, 22, 23, 24, 25, 26, 27, 28, 29, 30, 31, 32, 33, 34, 35, 36, 37, 38, 39, 40, 41] (by decide +kernel) (by decide +kernel)
set_option maxRecDepth 20000 in
theorem gX2_loadsNeeded_X2_meltsNow : GoodIn wsX2_loadsNeeded (wsV RX2 98 RX2 yX2_meltsNow wsX2_meltsNow) := goodIn_app (goodIn_of _ (by decide +kernel)) ggX2_loadsNeeded_X2_meltsNow
theorem dX2_loadsNeeded_0 : decode cX2_loadsNeeded 0 = .ok (.aload_n 0, 1) := by decide +kernel
theorem dX2_loadsNeeded_1 : decode cX2_loadsNeeded 1 = .ok (.getfield 20, 3) := by decide +kernel
theorem dX2_loadsNeeded_4 : decode cX2_loadsNeeded 4 = .ok (.iload_n 1, 1) := by decide +kernel
theorem dX2_loadsNeeded_5 : decode cX2_loadsNeeded 5 = .ok (.iaload, 1) := by decide +kernel
theorem dX2_loadsNeeded_6 : decode cX2_loadsNeeded 6 = .ok (.iload_n 2, 1) := by decide +kernel
theorem dX2_loadsNeeded_7 : decode cX2_loadsNeeded 7 = .ok (.aload_n 0, 1) := by decide +kernel
theorem dX2_loadsNeeded_8 : decode cX2_loadsNeeded 8 = .ok (.iload_n 1, 1) := by decide +kernel
theorem dX2_loadsNeeded_9 : decode cX2_loadsNeeded 9 = .ok (.invokevirtual 98, 3) := by decide +kernel
theorem dX2_loadsNeeded_12 : decode cX2_loadsNeeded 12 = .ok (.imul, 1) := by decide +kernel
theorem dX2_loadsNeeded_13 : decode cX2_loadsNeeded 13 = .ok (.iadd, 1) := by decide +kernel
theorem dX2_loadsNeeded_14 : decode cX2_loadsNeeded 14 = .ok (.istore_n 3, 1) := by decide +kernel
theorem dX2_loadsNeeded_15 : decode cX2_loadsNeeded 15 = .ok (.iload_n 3, 1) := by decide +kernel
theorem dX2_loadsNeeded_16 : decode cX2_loadsNeeded 16 = .ok (.bipush 30, 2) := by decide +kernel
theorem dX2_loadsNeeded_18 : decode cX2_loadsNeeded 18 = .ok (.if_icmp .le 7, 3) := by decide +kernel
theorem dX2_loadsNeeded_21 : decode cX2_loadsNeeded 21 = .ok (.iconst (-1), 1) := by decide +kernel
theorem dX2_loadsNeeded_22 : decode cX2_loadsNeeded 22 = .ok (.goto 18, 3) := by decide +kernel
theorem dX2_loadsNeeded_25 : decode cX2_loadsNeeded 25 = .ok (.iconst 0, 1) := by decide +kernel
theorem dX2_loadsNeeded_26 : decode cX2_loadsNeeded 26 = .ok (.iload_n 3, 1) := by decide +kernel
theorem dX2_loadsNeeded_27 : decode cX2_loadsNeeded 27 = .ok (.aload_n 0, 1) := by decide +kernel
theorem dX2_loadsNeeded_28 : decode cX2_loadsNeeded 28 = .ok (.getfield 26, 3) := by decide +kernel
theorem dX2_loadsNeeded_31 : decode cX2_loadsNeeded 31 = .ok (.getfield 92, 3) := by decide +kernel
theorem dX2_loadsNeeded_34 : decode cX2_loadsNeeded 34 = .ok (.iload_n 1, 1) := by decide +kernel
theorem dX2_loadsNeeded_35 : decode cX2_loadsNeeded 35 = .ok (.iaload, 1) := by decide +kernel
theorem dX2_loadsNeeded_36 : decode cX2_loadsNeeded 36 = .ok (.isub, 1) := by decide +kernel
theorem dX2_loadsNeeded_37 : decode cX2_loadsNeeded 37 = .ok (.invokestatic 254, 3) := by decide +kernel
theorem dX2_loadsNeeded_40 : decode cX2_loadsNeeded 40 = .ok (.ireturn, 1) := by decide +kernel
set_option maxRecDepth 20000 in
theorem ggX2_tellNeeds_X2_loadsNeeded : GoodIn wsX2_tellNeeds wsX2_loadsNeeded := goodIn_r _ [7, 8, 9, 10, 11, 12, 13, 14, 15, 16, 17, 6, 18, 19, 20, 21, 22, 23, 24, 25, 26, 27, 28, 29, 30, 31, 32, 33, 34, 35, 36, 37, 38, 39, 40, 41, 42, 43, 44, 45, 46, 47] (by decide +kernel) (by decide +kernel)
set_option maxRecDepth 20000 in
theorem gX2_tellNeeds_X2_loadsNeeded : GoodIn wsX2_tellNeeds (wsV RX2 131 RX2 yX2_loadsNeeded wsX2_loadsNeeded) := goodIn_app (goodIn_of _ (by decide +kernel)) ggX2_tellNeeds_X2_loadsNeeded
theorem dX2_tellNeeds_0 : decode cX2_tellNeeds 0 = .ok (.iconst 0, 1) := by decide +kernel
theorem dX2_tellNeeds_1 : decode cX2_tellNeeds 1 = .ok (.istore_n 2, 1) := by decide +kernel
theorem dX2_tellNeeds_2 : decode cX2_tellNeeds 2 = .ok (.iload_n 2, 1) := by decide +kernel
theorem dX2_tellNeeds_3 : decode cX2_tellNeeds 3 = .ok (.aload_n 0, 1) := by decide +kernel
theorem dX2_tellNeeds_4 : decode cX2_tellNeeds 4 = .ok (.getfield 39, 3) := by decide +kernel
theorem dX2_tellNeeds_7 : decode cX2_tellNeeds 7 = .ok (.if_icmp .ge 21, 3) := by decide +kernel
theorem dX2_tellNeeds_10 : decode cX2_tellNeeds 10 = .ok (.aload_n 0, 1) := by decide +kernel
theorem dX2_tellNeeds_11 : decode cX2_tellNeeds 11 = .ok (.getfield 36, 3) := by decide +kernel
theorem dX2_tellNeeds_14 : decode cX2_tellNeeds 14 = .ok (.iload_n 2, 1) := by decide +kernel
theorem dX2_tellNeeds_15 : decode cX2_tellNeeds 15 = .ok (.aload_n 0, 1) := by decide +kernel
theorem dX2_tellNeeds_16 : decode cX2_tellNeeds 16 = .ok (.iload_n 2, 1) := by decide +kernel
theorem dX2_tellNeeds_17 : decode cX2_tellNeeds 17 = .ok (.iload_n 1, 1) := by decide +kernel
theorem dX2_tellNeeds_18 : decode cX2_tellNeeds 18 = .ok (.invokevirtual 131, 3) := by decide +kernel
theorem dX2_tellNeeds_21 : decode cX2_tellNeeds 21 = .ok (.iastore, 1) := by decide +kernel
theorem dX2_tellNeeds_22 : decode cX2_tellNeeds 22 = .ok (.iinc 2 1, 3) := by decide +kernel
theorem dX2_tellNeeds_25 : decode cX2_tellNeeds 25 = .ok (.goto (-23), 3) := by decide +kernel
theorem dX2_tellNeeds_28 : decode cX2_tellNeeds 28 = .ok (.return_, 1) := by decide +kernel
set_option maxRecDepth 20000 in
theorem ggX2_bestPlan_X2_loadsOf : GoodIn wsX2_bestPlan wsX2_loadsOf := goodIn_r _ [6, 1, 7, 8, 9, 5, 10, 29, 30, 31, 32, 33, 34, 35, 36, 37, 38] (by decide +kernel) (by decide +kernel)
set_option maxRecDepth 20000 in
theorem gX2_bestPlan_X2_loadsOf : GoodIn wsX2_bestPlan (wsV RX2 145 RX2 yX2_loadsOf wsX2_loadsOf) := goodIn_app (goodIn_of _ (by decide +kernel)) ggX2_bestPlan_X2_loadsOf
set_option maxRecDepth 20000 in
theorem ggX2_bestPlan_X2_isBetterPlan : GoodIn wsX2_bestPlan wsX2_isBetterPlan := goodIn_r _ [14, 15, 16, 17, 18, 19, 20, 21, 22, 23, 24, 5, 25, 1, 7, 8, 9, 10, 26, 27, 28, 29, 30, 31, 32, 33, 34, 35, 36, 37, 38] (by decide +kernel) (by decide +kernel)
set_option maxRecDepth 20000 in
theorem gX2_bestPlan_X2_isBetterPlan : GoodIn wsX2_bestPlan (wsV RX2 257 RX2 yX2_isBetterPlan wsX2_isBetterPlan) := goodIn_app (goodIn_of _ (by decide +kernel)) ggX2_bestPlan_X2_isBetterPlan
theorem dX2_bestPlan_0 : decode cX2_bestPlan 0 = .ok (.iconst 0, 1) := by decide +kernel
theorem dX2_bestPlan_1 : decode cX2_bestPlan 1 = .ok (.istore_n 2, 1) := by decide +kernel
theorem dX2_bestPlan_2 : decode cX2_bestPlan 2 = .ok (.iconst 1, 1) := by decide +kernel
theorem dX2_bestPlan_3 : decode cX2_bestPlan 3 = .ok (.istore_n 3, 1) := by decide +kernel
theorem dX2_bestPlan_4 : decode cX2_bestPlan 4 = .ok (.iload_n 3, 1) := by decide +kernel
theorem dX2_bestPlan_5 : decode cX2_bestPlan 5 = .ok (.iconst 1, 1) := by decide +kernel
theorem dX2_bestPlan_6 : decode cX2_bestPlan 6 = .ok (.aload_n 0, 1) := by decide +kernel
theorem dX2_bestPlan_7 : decode cX2_bestPlan 7 = .ok (.getfield 39, 3) := by decide +kernel
theorem dX2_bestPlan_10 : decode cX2_bestPlan 10 = .ok (.ishl, 1) := by decide +kernel
theorem dX2_bestPlan_11 : decode cX2_bestPlan 11 = .ok (.if_icmp .ge 39, 3) := by decide +kernel
theorem dX2_bestPlan_14 : decode cX2_bestPlan 14 = .ok (.aload_n 0, 1) := by decide +kernel
theorem dX2_bestPlan_15 : decode cX2_bestPlan 15 = .ok (.iload_n 3, 1) := by decide +kernel
theorem dX2_bestPlan_16 : decode cX2_bestPlan 16 = .ok (.invokevirtual 145, 3) := by decide +kernel
theorem dX2_bestPlan_19 : decode cX2_bestPlan 19 = .ok (.istore 4, 2) := by decide +kernel
theorem dX2_bestPlan_21 : decode cX2_bestPlan 21 = .ok (.iload 4, 2) := by decide +kernel
theorem dX2_bestPlan_23 : decode cX2_bestPlan 23 = .ok (.iconst (-1), 1) := by decide +kernel
theorem dX2_bestPlan_24 : decode cX2_bestPlan 24 = .ok (.if_icmp .eq 20, 3) := by decide +kernel
theorem dX2_bestPlan_27 : decode cX2_bestPlan 27 = .ok (.iload 4, 2) := by decide +kernel
theorem dX2_bestPlan_29 : decode cX2_bestPlan 29 = .ok (.iload_n 1, 1) := by decide +kernel
theorem dX2_bestPlan_30 : decode cX2_bestPlan 30 = .ok (.if_icmp .gt 14, 3) := by decide +kernel
theorem dX2_bestPlan_33 : decode cX2_bestPlan 33 = .ok (.aload_n 0, 1) := by decide +kernel
theorem dX2_bestPlan_34 : decode cX2_bestPlan 34 = .ok (.iload_n 3, 1) := by decide +kernel
theorem dX2_bestPlan_35 : decode cX2_bestPlan 35 = .ok (.iload_n 2, 1) := by decide +kernel
theorem dX2_bestPlan_36 : decode cX2_bestPlan 36 = .ok (.invokevirtual 257, 3) := by decide +kernel
theorem dX2_bestPlan_39 : decode cX2_bestPlan 39 = .ok (.ifCond .eq 5, 3) := by decide +kernel
theorem dX2_bestPlan_42 : decode cX2_bestPlan 42 = .ok (.iload_n 3, 1) := by decide +kernel
theorem dX2_bestPlan_43 : decode cX2_bestPlan 43 = .ok (.istore_n 2, 1) := by decide +kernel
theorem dX2_bestPlan_44 : decode cX2_bestPlan 44 = .ok (.iinc 3 1, 3) := by decide +kernel
theorem dX2_bestPlan_47 : decode cX2_bestPlan 47 = .ok (.goto (-43), 3) := by decide +kernel
theorem dX2_bestPlan_50 : decode cX2_bestPlan 50 = .ok (.iload_n 2, 1) := by decide +kernel
theorem dX2_bestPlan_51 : decode cX2_bestPlan 51 = .ok (.ireturn, 1) := by decide +kernel
set_option maxRecDepth 20000 in
theorem ggX2_isBetterPlan_J6_bitCount_0f7a4 : GoodIn wsX2_isBetterPlan wsJ6_bitCount_0f7a4 := goodIn_r _ [4, 5, 6, 7] (by decide +kernel) (by decide +kernel)
set_option maxRecDepth 20000 in
theorem gX2_isBetterPlan_J6_bitCount_0f7a4 : GoodIn wsX2_isBetterPlan (va_wsS RX2 140 yJ6_bitCount_0f7a4 wsJ6_bitCount_0f7a4) := goodIn_app (goodIn_of _ (by decide +kernel)) ggX2_isBetterPlan_J6_bitCount_0f7a4
set_option maxRecDepth 20000 in
theorem ggX2_isBetterPlan_X2_costOf : GoodIn wsX2_isBetterPlan wsX2_costOf := goodIn_r _ [12, 13, 14, 15, 16, 11, 17, 18, 19, 20, 21, 22, 23, 24, 25, 26, 27, 28, 29, 30] (by decide +kernel) (by decide +kernel)
set_option maxRecDepth 20000 in
theorem gX2_isBetterPlan_X2_costOf : GoodIn wsX2_isBetterPlan (wsV RX2 148 RX2 yX2_costOf wsX2_costOf) := goodIn_app (goodIn_of _ (by decide +kernel)) ggX2_isBetterPlan_X2_costOf
theorem dX2_isBetterPlan_0 : decode cX2_isBetterPlan 0 = .ok (.iload_n 1, 1) := by decide +kernel
theorem dX2_isBetterPlan_1 : decode cX2_isBetterPlan 1 = .ok (.invokestatic 140, 3) := by decide +kernel
theorem dX2_isBetterPlan_4 : decode cX2_isBetterPlan 4 = .ok (.iload_n 2, 1) := by decide +kernel
theorem dX2_isBetterPlan_5 : decode cX2_isBetterPlan 5 = .ok (.invokestatic 140, 3) := by decide +kernel
theorem dX2_isBetterPlan_8 : decode cX2_isBetterPlan 8 = .ok (.isub, 1) := by decide +kernel
theorem dX2_isBetterPlan_9 : decode cX2_isBetterPlan 9 = .ok (.istore_n 3, 1) := by decide +kernel
theorem dX2_isBetterPlan_10 : decode cX2_isBetterPlan 10 = .ok (.iload_n 3, 1) := by decide +kernel
theorem dX2_isBetterPlan_11 : decode cX2_isBetterPlan 11 = .ok (.ifCond .gt 20, 3) := by decide +kernel
theorem dX2_isBetterPlan_14 : decode cX2_isBetterPlan 14 = .ok (.iload_n 3, 1) := by decide +kernel
theorem dX2_isBetterPlan_15 : decode cX2_isBetterPlan 15 = .ok (.ifCond .ne 20, 3) := by decide +kernel
theorem dX2_isBetterPlan_18 : decode cX2_isBetterPlan 18 = .ok (.aload_n 0, 1) := by decide +kernel
theorem dX2_isBetterPlan_19 : decode cX2_isBetterPlan 19 = .ok (.iload_n 1, 1) := by decide +kernel
theorem dX2_isBetterPlan_20 : decode cX2_isBetterPlan 20 = .ok (.invokevirtual 148, 3) := by decide +kernel
theorem dX2_isBetterPlan_23 : decode cX2_isBetterPlan 23 = .ok (.aload_n 0, 1) := by decide +kernel
theorem dX2_isBetterPlan_24 : decode cX2_isBetterPlan 24 = .ok (.iload_n 2, 1) := by decide +kernel
theorem dX2_isBetterPlan_25 : decode cX2_isBetterPlan 25 = .ok (.invokevirtual 148, 3) := by decide +kernel
theorem dX2_isBetterPlan_28 : decode cX2_isBetterPlan 28 = .ok (.if_icmp .ge 7, 3) := by decide +kernel
theorem dX2_isBetterPlan_31 : decode cX2_isBetterPlan 31 = .ok (.iconst 1, 1) := by decide +kernel
theorem dX2_isBetterPlan_32 : decode cX2_isBetterPlan 32 = .ok (.goto 4, 3) := by decide +kernel
theorem dX2_isBetterPlan_35 : decode cX2_isBetterPlan 35 = .ok (.iconst 0, 1) := by decide +kernel
theorem dX2_isBetterPlan_36 : decode cX2_isBetterPlan 36 = .ok (.ireturn, 1) := by decide +kernel
set_option maxRecDepth 20000 in
theorem ggX2_loadsOf_X2_hasBit : GoodIn wsX2_loadsOf wsX2_hasBit := goodIn_r _ [6] (by decide +kernel) (by decide +kernel)
set_option maxRecDepth 20000 in
theorem gX2_loadsOf_X2_hasBit : GoodIn wsX2_loadsOf (va_wsS RX2 260 yX2_hasBit wsX2_hasBit) := goodIn_app (goodIn_of _ (by decide +kernel)) ggX2_loadsOf_X2_hasBit
theorem dX2_loadsOf_0 : decode cX2_loadsOf 0 = .ok (.iconst 0, 1) := by decide +kernel
theorem dX2_loadsOf_1 : decode cX2_loadsOf 1 = .ok (.istore_n 2, 1) := by decide +kernel
theorem dX2_loadsOf_2 : decode cX2_loadsOf 2 = .ok (.iconst 0, 1) := by decide +kernel
theorem dX2_loadsOf_3 : decode cX2_loadsOf 3 = .ok (.istore_n 3, 1) := by decide +kernel
theorem dX2_loadsOf_4 : decode cX2_loadsOf 4 = .ok (.iload_n 3, 1) := by decide +kernel
theorem dX2_loadsOf_5 : decode cX2_loadsOf 5 = .ok (.aload_n 0, 1) := by decide +kernel
theorem dX2_loadsOf_6 : decode cX2_loadsOf 6 = .ok (.getfield 39, 3) := by decide +kernel
theorem dX2_loadsOf_9 : decode cX2_loadsOf 9 = .ok (.if_icmp .ge 38, 3) := by decide +kernel
theorem dX2_loadsOf_12 : decode cX2_loadsOf 12 = .ok (.iload_n 1, 1) := by decide +kernel
theorem dX2_loadsOf_13 : decode cX2_loadsOf 13 = .ok (.iload_n 3, 1) := by decide +kernel
theorem dX2_loadsOf_14 : decode cX2_loadsOf 14 = .ok (.invokestatic 260, 3) := by decide +kernel
theorem dX2_loadsOf_17 : decode cX2_loadsOf 17 = .ok (.ifCond .eq 24, 3) := by decide +kernel
theorem dX2_loadsOf_20 : decode cX2_loadsOf 20 = .ok (.aload_n 0, 1) := by decide +kernel
theorem dX2_loadsOf_21 : decode cX2_loadsOf 21 = .ok (.getfield 36, 3) := by decide +kernel
theorem dX2_loadsOf_24 : decode cX2_loadsOf 24 = .ok (.iload_n 3, 1) := by decide +kernel
theorem dX2_loadsOf_25 : decode cX2_loadsOf 25 = .ok (.iaload, 1) := by decide +kernel
theorem dX2_loadsOf_26 : decode cX2_loadsOf 26 = .ok (.iconst (-1), 1) := by decide +kernel
theorem dX2_loadsOf_27 : decode cX2_loadsOf 27 = .ok (.if_icmp .ne 5, 3) := by decide +kernel
theorem dX2_loadsOf_30 : decode cX2_loadsOf 30 = .ok (.iconst (-1), 1) := by decide +kernel
theorem dX2_loadsOf_31 : decode cX2_loadsOf 31 = .ok (.ireturn, 1) := by decide +kernel
theorem dX2_loadsOf_32 : decode cX2_loadsOf 32 = .ok (.iload_n 2, 1) := by decide +kernel
theorem dX2_loadsOf_33 : decode cX2_loadsOf 33 = .ok (.aload_n 0, 1) := by decide +kernel
theorem dX2_loadsOf_34 : decode cX2_loadsOf 34 = .ok (.getfield 36, 3) := by decide +kernel
theorem dX2_loadsOf_37 : decode cX2_loadsOf 37 = .ok (.iload_n 3, 1) := by decide +kernel
theorem dX2_loadsOf_38 : decode cX2_loadsOf 38 = .ok (.iaload, 1) := by decide +kernel
theorem dX2_loadsOf_39 : decode cX2_loadsOf 39 = .ok (.iadd, 1) := by decide +kernel
theorem dX2_loadsOf_40 : decode cX2_loadsOf 40 = .ok (.istore_n 2, 1) := by decide +kernel
theorem dX2_loadsOf_41 : decode cX2_loadsOf 41 = .ok (.iinc 3 1, 3) := by decide +kernel
theorem dX2_loadsOf_44 : decode cX2_loadsOf 44 = .ok (.goto (-40), 3) := by decide +kernel
theorem dX2_loadsOf_47 : decode cX2_loadsOf 47 = .ok (.iload_n 2, 1) := by decide +kernel
theorem dX2_loadsOf_48 : decode cX2_loadsOf 48 = .ok (.ireturn, 1) := by decide +kernel
set_option maxRecDepth 20000 in
theorem ggX2_costOf_X2_hasBit : GoodIn wsX2_costOf wsX2_hasBit := goodIn_r _ [6] (by decide +kernel) (by decide +kernel)
set_option maxRecDepth 20000 in
theorem gX2_costOf_X2_hasBit : GoodIn wsX2_costOf (va_wsS RX2 260 yX2_hasBit wsX2_hasBit) := goodIn_app (goodIn_of _ (by decide +kernel)) ggX2_costOf_X2_hasBit
set_option maxRecDepth 20000 in
theorem ggX2_costOf_X2_priceAt : GoodIn wsX2_costOf wsX2_priceAt := goodIn_r _ [9] (by decide +kernel) (by decide +kernel)
set_option maxRecDepth 20000 in
theorem gX2_costOf_X2_priceAt : GoodIn wsX2_costOf (va_wsS RX2 118 yX2_priceAt wsX2_priceAt) := goodIn_app (goodIn_of _ (by decide +kernel)) ggX2_costOf_X2_priceAt
theorem dX2_costOf_0 : decode cX2_costOf 0 = .ok (.iconst 0, 1) := by decide +kernel
theorem dX2_costOf_1 : decode cX2_costOf 1 = .ok (.istore_n 2, 1) := by decide +kernel
theorem dX2_costOf_2 : decode cX2_costOf 2 = .ok (.iconst 0, 1) := by decide +kernel
theorem dX2_costOf_3 : decode cX2_costOf 3 = .ok (.istore_n 3, 1) := by decide +kernel
theorem dX2_costOf_4 : decode cX2_costOf 4 = .ok (.iload_n 3, 1) := by decide +kernel
theorem dX2_costOf_5 : decode cX2_costOf 5 = .ok (.aload_n 0, 1) := by decide +kernel
theorem dX2_costOf_6 : decode cX2_costOf 6 = .ok (.getfield 39, 3) := by decide +kernel
theorem dX2_costOf_9 : decode cX2_costOf 9 = .ok (.if_icmp .ge 31, 3) := by decide +kernel
theorem dX2_costOf_12 : decode cX2_costOf 12 = .ok (.iload_n 1, 1) := by decide +kernel
theorem dX2_costOf_13 : decode cX2_costOf 13 = .ok (.iload_n 3, 1) := by decide +kernel
theorem dX2_costOf_14 : decode cX2_costOf 14 = .ok (.invokestatic 260, 3) := by decide +kernel
theorem dX2_costOf_17 : decode cX2_costOf 17 = .ok (.ifCond .eq 17, 3) := by decide +kernel
theorem dX2_costOf_20 : decode cX2_costOf 20 = .ok (.iload_n 2, 1) := by decide +kernel
theorem dX2_costOf_21 : decode cX2_costOf 21 = .ok (.aload_n 0, 1) := by decide +kernel
theorem dX2_costOf_22 : decode cX2_costOf 22 = .ok (.getfield 36, 3) := by decide +kernel
theorem dX2_costOf_25 : decode cX2_costOf 25 = .ok (.iload_n 3, 1) := by decide +kernel
theorem dX2_costOf_26 : decode cX2_costOf 26 = .ok (.iaload, 1) := by decide +kernel
theorem dX2_costOf_27 : decode cX2_costOf 27 = .ok (.iload_n 3, 1) := by decide +kernel
theorem dX2_costOf_28 : decode cX2_costOf 28 = .ok (.invokestatic 118, 3) := by decide +kernel
theorem dX2_costOf_31 : decode cX2_costOf 31 = .ok (.imul, 1) := by decide +kernel
theorem dX2_costOf_32 : decode cX2_costOf 32 = .ok (.iadd, 1) := by decide +kernel
theorem dX2_costOf_33 : decode cX2_costOf 33 = .ok (.istore_n 2, 1) := by decide +kernel
theorem dX2_costOf_34 : decode cX2_costOf 34 = .ok (.iinc 3 1, 3) := by decide +kernel
theorem dX2_costOf_37 : decode cX2_costOf 37 = .ok (.goto (-33), 3) := by decide +kernel
theorem dX2_costOf_40 : decode cX2_costOf 40 = .ok (.iload_n 2, 1) := by decide +kernel
theorem dX2_costOf_41 : decode cX2_costOf 41 = .ok (.ireturn, 1) := by decide +kernel
set_option maxRecDepth 20000 in
theorem ggX2_bestError_X2_keptIn : GoodIn wsX2_bestError wsX2_keptIn := goodIn_r _ [8, 3, 9, 10, 11, 7, 12, 13, 35, 36, 37, 38, 39, 40, 41, 42, 43, 44] (by decide +kernel) (by decide +kernel)
set_option maxRecDepth 20000 in
theorem gX2_bestError_X2_keptIn : GoodIn wsX2_bestError (wsV RX2 197 RX2 yX2_keptIn wsX2_keptIn) := goodIn_app (goodIn_of _ (by decide +kernel)) ggX2_bestError_X2_keptIn
set_option maxRecDepth 20000 in
theorem ggX2_bestError_X2_keptIfSwapped : GoodIn wsX2_bestError wsX2_keptIfSwapped := goodIn_r _ [17, 3, 1, 2, 18, 19, 20, 7, 21, 22, 23, 24, 25, 26, 27, 28, 29, 30, 31, 32, 33, 34, 9, 10, 11, 12, 13, 35, 36, 37, 38, 39, 40, 41, 42, 43, 44, 45, 46, 47, 48, 49, 50, 51, 52, 53, 54, 55, 56, 57] (by decide +kernel) (by decide +kernel)
set_option maxRecDepth 20000 in
theorem gX2_bestError_X2_keptIfSwapped : GoodIn wsX2_bestError (wsV RX2 154 RX2 yX2_keptIfSwapped wsX2_keptIfSwapped) := goodIn_app (goodIn_of _ (by decide +kernel)) ggX2_bestError_X2_keptIfSwapped
theorem dX2_bestError_0 : decode cX2_bestError 0 = .ok (.iconst (-1), 1) := by decide +kernel
theorem dX2_bestError_1 : decode cX2_bestError 1 = .ok (.istore_n 1, 1) := by decide +kernel
theorem dX2_bestError_2 : decode cX2_bestError 2 = .ok (.aload_n 0, 1) := by decide +kernel
theorem dX2_bestError_3 : decode cX2_bestError 3 = .ok (.aload_n 0, 1) := by decide +kernel
theorem dX2_bestError_4 : decode cX2_bestError 4 = .ok (.getfield 26, 3) := by decide +kernel
theorem dX2_bestError_7 : decode cX2_bestError 7 = .ok (.getfield 92, 3) := by decide +kernel
theorem dX2_bestError_10 : decode cX2_bestError 10 = .ok (.invokevirtual 197, 3) := by decide +kernel
theorem dX2_bestError_13 : decode cX2_bestError 13 = .ok (.istore_n 2, 1) := by decide +kernel
theorem dX2_bestError_14 : decode cX2_bestError 14 = .ok (.iconst 0, 1) := by decide +kernel
theorem dX2_bestError_15 : decode cX2_bestError 15 = .ok (.istore_n 3, 1) := by decide +kernel
theorem dX2_bestError_16 : decode cX2_bestError 16 = .ok (.iload_n 3, 1) := by decide +kernel
theorem dX2_bestError_17 : decode cX2_bestError 17 = .ok (.aload_n 0, 1) := by decide +kernel
theorem dX2_bestError_18 : decode cX2_bestError 18 = .ok (.getfield 39, 3) := by decide +kernel
theorem dX2_bestError_21 : decode cX2_bestError 21 = .ok (.if_icmp .ge 55, 3) := by decide +kernel
theorem dX2_bestError_24 : decode cX2_bestError 24 = .ok (.iload_n 3, 1) := by decide +kernel
theorem dX2_bestError_25 : decode cX2_bestError 25 = .ok (.iconst 1, 1) := by decide +kernel
theorem dX2_bestError_26 : decode cX2_bestError 26 = .ok (.iadd, 1) := by decide +kernel
theorem dX2_bestError_27 : decode cX2_bestError 27 = .ok (.istore 4, 2) := by decide +kernel
theorem dX2_bestError_29 : decode cX2_bestError 29 = .ok (.iload 4, 2) := by decide +kernel
theorem dX2_bestError_31 : decode cX2_bestError 31 = .ok (.aload_n 0, 1) := by decide +kernel
theorem dX2_bestError_32 : decode cX2_bestError 32 = .ok (.getfield 39, 3) := by decide +kernel
theorem dX2_bestError_35 : decode cX2_bestError 35 = .ok (.if_icmp .ge 35, 3) := by decide +kernel
theorem dX2_bestError_38 : decode cX2_bestError 38 = .ok (.aload_n 0, 1) := by decide +kernel
theorem dX2_bestError_39 : decode cX2_bestError 39 = .ok (.iload_n 3, 1) := by decide +kernel
theorem dX2_bestError_40 : decode cX2_bestError 40 = .ok (.iload 4, 2) := by decide +kernel
theorem dX2_bestError_42 : decode cX2_bestError 42 = .ok (.invokevirtual 154, 3) := by decide +kernel
theorem dX2_bestError_45 : decode cX2_bestError 45 = .ok (.istore 5, 2) := by decide +kernel
theorem dX2_bestError_47 : decode cX2_bestError 47 = .ok (.iload 5, 2) := by decide +kernel
theorem dX2_bestError_49 : decode cX2_bestError 49 = .ok (.iload_n 2, 1) := by decide +kernel
theorem dX2_bestError_50 : decode cX2_bestError 50 = .ok (.if_icmp .le 14, 3) := by decide +kernel
theorem dX2_bestError_53 : decode cX2_bestError 53 = .ok (.iload 5, 2) := by decide +kernel
theorem dX2_bestError_55 : decode cX2_bestError 55 = .ok (.istore_n 2, 1) := by decide +kernel
theorem dX2_bestError_56 : decode cX2_bestError 56 = .ok (.bipush 10, 2) := by decide +kernel
theorem dX2_bestError_58 : decode cX2_bestError 58 = .ok (.iload_n 3, 1) := by decide +kernel
theorem dX2_bestError_59 : decode cX2_bestError 59 = .ok (.imul, 1) := by decide +kernel
theorem dX2_bestError_60 : decode cX2_bestError 60 = .ok (.iload 4, 2) := by decide +kernel
theorem dX2_bestError_62 : decode cX2_bestError 62 = .ok (.iadd, 1) := by decide +kernel
theorem dX2_bestError_63 : decode cX2_bestError 63 = .ok (.istore_n 1, 1) := by decide +kernel
theorem dX2_bestError_64 : decode cX2_bestError 64 = .ok (.iinc 4 1, 3) := by decide +kernel
theorem dX2_bestError_67 : decode cX2_bestError 67 = .ok (.goto (-38), 3) := by decide +kernel
theorem dX2_bestError_70 : decode cX2_bestError 70 = .ok (.iinc 3 1, 3) := by decide +kernel
theorem dX2_bestError_73 : decode cX2_bestError 73 = .ok (.goto (-57), 3) := by decide +kernel
theorem dX2_bestError_76 : decode cX2_bestError 76 = .ok (.iload_n 1, 1) := by decide +kernel
theorem dX2_bestError_77 : decode cX2_bestError 77 = .ok (.ireturn, 1) := by decide +kernel
set_option maxRecDepth 20000 in
theorem ggX2_keptIfSwapped_X2_deepWithLoadsOf : GoodIn wsX2_keptIfSwapped wsX2_deepWithLoadsOf := goodIn_r _ [8, 2, 9, 10, 11, 12, 13, 7, 14, 1, 15, 16, 17, 18, 19, 20, 21, 27, 28, 29, 30, 31, 32, 33, 34, 35, 36, 37, 38, 39, 40, 41, 42, 43, 44, 45, 46, 47, 48, 49] (by decide +kernel) (by decide +kernel)
set_option maxRecDepth 20000 in
theorem gX2_keptIfSwapped_X2_deepWithLoadsOf : GoodIn wsX2_keptIfSwapped (wsV RX2 263 RX2 yX2_deepWithLoadsOf wsX2_deepWithLoadsOf) := goodIn_app (goodIn_of _ (by decide +kernel)) ggX2_keptIfSwapped_X2_deepWithLoadsOf
set_option maxRecDepth 20000 in
theorem ggX2_keptIfSwapped_X2_isKeptWith : GoodIn wsX2_keptIfSwapped wsX2_isKeptWith := goodIn_r _ [25, 26, 27, 28, 29, 30, 31, 32, 33, 34, 35, 36] (by decide +kernel) (by decide +kernel)
set_option maxRecDepth 20000 in
theorem gX2_keptIfSwapped_X2_isKeptWith : GoodIn wsX2_keptIfSwapped (wsV RX2 101 RX2 yX2_isKeptWith wsX2_isKeptWith) := goodIn_app (goodIn_of _ (by decide +kernel)) ggX2_keptIfSwapped_X2_isKeptWith
theorem dX2_keptIfSwapped_0 : decode cX2_keptIfSwapped 0 = .ok (.iconst 0, 1) := by decide +kernel
theorem dX2_keptIfSwapped_1 : decode cX2_keptIfSwapped 1 = .ok (.istore_n 3, 1) := by decide +kernel
theorem dX2_keptIfSwapped_2 : decode cX2_keptIfSwapped 2 = .ok (.iconst 0, 1) := by decide +kernel
theorem dX2_keptIfSwapped_3 : decode cX2_keptIfSwapped 3 = .ok (.istore 4, 2) := by decide +kernel
theorem dX2_keptIfSwapped_5 : decode cX2_keptIfSwapped 5 = .ok (.iload 4, 2) := by decide +kernel
theorem dX2_keptIfSwapped_7 : decode cX2_keptIfSwapped 7 = .ok (.aload_n 0, 1) := by decide +kernel
theorem dX2_keptIfSwapped_8 : decode cX2_keptIfSwapped 8 = .ok (.getfield 39, 3) := by decide +kernel
theorem dX2_keptIfSwapped_11 : decode cX2_keptIfSwapped 11 = .ok (.if_icmp .ge 68, 3) := by decide +kernel
theorem dX2_keptIfSwapped_14 : decode cX2_keptIfSwapped 14 = .ok (.aload_n 0, 1) := by decide +kernel
theorem dX2_keptIfSwapped_15 : decode cX2_keptIfSwapped 15 = .ok (.getfield 26, 3) := by decide +kernel
theorem dX2_keptIfSwapped_18 : decode cX2_keptIfSwapped 18 = .ok (.getfield 92, 3) := by decide +kernel
theorem dX2_keptIfSwapped_21 : decode cX2_keptIfSwapped 21 = .ok (.iload 4, 2) := by decide +kernel
theorem dX2_keptIfSwapped_23 : decode cX2_keptIfSwapped 23 = .ok (.iaload, 1) := by decide +kernel
theorem dX2_keptIfSwapped_24 : decode cX2_keptIfSwapped 24 = .ok (.istore 5, 2) := by decide +kernel
theorem dX2_keptIfSwapped_26 : decode cX2_keptIfSwapped 26 = .ok (.iload 4, 2) := by decide +kernel
theorem dX2_keptIfSwapped_28 : decode cX2_keptIfSwapped 28 = .ok (.iload_n 1, 1) := by decide +kernel
theorem dX2_keptIfSwapped_29 : decode cX2_keptIfSwapped 29 = .ok (.if_icmp .ne 15, 3) := by decide +kernel
theorem dX2_keptIfSwapped_32 : decode cX2_keptIfSwapped 32 = .ok (.aload_n 0, 1) := by decide +kernel
theorem dX2_keptIfSwapped_33 : decode cX2_keptIfSwapped 33 = .ok (.iload 4, 2) := by decide +kernel
theorem dX2_keptIfSwapped_35 : decode cX2_keptIfSwapped 35 = .ok (.iload_n 2, 1) := by decide +kernel
theorem dX2_keptIfSwapped_36 : decode cX2_keptIfSwapped 36 = .ok (.invokevirtual 263, 3) := by decide +kernel
theorem dX2_keptIfSwapped_39 : decode cX2_keptIfSwapped 39 = .ok (.istore 5, 2) := by decide +kernel
theorem dX2_keptIfSwapped_41 : decode cX2_keptIfSwapped 41 = .ok (.goto 18, 3) := by decide +kernel
theorem dX2_keptIfSwapped_44 : decode cX2_keptIfSwapped 44 = .ok (.iload 4, 2) := by decide +kernel
theorem dX2_keptIfSwapped_46 : decode cX2_keptIfSwapped 46 = .ok (.iload_n 2, 1) := by decide +kernel
theorem dX2_keptIfSwapped_47 : decode cX2_keptIfSwapped 47 = .ok (.if_icmp .ne 12, 3) := by decide +kernel
theorem dX2_keptIfSwapped_50 : decode cX2_keptIfSwapped 50 = .ok (.aload_n 0, 1) := by decide +kernel
theorem dX2_keptIfSwapped_51 : decode cX2_keptIfSwapped 51 = .ok (.iload 4, 2) := by decide +kernel
theorem dX2_keptIfSwapped_53 : decode cX2_keptIfSwapped 53 = .ok (.iload_n 1, 1) := by decide +kernel
theorem dX2_keptIfSwapped_54 : decode cX2_keptIfSwapped 54 = .ok (.invokevirtual 263, 3) := by decide +kernel
theorem dX2_keptIfSwapped_57 : decode cX2_keptIfSwapped 57 = .ok (.istore 5, 2) := by decide +kernel
theorem dX2_keptIfSwapped_59 : decode cX2_keptIfSwapped 59 = .ok (.aload_n 0, 1) := by decide +kernel
theorem dX2_keptIfSwapped_60 : decode cX2_keptIfSwapped 60 = .ok (.iload 4, 2) := by decide +kernel
theorem dX2_keptIfSwapped_62 : decode cX2_keptIfSwapped 62 = .ok (.iload 5, 2) := by decide +kernel
theorem dX2_keptIfSwapped_64 : decode cX2_keptIfSwapped 64 = .ok (.invokevirtual 101, 3) := by decide +kernel
theorem dX2_keptIfSwapped_67 : decode cX2_keptIfSwapped 67 = .ok (.ifCond .eq 6, 3) := by decide +kernel
theorem dX2_keptIfSwapped_70 : decode cX2_keptIfSwapped 70 = .ok (.iinc 3 1, 3) := by decide +kernel
theorem dX2_keptIfSwapped_73 : decode cX2_keptIfSwapped 73 = .ok (.iinc 4 1, 3) := by decide +kernel
theorem dX2_keptIfSwapped_76 : decode cX2_keptIfSwapped 76 = .ok (.goto (-71), 3) := by decide +kernel
theorem dX2_keptIfSwapped_79 : decode cX2_keptIfSwapped 79 = .ok (.iload_n 3, 1) := by decide +kernel
theorem dX2_keptIfSwapped_80 : decode cX2_keptIfSwapped 80 = .ok (.ireturn, 1) := by decide +kernel
set_option maxRecDepth 20000 in
theorem ggX2_deepWithLoadsOf_X2_isSite : GoodIn wsX2_deepWithLoadsOf wsX2_isSite := goodIn_r _ [8, 9, 17, 18, 19, 20, 21, 22, 23, 24, 25, 26] (by decide +kernel) (by decide +kernel)
set_option maxRecDepth 20000 in
theorem gX2_deepWithLoadsOf_X2_isSite : GoodIn wsX2_deepWithLoadsOf (wsV RX2 89 RX2 yX2_isSite wsX2_isSite) := goodIn_app (goodIn_of _ (by decide +kernel)) ggX2_deepWithLoadsOf_X2_isSite
set_option maxRecDepth 20000 in
theorem ggX2_deepWithLoadsOf_X2_deepened : GoodIn wsX2_deepWithLoadsOf wsX2_deepened := goodIn_r _ [12, 13, 14, 15, 16] (by decide +kernel) (by decide +kernel)
set_option maxRecDepth 20000 in
theorem gX2_deepWithLoadsOf_X2_deepened : GoodIn wsX2_deepWithLoadsOf (va_wsS RX2 111 yX2_deepened wsX2_deepened) := goodIn_app (goodIn_of _ (by decide +kernel)) ggX2_deepWithLoadsOf_X2_deepened
theorem dX2_deepWithLoadsOf_0 : decode cX2_deepWithLoadsOf 0 = .ok (.aload_n 0, 1) := by decide +kernel
theorem dX2_deepWithLoadsOf_1 : decode cX2_deepWithLoadsOf 1 = .ok (.iload_n 1, 1) := by decide +kernel
theorem dX2_deepWithLoadsOf_2 : decode cX2_deepWithLoadsOf 2 = .ok (.invokevirtual 89, 3) := by decide +kernel
theorem dX2_deepWithLoadsOf_5 : decode cX2_deepWithLoadsOf 5 = .ok (.ifCond .eq 11, 3) := by decide +kernel
theorem dX2_deepWithLoadsOf_8 : decode cX2_deepWithLoadsOf 8 = .ok (.aload_n 0, 1) := by decide +kernel
theorem dX2_deepWithLoadsOf_9 : decode cX2_deepWithLoadsOf 9 = .ok (.iload_n 2, 1) := by decide +kernel
theorem dX2_deepWithLoadsOf_10 : decode cX2_deepWithLoadsOf 10 = .ok (.invokevirtual 89, 3) := by decide +kernel
theorem dX2_deepWithLoadsOf_13 : decode cX2_deepWithLoadsOf 13 = .ok (.ifCond .ne 5, 3) := by decide +kernel
theorem dX2_deepWithLoadsOf_16 : decode cX2_deepWithLoadsOf 16 = .ok (.iconst 0, 1) := by decide +kernel
theorem dX2_deepWithLoadsOf_17 : decode cX2_deepWithLoadsOf 17 = .ok (.ireturn, 1) := by decide +kernel
theorem dX2_deepWithLoadsOf_18 : decode cX2_deepWithLoadsOf 18 = .ok (.aload_n 0, 1) := by decide +kernel
theorem dX2_deepWithLoadsOf_19 : decode cX2_deepWithLoadsOf 19 = .ok (.getfield 26, 3) := by decide +kernel
theorem dX2_deepWithLoadsOf_22 : decode cX2_deepWithLoadsOf 22 = .ok (.getfield 266, 3) := by decide +kernel
theorem dX2_deepWithLoadsOf_25 : decode cX2_deepWithLoadsOf 25 = .ok (.iload_n 1, 1) := by decide +kernel
theorem dX2_deepWithLoadsOf_26 : decode cX2_deepWithLoadsOf 26 = .ok (.iaload, 1) := by decide +kernel
theorem dX2_deepWithLoadsOf_27 : decode cX2_deepWithLoadsOf 27 = .ok (.aload_n 0, 1) := by decide +kernel
theorem dX2_deepWithLoadsOf_28 : decode cX2_deepWithLoadsOf 28 = .ok (.getfield 26, 3) := by decide +kernel
theorem dX2_deepWithLoadsOf_31 : decode cX2_deepWithLoadsOf 31 = .ok (.getfield 105, 3) := by decide +kernel
theorem dX2_deepWithLoadsOf_34 : decode cX2_deepWithLoadsOf 34 = .ok (.iload_n 2, 1) := by decide +kernel
theorem dX2_deepWithLoadsOf_35 : decode cX2_deepWithLoadsOf 35 = .ok (.iaload, 1) := by decide +kernel
theorem dX2_deepWithLoadsOf_36 : decode cX2_deepWithLoadsOf 36 = .ok (.invokestatic 111, 3) := by decide +kernel
theorem dX2_deepWithLoadsOf_39 : decode cX2_deepWithLoadsOf 39 = .ok (.ireturn, 1) := by decide +kernel
set_option maxRecDepth 20000 in
theorem ggX2_possibleSuns_X2_explainsAllFound : GoodIn wsX2_possibleSuns wsX2_explainsAllFound := goodIn_r _ [5, 6, 7, 8, 9, 10, 11, 12, 13, 4, 14, 15, 16, 17, 18, 19, 20, 21, 22, 23, 24, 25, 26, 27, 28, 29, 30, 31, 32, 33, 34, 35, 36, 37, 38, 39, 40] (by decide +kernel) (by decide +kernel)
set_option maxRecDepth 20000 in
theorem gX2_possibleSuns_X2_explainsAllFound : GoodIn wsX2_possibleSuns (wsV RX2 269 RX2 yX2_explainsAllFound wsX2_explainsAllFound) := goodIn_app (goodIn_of _ (by decide +kernel)) ggX2_possibleSuns_X2_explainsAllFound
theorem dX2_possibleSuns_0 : decode cX2_possibleSuns 0 = .ok (.iconst 0, 1) := by decide +kernel
theorem dX2_possibleSuns_1 : decode cX2_possibleSuns 1 = .ok (.istore_n 1, 1) := by decide +kernel
theorem dX2_possibleSuns_2 : decode cX2_possibleSuns 2 = .ok (.iconst 0, 1) := by decide +kernel
theorem dX2_possibleSuns_3 : decode cX2_possibleSuns 3 = .ok (.istore_n 2, 1) := by decide +kernel
theorem dX2_possibleSuns_4 : decode cX2_possibleSuns 4 = .ok (.iload_n 2, 1) := by decide +kernel
theorem dX2_possibleSuns_5 : decode cX2_possibleSuns 5 = .ok (.bipush 9, 2) := by decide +kernel
theorem dX2_possibleSuns_7 : decode cX2_possibleSuns 7 = .ok (.if_icmp .gt 23, 3) := by decide +kernel
theorem dX2_possibleSuns_10 : decode cX2_possibleSuns 10 = .ok (.aload_n 0, 1) := by decide +kernel
theorem dX2_possibleSuns_11 : decode cX2_possibleSuns 11 = .ok (.iload_n 2, 1) := by decide +kernel
theorem dX2_possibleSuns_12 : decode cX2_possibleSuns 12 = .ok (.invokevirtual 269, 3) := by decide +kernel
theorem dX2_possibleSuns_15 : decode cX2_possibleSuns 15 = .ok (.ifCond .eq 9, 3) := by decide +kernel
theorem dX2_possibleSuns_18 : decode cX2_possibleSuns 18 = .ok (.iload_n 1, 1) := by decide +kernel
theorem dX2_possibleSuns_19 : decode cX2_possibleSuns 19 = .ok (.iconst 1, 1) := by decide +kernel
theorem dX2_possibleSuns_20 : decode cX2_possibleSuns 20 = .ok (.iload_n 2, 1) := by decide +kernel
theorem dX2_possibleSuns_21 : decode cX2_possibleSuns 21 = .ok (.ishl, 1) := by decide +kernel
theorem dX2_possibleSuns_22 : decode cX2_possibleSuns 22 = .ok (.ior, 1) := by decide +kernel
theorem dX2_possibleSuns_23 : decode cX2_possibleSuns 23 = .ok (.istore_n 1, 1) := by decide +kernel
theorem dX2_possibleSuns_24 : decode cX2_possibleSuns 24 = .ok (.iinc 2 1, 3) := by decide +kernel
theorem dX2_possibleSuns_27 : decode cX2_possibleSuns 27 = .ok (.goto (-23), 3) := by decide +kernel
theorem dX2_possibleSuns_30 : decode cX2_possibleSuns 30 = .ok (.iload_n 1, 1) := by decide +kernel
theorem dX2_possibleSuns_31 : decode cX2_possibleSuns 31 = .ok (.ireturn, 1) := by decide +kernel
set_option maxRecDepth 20000 in
theorem ggX2_explainsAllFound_X2_melting : GoodIn wsX2_explainsAllFound wsX2_melting := goodIn_r _ [10] (by decide +kernel) (by decide +kernel)
set_option maxRecDepth 20000 in
theorem gX2_explainsAllFound_X2_melting : GoodIn wsX2_explainsAllFound (va_wsS RX2 243 yX2_melting wsX2_melting) := goodIn_app (goodIn_of _ (by decide +kernel)) ggX2_explainsAllFound_X2_melting
set_option maxRecDepth 20000 in
theorem ggX2_explainsAllFound_X2_leftOf : GoodIn wsX2_explainsAllFound wsX2_leftOf := goodIn_r _ [13] (by decide +kernel) (by decide +kernel)
set_option maxRecDepth 20000 in
theorem gX2_explainsAllFound_X2_leftOf : GoodIn wsX2_explainsAllFound (va_wsS RX2 251 yX2_leftOf wsX2_leftOf) := goodIn_app (goodIn_of _ (by decide +kernel)) ggX2_explainsAllFound_X2_leftOf
theorem dX2_explainsAllFound_0 : decode cX2_explainsAllFound 0 = .ok (.iconst 0, 1) := by decide +kernel
theorem dX2_explainsAllFound_1 : decode cX2_explainsAllFound 1 = .ok (.istore_n 2, 1) := by decide +kernel
theorem dX2_explainsAllFound_2 : decode cX2_explainsAllFound 2 = .ok (.iload_n 2, 1) := by decide +kernel
theorem dX2_explainsAllFound_3 : decode cX2_explainsAllFound 3 = .ok (.aload_n 0, 1) := by decide +kernel
theorem dX2_explainsAllFound_4 : decode cX2_explainsAllFound 4 = .ok (.getfield 26, 3) := by decide +kernel
theorem dX2_explainsAllFound_7 : decode cX2_explainsAllFound 7 = .ok (.getfield 161, 3) := by decide +kernel
theorem dX2_explainsAllFound_10 : decode cX2_explainsAllFound 10 = .ok (.if_icmp .ge 59, 3) := by decide +kernel
theorem dX2_explainsAllFound_13 : decode cX2_explainsAllFound 13 = .ok (.aload_n 0, 1) := by decide +kernel
theorem dX2_explainsAllFound_14 : decode cX2_explainsAllFound 14 = .ok (.getfield 26, 3) := by decide +kernel
theorem dX2_explainsAllFound_17 : decode cX2_explainsAllFound 17 = .ok (.getfield 272, 3) := by decide +kernel
theorem dX2_explainsAllFound_20 : decode cX2_explainsAllFound 20 = .ok (.iload_n 2, 1) := by decide +kernel
theorem dX2_explainsAllFound_21 : decode cX2_explainsAllFound 21 = .ok (.iaload, 1) := by decide +kernel
theorem dX2_explainsAllFound_22 : decode cX2_explainsAllFound 22 = .ok (.iload_n 1, 1) := by decide +kernel
theorem dX2_explainsAllFound_23 : decode cX2_explainsAllFound 23 = .ok (.aload_n 0, 1) := by decide +kernel
theorem dX2_explainsAllFound_24 : decode cX2_explainsAllFound 24 = .ok (.getfield 26, 3) := by decide +kernel
theorem dX2_explainsAllFound_27 : decode cX2_explainsAllFound 27 = .ok (.getfield 275, 3) := by decide +kernel
theorem dX2_explainsAllFound_30 : decode cX2_explainsAllFound 30 = .ok (.iload_n 2, 1) := by decide +kernel
theorem dX2_explainsAllFound_31 : decode cX2_explainsAllFound 31 = .ok (.iaload, 1) := by decide +kernel
theorem dX2_explainsAllFound_32 : decode cX2_explainsAllFound 32 = .ok (.invokestatic 243, 3) := by decide +kernel
theorem dX2_explainsAllFound_35 : decode cX2_explainsAllFound 35 = .ok (.istore_n 3, 1) := by decide +kernel
theorem dX2_explainsAllFound_36 : decode cX2_explainsAllFound 36 = .ok (.aload_n 0, 1) := by decide +kernel
theorem dX2_explainsAllFound_37 : decode cX2_explainsAllFound 37 = .ok (.getfield 26, 3) := by decide +kernel
theorem dX2_explainsAllFound_40 : decode cX2_explainsAllFound 40 = .ok (.getfield 278, 3) := by decide +kernel
theorem dX2_explainsAllFound_43 : decode cX2_explainsAllFound 43 = .ok (.iload_n 2, 1) := by decide +kernel
theorem dX2_explainsAllFound_44 : decode cX2_explainsAllFound 44 = .ok (.iaload, 1) := by decide +kernel
theorem dX2_explainsAllFound_45 : decode cX2_explainsAllFound 45 = .ok (.iload_n 3, 1) := by decide +kernel
theorem dX2_explainsAllFound_46 : decode cX2_explainsAllFound 46 = .ok (.invokestatic 251, 3) := by decide +kernel
theorem dX2_explainsAllFound_49 : decode cX2_explainsAllFound 49 = .ok (.aload_n 0, 1) := by decide +kernel
theorem dX2_explainsAllFound_50 : decode cX2_explainsAllFound 50 = .ok (.getfield 26, 3) := by decide +kernel
theorem dX2_explainsAllFound_53 : decode cX2_explainsAllFound 53 = .ok (.getfield 281, 3) := by decide +kernel
theorem dX2_explainsAllFound_56 : decode cX2_explainsAllFound 56 = .ok (.iload_n 2, 1) := by decide +kernel
theorem dX2_explainsAllFound_57 : decode cX2_explainsAllFound 57 = .ok (.iaload, 1) := by decide +kernel
theorem dX2_explainsAllFound_58 : decode cX2_explainsAllFound 58 = .ok (.if_icmp .eq 5, 3) := by decide +kernel
theorem dX2_explainsAllFound_61 : decode cX2_explainsAllFound 61 = .ok (.iconst 0, 1) := by decide +kernel
theorem dX2_explainsAllFound_62 : decode cX2_explainsAllFound 62 = .ok (.ireturn, 1) := by decide +kernel
theorem dX2_explainsAllFound_63 : decode cX2_explainsAllFound 63 = .ok (.iinc 2 1, 3) := by decide +kernel
theorem dX2_explainsAllFound_66 : decode cX2_explainsAllFound 66 = .ok (.goto (-64), 3) := by decide +kernel
theorem dX2_explainsAllFound_69 : decode cX2_explainsAllFound 69 = .ok (.iconst 1, 1) := by decide +kernel
theorem dX2_explainsAllFound_70 : decode cX2_explainsAllFound 70 = .ok (.ireturn, 1) := by decide +kernel
set_option maxRecDepth 20000 in
theorem ggX2_bestLook_X2_sunsLeftAtWorst : GoodIn wsX2_bestLook wsX2_sunsLeftAtWorst := goodIn_r _ [6, 7, 8, 9, 10, 11, 12, 5, 13, 14, 15, 16, 17, 18, 19, 20, 21, 22, 23, 24, 25, 26, 27, 28, 1, 29, 30, 31, 32, 33, 34, 35, 36, 37, 38, 39, 40, 41, 42, 43, 44, 45, 46, 47, 48, 49, 50, 51, 52, 53, 54, 55, 56, 57] (by decide +kernel) (by decide +kernel)
set_option maxRecDepth 20000 in
theorem gX2_bestLook_X2_sunsLeftAtWorst : GoodIn wsX2_bestLook (wsV RX2 284 RX2 yX2_sunsLeftAtWorst wsX2_sunsLeftAtWorst) := goodIn_app (goodIn_of _ (by decide +kernel)) ggX2_bestLook_X2_sunsLeftAtWorst
theorem dX2_bestLook_0 : decode cX2_bestLook 0 = .ok (.iload_n 1, 1) := by decide +kernel
theorem dX2_bestLook_1 : decode cX2_bestLook 1 = .ok (.ifCond .ne 5, 3) := by decide +kernel
theorem dX2_bestLook_4 : decode cX2_bestLook 4 = .ok (.iconst (-1), 1) := by decide +kernel
theorem dX2_bestLook_5 : decode cX2_bestLook 5 = .ok (.ireturn, 1) := by decide +kernel
theorem dX2_bestLook_6 : decode cX2_bestLook 6 = .ok (.iconst 0, 1) := by decide +kernel
theorem dX2_bestLook_7 : decode cX2_bestLook 7 = .ok (.istore_n 2, 1) := by decide +kernel
theorem dX2_bestLook_8 : decode cX2_bestLook 8 = .ok (.iconst 1, 1) := by decide +kernel
theorem dX2_bestLook_9 : decode cX2_bestLook 9 = .ok (.istore_n 3, 1) := by decide +kernel
theorem dX2_bestLook_10 : decode cX2_bestLook 10 = .ok (.iload_n 3, 1) := by decide +kernel
theorem dX2_bestLook_11 : decode cX2_bestLook 11 = .ok (.aload_n 0, 1) := by decide +kernel
theorem dX2_bestLook_12 : decode cX2_bestLook 12 = .ok (.getfield 39, 3) := by decide +kernel
theorem dX2_bestLook_15 : decode cX2_bestLook 15 = .ok (.if_icmp .ge 26, 3) := by decide +kernel
theorem dX2_bestLook_18 : decode cX2_bestLook 18 = .ok (.aload_n 0, 1) := by decide +kernel
theorem dX2_bestLook_19 : decode cX2_bestLook 19 = .ok (.iload_n 3, 1) := by decide +kernel
theorem dX2_bestLook_20 : decode cX2_bestLook 20 = .ok (.iload_n 1, 1) := by decide +kernel
theorem dX2_bestLook_21 : decode cX2_bestLook 21 = .ok (.invokevirtual 284, 3) := by decide +kernel
theorem dX2_bestLook_24 : decode cX2_bestLook 24 = .ok (.aload_n 0, 1) := by decide +kernel
theorem dX2_bestLook_25 : decode cX2_bestLook 25 = .ok (.iload_n 2, 1) := by decide +kernel
theorem dX2_bestLook_26 : decode cX2_bestLook 26 = .ok (.iload_n 1, 1) := by decide +kernel
theorem dX2_bestLook_27 : decode cX2_bestLook 27 = .ok (.invokevirtual 284, 3) := by decide +kernel
theorem dX2_bestLook_30 : decode cX2_bestLook 30 = .ok (.if_icmp .ge 5, 3) := by decide +kernel
theorem dX2_bestLook_33 : decode cX2_bestLook 33 = .ok (.iload_n 3, 1) := by decide +kernel
theorem dX2_bestLook_34 : decode cX2_bestLook 34 = .ok (.istore_n 2, 1) := by decide +kernel
theorem dX2_bestLook_35 : decode cX2_bestLook 35 = .ok (.iinc 3 1, 3) := by decide +kernel
theorem dX2_bestLook_38 : decode cX2_bestLook 38 = .ok (.goto (-28), 3) := by decide +kernel
theorem dX2_bestLook_41 : decode cX2_bestLook 41 = .ok (.iload_n 2, 1) := by decide +kernel
theorem dX2_bestLook_42 : decode cX2_bestLook 42 = .ok (.ireturn, 1) := by decide +kernel
set_option maxRecDepth 20000 in
theorem ggX2_sunsLeftAtWorst_X2_hasBit : GoodIn wsX2_sunsLeftAtWorst wsX2_hasBit := goodIn_r _ [8] (by decide +kernel) (by decide +kernel)
set_option maxRecDepth 20000 in
theorem gX2_sunsLeftAtWorst_X2_hasBit : GoodIn wsX2_sunsLeftAtWorst (va_wsS RX2 260 yX2_hasBit wsX2_hasBit) := goodIn_app (goodIn_of _ (by decide +kernel)) ggX2_sunsLeftAtWorst_X2_hasBit
set_option maxRecDepth 20000 in
theorem ggX2_sunsLeftAtWorst_X2_sunsLikeThis : GoodIn wsX2_sunsLeftAtWorst wsX2_sunsLikeThis := goodIn_r _ [12, 13, 14, 15, 7, 16, 17, 18, 19, 20, 21, 22, 23, 24, 25, 26, 27, 28, 29, 30, 5, 6, 8, 31, 32, 33, 34, 35, 36, 37, 38, 39, 40, 41, 42, 43, 44, 45, 46, 47, 48, 49, 50, 51, 52, 53] (by decide +kernel) (by decide +kernel)
set_option maxRecDepth 20000 in
theorem gX2_sunsLeftAtWorst_X2_sunsLikeThis : GoodIn wsX2_sunsLeftAtWorst (wsV RX2 287 RX2 yX2_sunsLikeThis wsX2_sunsLikeThis) := goodIn_app (goodIn_of _ (by decide +kernel)) ggX2_sunsLeftAtWorst_X2_sunsLikeThis
theorem dX2_sunsLeftAtWorst_0 : decode cX2_sunsLeftAtWorst 0 = .ok (.iconst 0, 1) := by decide +kernel
theorem dX2_sunsLeftAtWorst_1 : decode cX2_sunsLeftAtWorst 1 = .ok (.istore_n 3, 1) := by decide +kernel
theorem dX2_sunsLeftAtWorst_2 : decode cX2_sunsLeftAtWorst 2 = .ok (.iconst 0, 1) := by decide +kernel
theorem dX2_sunsLeftAtWorst_3 : decode cX2_sunsLeftAtWorst 3 = .ok (.istore 4, 2) := by decide +kernel
theorem dX2_sunsLeftAtWorst_5 : decode cX2_sunsLeftAtWorst 5 = .ok (.iload 4, 2) := by decide +kernel
theorem dX2_sunsLeftAtWorst_7 : decode cX2_sunsLeftAtWorst 7 = .ok (.bipush 9, 2) := by decide +kernel
theorem dX2_sunsLeftAtWorst_9 : decode cX2_sunsLeftAtWorst 9 = .ok (.if_icmp .gt 31, 3) := by decide +kernel
theorem dX2_sunsLeftAtWorst_12 : decode cX2_sunsLeftAtWorst 12 = .ok (.iload_n 2, 1) := by decide +kernel
theorem dX2_sunsLeftAtWorst_13 : decode cX2_sunsLeftAtWorst 13 = .ok (.iload 4, 2) := by decide +kernel
theorem dX2_sunsLeftAtWorst_15 : decode cX2_sunsLeftAtWorst 15 = .ok (.invokestatic 260, 3) := by decide +kernel
theorem dX2_sunsLeftAtWorst_18 : decode cX2_sunsLeftAtWorst 18 = .ok (.ifCond .eq 16, 3) := by decide +kernel
theorem dX2_sunsLeftAtWorst_21 : decode cX2_sunsLeftAtWorst 21 = .ok (.iload_n 3, 1) := by decide +kernel
theorem dX2_sunsLeftAtWorst_22 : decode cX2_sunsLeftAtWorst 22 = .ok (.aload_n 0, 1) := by decide +kernel
theorem dX2_sunsLeftAtWorst_23 : decode cX2_sunsLeftAtWorst 23 = .ok (.iload_n 1, 1) := by decide +kernel
theorem dX2_sunsLeftAtWorst_24 : decode cX2_sunsLeftAtWorst 24 = .ok (.iload 4, 2) := by decide +kernel
theorem dX2_sunsLeftAtWorst_26 : decode cX2_sunsLeftAtWorst 26 = .ok (.iload_n 2, 1) := by decide +kernel
theorem dX2_sunsLeftAtWorst_27 : decode cX2_sunsLeftAtWorst 27 = .ok (.invokevirtual 287, 3) := by decide +kernel
theorem dX2_sunsLeftAtWorst_30 : decode cX2_sunsLeftAtWorst 30 = .ok (.invokestatic 254, 3) := by decide +kernel
theorem dX2_sunsLeftAtWorst_33 : decode cX2_sunsLeftAtWorst 33 = .ok (.istore_n 3, 1) := by decide +kernel
theorem dX2_sunsLeftAtWorst_34 : decode cX2_sunsLeftAtWorst 34 = .ok (.iinc 4 1, 3) := by decide +kernel
theorem dX2_sunsLeftAtWorst_37 : decode cX2_sunsLeftAtWorst 37 = .ok (.goto (-32), 3) := by decide +kernel
theorem dX2_sunsLeftAtWorst_40 : decode cX2_sunsLeftAtWorst 40 = .ok (.iload_n 3, 1) := by decide +kernel
theorem dX2_sunsLeftAtWorst_41 : decode cX2_sunsLeftAtWorst 41 = .ok (.ireturn, 1) := by decide +kernel
set_option maxRecDepth 20000 in
theorem ggX2_sunsLikeThis_X2_leftOfDeepest : GoodIn wsX2_sunsLikeThis wsX2_leftOfDeepest := goodIn_r _ [5, 6, 7, 8, 9, 10, 11, 4, 12, 13, 14, 15, 16, 17, 18, 19, 23, 24, 25, 26, 27, 28, 29, 30, 31, 32, 33, 34, 35, 36, 37, 38, 39, 40, 41, 42, 43, 44, 45] (by decide +kernel) (by decide +kernel)
set_option maxRecDepth 20000 in
theorem gX2_sunsLikeThis_X2_leftOfDeepest : GoodIn wsX2_sunsLikeThis (wsV RX2 290 RX2 yX2_leftOfDeepest wsX2_leftOfDeepest) := goodIn_app (goodIn_of _ (by decide +kernel)) ggX2_sunsLikeThis_X2_leftOfDeepest
set_option maxRecDepth 20000 in
theorem ggX2_sunsLikeThis_X2_hasBit : GoodIn wsX2_sunsLikeThis wsX2_hasBit := goodIn_r _ [22] (by decide +kernel) (by decide +kernel)
set_option maxRecDepth 20000 in
theorem gX2_sunsLikeThis_X2_hasBit : GoodIn wsX2_sunsLikeThis (va_wsS RX2 260 yX2_hasBit wsX2_hasBit) := goodIn_app (goodIn_of _ (by decide +kernel)) ggX2_sunsLikeThis_X2_hasBit
theorem dX2_sunsLikeThis_0 : decode cX2_sunsLikeThis 0 = .ok (.aload_n 0, 1) := by decide +kernel
theorem dX2_sunsLikeThis_1 : decode cX2_sunsLikeThis 1 = .ok (.iload_n 1, 1) := by decide +kernel
theorem dX2_sunsLikeThis_2 : decode cX2_sunsLikeThis 2 = .ok (.iload_n 2, 1) := by decide +kernel
theorem dX2_sunsLikeThis_3 : decode cX2_sunsLikeThis 3 = .ok (.invokevirtual 290, 3) := by decide +kernel
theorem dX2_sunsLikeThis_6 : decode cX2_sunsLikeThis 6 = .ok (.istore 4, 2) := by decide +kernel
theorem dX2_sunsLikeThis_8 : decode cX2_sunsLikeThis 8 = .ok (.iconst 0, 1) := by decide +kernel
theorem dX2_sunsLikeThis_9 : decode cX2_sunsLikeThis 9 = .ok (.istore 5, 2) := by decide +kernel
theorem dX2_sunsLikeThis_11 : decode cX2_sunsLikeThis 11 = .ok (.iconst 0, 1) := by decide +kernel
theorem dX2_sunsLikeThis_12 : decode cX2_sunsLikeThis 12 = .ok (.istore 6, 2) := by decide +kernel
theorem dX2_sunsLikeThis_14 : decode cX2_sunsLikeThis 14 = .ok (.iload 6, 2) := by decide +kernel
theorem dX2_sunsLikeThis_16 : decode cX2_sunsLikeThis 16 = .ok (.bipush 9, 2) := by decide +kernel
theorem dX2_sunsLikeThis_18 : decode cX2_sunsLikeThis 18 = .ok (.if_icmp .gt 33, 3) := by decide +kernel
theorem dX2_sunsLikeThis_21 : decode cX2_sunsLikeThis 21 = .ok (.iload_n 3, 1) := by decide +kernel
theorem dX2_sunsLikeThis_22 : decode cX2_sunsLikeThis 22 = .ok (.iload 6, 2) := by decide +kernel
theorem dX2_sunsLikeThis_24 : decode cX2_sunsLikeThis 24 = .ok (.invokestatic 260, 3) := by decide +kernel
theorem dX2_sunsLikeThis_27 : decode cX2_sunsLikeThis 27 = .ok (.ifCond .eq 18, 3) := by decide +kernel
theorem dX2_sunsLikeThis_30 : decode cX2_sunsLikeThis 30 = .ok (.aload_n 0, 1) := by decide +kernel
theorem dX2_sunsLikeThis_31 : decode cX2_sunsLikeThis 31 = .ok (.iload_n 1, 1) := by decide +kernel
theorem dX2_sunsLikeThis_32 : decode cX2_sunsLikeThis 32 = .ok (.iload 6, 2) := by decide +kernel
theorem dX2_sunsLikeThis_34 : decode cX2_sunsLikeThis 34 = .ok (.invokevirtual 290, 3) := by decide +kernel
theorem dX2_sunsLikeThis_37 : decode cX2_sunsLikeThis 37 = .ok (.iload 4, 2) := by decide +kernel
theorem dX2_sunsLikeThis_39 : decode cX2_sunsLikeThis 39 = .ok (.if_icmp .ne 6, 3) := by decide +kernel
theorem dX2_sunsLikeThis_42 : decode cX2_sunsLikeThis 42 = .ok (.iinc 5 1, 3) := by decide +kernel
theorem dX2_sunsLikeThis_45 : decode cX2_sunsLikeThis 45 = .ok (.iinc 6 1, 3) := by decide +kernel
theorem dX2_sunsLikeThis_48 : decode cX2_sunsLikeThis 48 = .ok (.goto (-34), 3) := by decide +kernel
theorem dX2_sunsLikeThis_51 : decode cX2_sunsLikeThis 51 = .ok (.iload 5, 2) := by decide +kernel
theorem dX2_sunsLikeThis_53 : decode cX2_sunsLikeThis 53 = .ok (.ireturn, 1) := by decide +kernel
set_option maxRecDepth 20000 in
theorem ggX2_leftOfDeepest_X2_isSite : GoodIn wsX2_leftOfDeepest wsX2_isSite := goodIn_r _ [8, 9, 16, 17, 18, 19, 20, 21, 22, 23, 24, 25] (by decide +kernel) (by decide +kernel)
set_option maxRecDepth 20000 in
theorem gX2_leftOfDeepest_X2_isSite : GoodIn wsX2_leftOfDeepest (wsV RX2 89 RX2 yX2_isSite wsX2_isSite) := goodIn_app (goodIn_of _ (by decide +kernel)) ggX2_leftOfDeepest_X2_isSite
set_option maxRecDepth 20000 in
theorem ggX2_leftOfDeepest_X2_melting : GoodIn wsX2_leftOfDeepest wsX2_melting := goodIn_r _ [12] (by decide +kernel) (by decide +kernel)
set_option maxRecDepth 20000 in
theorem gX2_leftOfDeepest_X2_melting : GoodIn wsX2_leftOfDeepest (va_wsS RX2 243 yX2_melting wsX2_melting) := goodIn_app (goodIn_of _ (by decide +kernel)) ggX2_leftOfDeepest_X2_melting
set_option maxRecDepth 20000 in
theorem ggX2_leftOfDeepest_X2_leftOf : GoodIn wsX2_leftOfDeepest wsX2_leftOf := goodIn_r _ [15] (by decide +kernel) (by decide +kernel)
set_option maxRecDepth 20000 in
theorem gX2_leftOfDeepest_X2_leftOf : GoodIn wsX2_leftOfDeepest (va_wsS RX2 251 yX2_leftOf wsX2_leftOf) := goodIn_app (goodIn_of _ (by decide +kernel)) ggX2_leftOfDeepest_X2_leftOf
theorem dX2_leftOfDeepest_0 : decode cX2_leftOfDeepest 0 = .ok (.aload_n 0, 1) := by decide +kernel
theorem dX2_leftOfDeepest_1 : decode cX2_leftOfDeepest 1 = .ok (.iload_n 1, 1) := by decide +kernel
theorem dX2_leftOfDeepest_2 : decode cX2_leftOfDeepest 2 = .ok (.invokevirtual 89, 3) := by decide +kernel
theorem dX2_leftOfDeepest_5 : decode cX2_leftOfDeepest 5 = .ok (.ifCond .ne 5, 3) := by decide +kernel
theorem dX2_leftOfDeepest_8 : decode cX2_leftOfDeepest 8 = .ok (.iconst 0, 1) := by decide +kernel
theorem dX2_leftOfDeepest_9 : decode cX2_leftOfDeepest 9 = .ok (.ireturn, 1) := by decide +kernel
theorem dX2_leftOfDeepest_10 : decode cX2_leftOfDeepest 10 = .ok (.bipush 30, 2) := by decide +kernel
theorem dX2_leftOfDeepest_12 : decode cX2_leftOfDeepest 12 = .ok (.aload_n 0, 1) := by decide +kernel
theorem dX2_leftOfDeepest_13 : decode cX2_leftOfDeepest 13 = .ok (.getfield 16, 3) := by decide +kernel
theorem dX2_leftOfDeepest_16 : decode cX2_leftOfDeepest 16 = .ok (.iload_n 1, 1) := by decide +kernel
theorem dX2_leftOfDeepest_17 : decode cX2_leftOfDeepest 17 = .ok (.iaload, 1) := by decide +kernel
theorem dX2_leftOfDeepest_18 : decode cX2_leftOfDeepest 18 = .ok (.iload_n 2, 1) := by decide +kernel
theorem dX2_leftOfDeepest_19 : decode cX2_leftOfDeepest 19 = .ok (.aload_n 0, 1) := by decide +kernel
theorem dX2_leftOfDeepest_20 : decode cX2_leftOfDeepest 20 = .ok (.getfield 26, 3) := by decide +kernel
theorem dX2_leftOfDeepest_23 : decode cX2_leftOfDeepest 23 = .ok (.getfield 95, 3) := by decide +kernel
theorem dX2_leftOfDeepest_26 : decode cX2_leftOfDeepest 26 = .ok (.iload_n 1, 1) := by decide +kernel
theorem dX2_leftOfDeepest_27 : decode cX2_leftOfDeepest 27 = .ok (.iaload, 1) := by decide +kernel
theorem dX2_leftOfDeepest_28 : decode cX2_leftOfDeepest 28 = .ok (.invokestatic 243, 3) := by decide +kernel
theorem dX2_leftOfDeepest_31 : decode cX2_leftOfDeepest 31 = .ok (.invokestatic 251, 3) := by decide +kernel
theorem dX2_leftOfDeepest_34 : decode cX2_leftOfDeepest 34 = .ok (.ireturn, 1) := by decide +kernel
