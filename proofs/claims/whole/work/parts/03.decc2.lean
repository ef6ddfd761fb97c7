theorem dX5_init_45 : decode cX5_init 45 = .ok (.putfield 34, 3) := by decide +kernel
theorem dX5_init_48 : decode cX5_init 48 = .ok (.aload_n 0, 1) := by decide +kernel
theorem dX5_init_49 : decode cX5_init 49 = .ok (.iconst 5, 1) := by decide +kernel
theorem dX5_init_50 : decode cX5_init 50 = .ok (.newarray .int, 2) := by decide +kernel
theorem dX5_init_52 : decode cX5_init 52 = .ok (.putfield 37, 3) := by decide +kernel
theorem dX5_init_55 : decode cX5_init 55 = .ok (.aload_n 0, 1) := by decide +kernel
theorem dX5_init_56 : decode cX5_init 56 = .ok (.iconst 0, 1) := by decide +kernel
theorem dX5_init_57 : decode cX5_init 57 = .ok (.putfield 40, 3) := by decide +kernel
theorem dX5_init_60 : decode cX5_init 60 = .ok (.return_, 1) := by decide +kernel
theorem dX5_append_0 : decode cX5_append 0 = .ok (.aload_n 0, 1) := by decide +kernel
theorem dX5_append_1 : decode cX5_append 1 = .ok (.getfield 9, 3) := by decide +kernel
theorem dX5_append_4 : decode cX5_append 4 = .ok (.iload_n 3, 1) := by decide +kernel
theorem dX5_append_5 : decode cX5_append 5 = .ok (.iadd, 1) := by decide +kernel
theorem dX5_append_6 : decode cX5_append 6 = .ok (.sipush 200, 3) := by decide +kernel
theorem dX5_append_9 : decode cX5_append 9 = .ok (.if_icmp .le 5, 3) := by decide +kernel
theorem dX5_append_12 : decode cX5_append 12 = .ok (.iconst 0, 1) := by decide +kernel
theorem dX5_append_13 : decode cX5_append 13 = .ok (.ireturn, 1) := by decide +kernel
theorem dX5_append_14 : decode cX5_append 14 = .ok (.iconst 0, 1) := by decide +kernel
theorem dX5_append_15 : decode cX5_append 15 = .ok (.istore 4, 2) := by decide +kernel
theorem dX5_append_17 : decode cX5_append 17 = .ok (.iload 4, 2) := by decide +kernel
theorem dX5_append_19 : decode cX5_append 19 = .ok (.iload_n 3, 1) := by decide +kernel
theorem dX5_append_20 : decode cX5_append 20 = .ok (.if_icmp .ge 33, 3) := by decide +kernel
theorem dX5_append_23 : decode cX5_append 23 = .ok (.aload_n 0, 1) := by decide +kernel
theorem dX5_append_24 : decode cX5_append 24 = .ok (.getfield 18, 3) := by decide +kernel
theorem dX5_append_27 : decode cX5_append 27 = .ok (.aload_n 0, 1) := by decide +kernel
theorem dX5_append_28 : decode cX5_append 28 = .ok (.getfield 9, 3) := by decide +kernel
theorem dX5_append_31 : decode cX5_append 31 = .ok (.iload 4, 2) := by decide +kernel
theorem dX5_append_33 : decode cX5_append 33 = .ok (.iadd, 1) := by decide +kernel
theorem dX5_append_34 : decode cX5_append 34 = .ok (.lload_n 1, 1) := by decide +kernel
theorem dX5_append_35 : decode cX5_append 35 = .ok (.bipush 8, 2) := by decide +kernel
theorem dX5_append_37 : decode cX5_append 37 = .ok (.iload 4, 2) := by decide +kernel
theorem dX5_append_39 : decode cX5_append 39 = .ok (.imul, 1) := by decide +kernel
theorem dX5_append_40 : decode cX5_append 40 = .ok (.lshr, 1) := by decide +kernel
theorem dX5_append_41 : decode cX5_append 41 = .ok (.ldc2_w 43, 3) := by decide +kernel
theorem dX5_append_44 : decode cX5_append 44 = .ok (.land, 1) := by decide +kernel
theorem dX5_append_45 : decode cX5_append 45 = .ok (.l2i, 1) := by decide +kernel
theorem dX5_append_46 : decode cX5_append 46 = .ok (.iastore, 1) := by decide +kernel
theorem dX5_append_47 : decode cX5_append 47 = .ok (.iinc 4 1, 3) := by decide +kernel
theorem dX5_append_50 : decode cX5_append 50 = .ok (.goto (-33), 3) := by decide +kernel
theorem dX5_append_53 : decode cX5_append 53 = .ok (.aload_n 0, 1) := by decide +kernel
theorem dX5_append_54 : decode cX5_append 54 = .ok (.dup, 1) := by decide +kernel
theorem dX5_append_55 : decode cX5_append 55 = .ok (.getfield 9, 3) := by decide +kernel
theorem dX5_append_58 : decode cX5_append 58 = .ok (.iload_n 3, 1) := by decide +kernel
theorem dX5_append_59 : decode cX5_append 59 = .ok (.iadd, 1) := by decide +kernel
theorem dX5_append_60 : decode cX5_append 60 = .ok (.putfield 9, 3) := by decide +kernel
theorem dX5_append_63 : decode cX5_append 63 = .ok (.iconst 1, 1) := by decide +kernel
theorem dX5_append_64 : decode cX5_append 64 = .ok (.ireturn, 1) := by decide +kernel
theorem dX5_read_0 : decode cX5_read 0 = .ok (.aload_n 0, 1) := by decide +kernel
theorem dX5_read_1 : decode cX5_read 1 = .ok (.iconst 0, 1) := by decide +kernel
theorem dX5_read_2 : decode cX5_read 2 = .ok (.putfield 28, 3) := by decide +kernel
theorem dX5_read_5 : decode cX5_read 5 = .ok (.aload_n 0, 1) := by decide +kernel
theorem dX5_read_6 : decode cX5_read 6 = .ok (.iconst 0, 1) := by decide +kernel
theorem dX5_read_7 : decode cX5_read 7 = .ok (.putfield 15, 3) := by decide +kernel
theorem dX5_read_10 : decode cX5_read 10 = .ok (.aload_n 0, 1) := by decide +kernel
theorem dX5_read_11 : decode cX5_read 11 = .ok (.aload_n 1, 1) := by decide +kernel
theorem dX5_read_12 : decode cX5_read 12 = .ok (.getfield 45, 3) := by decide +kernel
theorem dX5_read_15 : decode cX5_read 15 = .ok (.putfield 40, 3) := by decide +kernel
theorem dX5_read_18 : decode cX5_read 18 = .ok (.iconst 0, 1) := by decide +kernel
theorem dX5_read_19 : decode cX5_read 19 = .ok (.istore_n 3, 1) := by decide +kernel
theorem dX5_read_20 : decode cX5_read 20 = .ok (.iload_n 3, 1) := by decide +kernel
theorem dX5_read_21 : decode cX5_read 21 = .ok (.bipush 8, 2) := by decide +kernel
theorem dX5_read_23 : decode cX5_read 23 = .ok (.if_icmp .ge 80, 3) := by decide +kernel
theorem dX5_read_26 : decode cX5_read 26 = .ok (.aload_n 0, 1) := by decide +kernel
theorem dX5_read_27 : decode cX5_read 27 = .ok (.invokevirtual 48, 3) := by decide +kernel
theorem dX5_read_30 : decode cX5_read 30 = .ok (.ifCond .ne 8, 3) := by decide +kernel
theorem dX5_read_33 : decode cX5_read 33 = .ok (.aload_n 0, 1) := by decide +kernel
theorem dX5_read_34 : decode cX5_read 34 = .ok (.getfield 25, 3) := by decide +kernel
theorem dX5_read_37 : decode cX5_read 37 = .ok (.ireturn, 1) := by decide +kernel
theorem dX5_read_38 : decode cX5_read 38 = .ok (.aload_n 0, 1) := by decide +kernel
theorem dX5_read_39 : decode cX5_read 39 = .ok (.dup, 1) := by decide +kernel
theorem dX5_read_40 : decode cX5_read 40 = .ok (.getfield 15, 3) := by decide +kernel
theorem dX5_read_43 : decode cX5_read 43 = .ok (.iconst 1, 1) := by decide +kernel
theorem dX5_read_44 : decode cX5_read 44 = .ok (.iadd, 1) := by decide +kernel
theorem dX5_read_45 : decode cX5_read 45 = .ok (.putfield 15, 3) := by decide +kernel
theorem dX5_read_48 : decode cX5_read 48 = .ok (.iload_n 2, 1) := by decide +kernel
theorem dX5_read_49 : decode cX5_read 49 = .ok (.ifCond .eq 15, 3) := by decide +kernel
theorem dX5_read_52 : decode cX5_read 52 = .ok (.aload_n 1, 1) := by decide +kernel
theorem dX5_read_53 : decode cX5_read 53 = .ok (.aload_n 0, 1) := by decide +kernel
theorem dX5_read_54 : decode cX5_read 54 = .ok (.getfield 31, 3) := by decide +kernel
theorem dX5_read_57 : decode cX5_read 57 = .ok (.aload_n 0, 1) := by decide +kernel
theorem dX5_read_58 : decode cX5_read 58 = .ok (.getfield 37, 3) := by decide +kernel
theorem dX5_read_61 : decode cX5_read 61 = .ok (.invokevirtual 52, 3) := by decide +kernel
theorem dX5_read_64 : decode cX5_read 64 = .ok (.aload_n 0, 1) := by decide +kernel
theorem dX5_read_65 : decode cX5_read 65 = .ok (.invokevirtual 56, 3) := by decide +kernel
theorem dX5_read_68 : decode cX5_read 68 = .ok (.aload_n 0, 1) := by decide +kernel
theorem dX5_read_69 : decode cX5_read 69 = .ok (.getfield 22, 3) := by decide +kernel
theorem dX5_read_72 : decode cX5_read 72 = .ok (.iconst 3, 1) := by decide +kernel
theorem dX5_read_73 : decode cX5_read 73 = .ok (.if_icmp .ne 5, 3) := by decide +kernel
theorem dX5_read_76 : decode cX5_read 76 = .ok (.iconst (-1), 1) := by decide +kernel
theorem dX5_read_77 : decode cX5_read 77 = .ok (.ireturn, 1) := by decide +kernel
theorem dX5_read_78 : decode cX5_read 78 = .ok (.aload_n 0, 1) := by decide +kernel
theorem dX5_read_79 : decode cX5_read 79 = .ok (.getfield 18, 3) := by decide +kernel
theorem dX5_read_82 : decode cX5_read 82 = .ok (.aload_n 0, 1) := by decide +kernel
theorem dX5_read_83 : decode cX5_read 83 = .ok (.getfield 25, 3) := by decide +kernel
theorem dX5_read_86 : decode cX5_read 86 = .ok (.iaload, 1) := by decide +kernel
theorem dX5_read_87 : decode cX5_read 87 = .ok (.bipush 59, 2) := by decide +kernel
theorem dX5_read_89 : decode cX5_read 89 = .ok (.if_icmp .eq 8, 3) := by decide +kernel
theorem dX5_read_92 : decode cX5_read 92 = .ok (.aload_n 0, 1) := by decide +kernel
theorem dX5_read_93 : decode cX5_read 93 = .ok (.getfield 25, 3) := by decide +kernel
theorem dX5_read_96 : decode cX5_read 96 = .ok (.ireturn, 1) := by decide +kernel
theorem dX5_read_97 : decode cX5_read 97 = .ok (.iinc 3 1, 3) := by decide +kernel
theorem dX5_read_100 : decode cX5_read 100 = .ok (.goto (-80), 3) := by decide +kernel
theorem dX5_read_103 : decode cX5_read 103 = .ok (.aload_n 0, 1) := by decide +kernel
theorem dX5_read_104 : decode cX5_read 104 = .ok (.getfield 25, 3) := by decide +kernel
theorem dX5_read_107 : decode cX5_read 107 = .ok (.ireturn, 1) := by decide +kernel
theorem dX5_readLine_0 : decode cX5_readLine 0 = .ok (.aload_n 0, 1) := by decide +kernel
theorem dX5_readLine_1 : decode cX5_readLine 1 = .ok (.invokevirtual 56, 3) := by decide +kernel
theorem dX5_readLine_4 : decode cX5_readLine 4 = .ok (.aload_n 0, 1) := by decide +kernel
theorem dX5_readLine_5 : decode cX5_readLine 5 = .ok (.iconst 0, 1) := by decide +kernel
theorem dX5_readLine_6 : decode cX5_readLine 6 = .ok (.putfield 34, 3) := by decide +kernel
theorem dX5_readLine_9 : decode cX5_readLine 9 = .ok (.aload_n 0, 1) := by decide +kernel
theorem dX5_readLine_10 : decode cX5_readLine 10 = .ok (.aload_n 0, 1) := by decide +kernel
theorem dX5_readLine_11 : decode cX5_readLine 11 = .ok (.invokevirtual 59, 3) := by decide +kernel
theorem dX5_readLine_14 : decode cX5_readLine 14 = .ok (.putfield 31, 3) := by decide +kernel
theorem dX5_readLine_17 : decode cX5_readLine 17 = .ok (.aload_n 0, 1) := by decide +kernel
theorem dX5_readLine_18 : decode cX5_readLine 18 = .ok (.getfield 31, 3) := by decide +kernel
theorem dX5_readLine_21 : decode cX5_readLine 21 = .ok (.tableswitch 225 0 7 #[47, 47, 47, 92, 99, 159, 210, 217], 47) := by decide +kernel
theorem dX5_readLine_68 : decode cX5_readLine 68 = .ok (.aload_n 0, 1) := by decide +kernel
theorem dX5_readLine_69 : decode cX5_readLine 69 = .ok (.dup, 1) := by decide +kernel
theorem dX5_readLine_70 : decode cX5_readLine 70 = .ok (.getfield 40, 3) := by decide +kernel
theorem dX5_readLine_73 : decode cX5_readLine 73 = .ok (.iconst 1, 1) := by decide +kernel
theorem dX5_readLine_74 : decode cX5_readLine 74 = .ok (.iadd, 1) := by decide +kernel
theorem dX5_readLine_75 : decode cX5_readLine 75 = .ok (.putfield 40, 3) := by decide +kernel
theorem dX5_readLine_78 : decode cX5_readLine 78 = .ok (.aload_n 0, 1) := by decide +kernel
theorem dX5_readLine_79 : decode cX5_readLine 79 = .ok (.getfield 40, 3) := by decide +kernel
theorem dX5_readLine_82 : decode cX5_readLine 82 = .ok (.bipush 8, 2) := by decide +kernel
theorem dX5_readLine_84 : decode cX5_readLine 84 = .ok (.if_icmp .gt 27, 3) := by decide +kernel
theorem dX5_readLine_87 : decode cX5_readLine 87 = .ok (.aload_n 0, 1) := by decide +kernel
theorem dX5_readLine_88 : decode cX5_readLine 88 = .ok (.iconst 0, 1) := by decide +kernel
theorem dX5_readLine_89 : decode cX5_readLine 89 = .ok (.bipush 7, 2) := by decide +kernel
theorem dX5_readLine_91 : decode cX5_readLine 91 = .ok (.invokevirtual 63, 3) := by decide +kernel
theorem dX5_readLine_94 : decode cX5_readLine 94 = .ok (.ifCond .eq 17, 3) := by decide +kernel
theorem dX5_readLine_97 : decode cX5_readLine 97 = .ok (.aload_n 0, 1) := by decide +kernel
theorem dX5_readLine_98 : decode cX5_readLine 98 = .ok (.iconst 1, 1) := by decide +kernel
theorem dX5_readLine_99 : decode cX5_readLine 99 = .ok (.bipush 20, 2) := by decide +kernel
theorem dX5_readLine_101 : decode cX5_readLine 101 = .ok (.invokevirtual 63, 3) := by decide +kernel
theorem dX5_readLine_104 : decode cX5_readLine 104 = .ok (.ifCond .eq 7, 3) := by decide +kernel
theorem dX5_readLine_107 : decode cX5_readLine 107 = .ok (.iconst 1, 1) := by decide +kernel
theorem dX5_readLine_108 : decode cX5_readLine 108 = .ok (.goto 4, 3) := by decide +kernel
theorem dX5_readLine_111 : decode cX5_readLine 111 = .ok (.iconst 0, 1) := by decide +kernel
theorem dX5_readLine_112 : decode cX5_readLine 112 = .ok (.ireturn, 1) := by decide +kernel
theorem dX5_readLine_113 : decode cX5_readLine 113 = .ok (.aload_n 0, 1) := by decide +kernel
theorem dX5_readLine_114 : decode cX5_readLine 114 = .ok (.iconst 0, 1) := by decide +kernel
theorem dX5_readLine_115 : decode cX5_readLine 115 = .ok (.putfield 40, 3) := by decide +kernel
theorem dX5_readLine_118 : decode cX5_readLine 118 = .ok (.iconst 1, 1) := by decide +kernel
theorem dX5_readLine_119 : decode cX5_readLine 119 = .ok (.ireturn, 1) := by decide +kernel
theorem dX5_readLine_120 : decode cX5_readLine 120 = .ok (.aload_n 0, 1) := by decide +kernel
theorem dX5_readLine_121 : decode cX5_readLine 121 = .ok (.iconst 0, 1) := by decide +kernel
theorem dX5_readLine_122 : decode cX5_readLine 122 = .ok (.iconst 5, 1) := by decide +kernel
theorem dX5_readLine_123 : decode cX5_readLine 123 = .ok (.invokevirtual 63, 3) := by decide +kernel
theorem dX5_readLine_126 : decode cX5_readLine 126 = .ok (.ifCond .eq 52, 3) := by decide +kernel
theorem dX5_readLine_129 : decode cX5_readLine 129 = .ok (.aload_n 0, 1) := by decide +kernel
theorem dX5_readLine_130 : decode cX5_readLine 130 = .ok (.iconst 0, 1) := by decide +kernel
theorem dX5_readLine_131 : decode cX5_readLine 131 = .ok (.bipush 23, 2) := by decide +kernel
theorem dX5_readLine_133 : decode cX5_readLine 133 = .ok (.invokevirtual 63, 3) := by decide +kernel
theorem dX5_readLine_136 : decode cX5_readLine 136 = .ok (.ifCond .eq 42, 3) := by decide +kernel
theorem dX5_readLine_139 : decode cX5_readLine 139 = .ok (.aload_n 0, 1) := by decide +kernel
theorem dX5_readLine_140 : decode cX5_readLine 140 = .ok (.aload_n 0, 1) := by decide +kernel
theorem dX5_readLine_141 : decode cX5_readLine 141 = .ok (.getfield 37, 3) := by decide +kernel
theorem dX5_readLine_144 : decode cX5_readLine 144 = .ok (.iconst 1, 1) := by decide +kernel
theorem dX5_readLine_145 : decode cX5_readLine 145 = .ok (.iaload, 1) := by decide +kernel
theorem dX5_readLine_146 : decode cX5_readLine 146 = .ok (.bipush 23, 2) := by decide +kernel
theorem dX5_readLine_148 : decode cX5_readLine 148 = .ok (.invokevirtual 63, 3) := by decide +kernel
theorem dX5_readLine_151 : decode cX5_readLine 151 = .ok (.ifCond .eq 27, 3) := by decide +kernel
theorem dX5_readLine_154 : decode cX5_readLine 154 = .ok (.aload_n 0, 1) := by decide +kernel
theorem dX5_readLine_155 : decode cX5_readLine 155 = .ok (.iconst 0, 1) := by decide +kernel
theorem dX5_readLine_156 : decode cX5_readLine 156 = .ok (.bipush 7, 2) := by decide +kernel
theorem dX5_readLine_158 : decode cX5_readLine 158 = .ok (.invokevirtual 63, 3) := by decide +kernel
theorem dX5_readLine_161 : decode cX5_readLine 161 = .ok (.ifCond .eq 17, 3) := by decide +kernel
theorem dX5_readLine_164 : decode cX5_readLine 164 = .ok (.aload_n 0, 1) := by decide +kernel
theorem dX5_readLine_165 : decode cX5_readLine 165 = .ok (.iconst 0, 1) := by decide +kernel
theorem dX5_readLine_166 : decode cX5_readLine 166 = .ok (.bipush 9, 2) := by decide +kernel
theorem dX5_readLine_168 : decode cX5_readLine 168 = .ok (.invokevirtual 63, 3) := by decide +kernel
theorem dX5_readLine_171 : decode cX5_readLine 171 = .ok (.ifCond .eq 7, 3) := by decide +kernel
theorem dX5_readLine_174 : decode cX5_readLine 174 = .ok (.iconst 1, 1) := by decide +kernel
theorem dX5_readLine_175 : decode cX5_readLine 175 = .ok (.goto 4, 3) := by decide +kernel
theorem dX5_readLine_178 : decode cX5_readLine 178 = .ok (.iconst 0, 1) := by decide +kernel
theorem dX5_readLine_179 : decode cX5_readLine 179 = .ok (.ireturn, 1) := by decide +kernel
theorem dX5_readLine_180 : decode cX5_readLine 180 = .ok (.aload_n 0, 1) := by decide +kernel
theorem dX5_readLine_181 : decode cX5_readLine 181 = .ok (.iconst 0, 1) := by decide +kernel
theorem dX5_readLine_182 : decode cX5_readLine 182 = .ok (.iconst 3, 1) := by decide +kernel
theorem dX5_readLine_183 : decode cX5_readLine 183 = .ok (.invokevirtual 63, 3) := by decide +kernel
theorem dX5_readLine_186 : decode cX5_readLine 186 = .ok (.ifCond .eq 43, 3) := by decide +kernel
theorem dX5_readLine_189 : decode cX5_readLine 189 = .ok (.aload_n 0, 1) := by decide +kernel
theorem dX5_readLine_190 : decode cX5_readLine 190 = .ok (.iconst 1, 1) := by decide +kernel
theorem dX5_readLine_191 : decode cX5_readLine 191 = .ok (.bipush 60, 2) := by decide +kernel
theorem dX5_readLine_193 : decode cX5_readLine 193 = .ok (.invokevirtual 63, 3) := by decide +kernel
theorem dX5_readLine_196 : decode cX5_readLine 196 = .ok (.ifCond .eq 33, 3) := by decide +kernel
theorem dX5_readLine_199 : decode cX5_readLine 199 = .ok (.aload_n 0, 1) := by decide +kernel
theorem dX5_readLine_200 : decode cX5_readLine 200 = .ok (.iconst 1, 1) := by decide +kernel
theorem dX5_readLine_201 : decode cX5_readLine 201 = .ok (.iconst 5, 1) := by decide +kernel
theorem dX5_readLine_202 : decode cX5_readLine 202 = .ok (.invokevirtual 63, 3) := by decide +kernel
theorem dX5_readLine_205 : decode cX5_readLine 205 = .ok (.ifCond .eq 24, 3) := by decide +kernel
theorem dX5_readLine_208 : decode cX5_readLine 208 = .ok (.aload_n 0, 1) := by decide +kernel
theorem dX5_readLine_209 : decode cX5_readLine 209 = .ok (.invokevirtual 67, 3) := by decide +kernel
theorem dX5_readLine_212 : decode cX5_readLine 212 = .ok (.ifCond .eq 17, 3) := by decide +kernel
theorem dX5_readLine_215 : decode cX5_readLine 215 = .ok (.aload_n 0, 1) := by decide +kernel
theorem dX5_readLine_216 : decode cX5_readLine 216 = .ok (.iconst 0, 1) := by decide +kernel
theorem dX5_readLine_217 : decode cX5_readLine 217 = .ok (.bipush 99, 2) := by decide +kernel
theorem dX5_readLine_219 : decode cX5_readLine 219 = .ok (.invokevirtual 63, 3) := by decide +kernel
theorem dX5_readLine_222 : decode cX5_readLine 222 = .ok (.ifCond .eq 7, 3) := by decide +kernel
theorem dX5_readLine_225 : decode cX5_readLine 225 = .ok (.iconst 1, 1) := by decide +kernel
theorem dX5_readLine_226 : decode cX5_readLine 226 = .ok (.goto 4, 3) := by decide +kernel
theorem dX5_readLine_229 : decode cX5_readLine 229 = .ok (.iconst 0, 1) := by decide +kernel
theorem dX5_readLine_230 : decode cX5_readLine 230 = .ok (.ireturn, 1) := by decide +kernel
theorem dX5_readLine_231 : decode cX5_readLine 231 = .ok (.aload_n 0, 1) := by decide +kernel
theorem dX5_readLine_232 : decode cX5_readLine 232 = .ok (.iconst 0, 1) := by decide +kernel
theorem dX5_readLine_233 : decode cX5_readLine 233 = .ok (.iconst 3, 1) := by decide +kernel
theorem dX5_readLine_234 : decode cX5_readLine 234 = .ok (.invokevirtual 63, 3) := by decide +kernel
theorem dX5_readLine_237 : decode cX5_readLine 237 = .ok (.ireturn, 1) := by decide +kernel
theorem dX5_readLine_238 : decode cX5_readLine 238 = .ok (.aload_n 0, 1) := by decide +kernel
theorem dX5_readLine_239 : decode cX5_readLine 239 = .ok (.iconst 0, 1) := by decide +kernel
theorem dX5_readLine_240 : decode cX5_readLine 240 = .ok (.bipush 9, 2) := by decide +kernel
theorem dX5_readLine_242 : decode cX5_readLine 242 = .ok (.invokevirtual 63, 3) := by decide +kernel
theorem dX5_readLine_245 : decode cX5_readLine 245 = .ok (.ireturn, 1) := by decide +kernel
theorem dX5_readLine_246 : decode cX5_readLine 246 = .ok (.iconst 0, 1) := by decide +kernel
theorem dX5_readLine_247 : decode cX5_readLine 247 = .ok (.ireturn, 1) := by decide +kernel
theorem dX5_wordOfLine_0 : decode cX5_wordOfLine 0 = .ok (.aload_n 0, 1) := by decide +kernel
theorem dX5_wordOfLine_1 : decode cX5_wordOfLine 1 = .ok (.ldc 70, 2) := by decide +kernel
theorem dX5_wordOfLine_3 : decode cX5_wordOfLine 3 = .ok (.invokevirtual 72, 3) := by decide +kernel
theorem dX5_wordOfLine_6 : decode cX5_wordOfLine 6 = .ok (.ifCond .eq 5, 3) := by decide +kernel
theorem dX5_wordOfLine_9 : decode cX5_wordOfLine 9 = .ok (.iconst 0, 1) := by decide +kernel
theorem dX5_wordOfLine_10 : decode cX5_wordOfLine 10 = .ok (.ireturn, 1) := by decide +kernel
theorem dX5_wordOfLine_11 : decode cX5_wordOfLine 11 = .ok (.aload_n 0, 1) := by decide +kernel
theorem dX5_wordOfLine_12 : decode cX5_wordOfLine 12 = .ok (.ldc 76, 2) := by decide +kernel
theorem dX5_wordOfLine_14 : decode cX5_wordOfLine 14 = .ok (.invokevirtual 72, 3) := by decide +kernel
theorem dX5_wordOfLine_17 : decode cX5_wordOfLine 17 = .ok (.ifCond .eq 5, 3) := by decide +kernel
theorem dX5_wordOfLine_20 : decode cX5_wordOfLine 20 = .ok (.iconst 1, 1) := by decide +kernel
theorem dX5_wordOfLine_21 : decode cX5_wordOfLine 21 = .ok (.ireturn, 1) := by decide +kernel
theorem dX5_wordOfLine_22 : decode cX5_wordOfLine 22 = .ok (.aload_n 0, 1) := by decide +kernel
theorem dX5_wordOfLine_23 : decode cX5_wordOfLine 23 = .ok (.ldc 78, 2) := by decide +kernel
theorem dX5_wordOfLine_25 : decode cX5_wordOfLine 25 = .ok (.invokevirtual 72, 3) := by decide +kernel
theorem dX5_wordOfLine_28 : decode cX5_wordOfLine 28 = .ok (.ifCond .eq 5, 3) := by decide +kernel
theorem dX5_wordOfLine_31 : decode cX5_wordOfLine 31 = .ok (.iconst 2, 1) := by decide +kernel
theorem dX5_wordOfLine_32 : decode cX5_wordOfLine 32 = .ok (.ireturn, 1) := by decide +kernel
theorem dX5_wordOfLine_33 : decode cX5_wordOfLine 33 = .ok (.aload_n 0, 1) := by decide +kernel
theorem dX5_wordOfLine_34 : decode cX5_wordOfLine 34 = .ok (.ldc 80, 2) := by decide +kernel
theorem dX5_wordOfLine_36 : decode cX5_wordOfLine 36 = .ok (.invokevirtual 72, 3) := by decide +kernel
theorem dX5_wordOfLine_39 : decode cX5_wordOfLine 39 = .ok (.ifCond .eq 5, 3) := by decide +kernel
theorem dX5_wordOfLine_42 : decode cX5_wordOfLine 42 = .ok (.iconst 3, 1) := by decide +kernel
theorem dX5_wordOfLine_43 : decode cX5_wordOfLine 43 = .ok (.ireturn, 1) := by decide +kernel
theorem dX5_wordOfLine_44 : decode cX5_wordOfLine 44 = .ok (.aload_n 0, 1) := by decide +kernel
theorem dX5_wordOfLine_45 : decode cX5_wordOfLine 45 = .ok (.ldc 82, 2) := by decide +kernel
theorem dX5_wordOfLine_47 : decode cX5_wordOfLine 47 = .ok (.invokevirtual 72, 3) := by decide +kernel
theorem dX5_wordOfLine_50 : decode cX5_wordOfLine 50 = .ok (.ifCond .eq 5, 3) := by decide +kernel
theorem dX5_wordOfLine_53 : decode cX5_wordOfLine 53 = .ok (.iconst 4, 1) := by decide +kernel
theorem dX5_wordOfLine_54 : decode cX5_wordOfLine 54 = .ok (.ireturn, 1) := by decide +kernel
theorem dX5_wordOfLine_55 : decode cX5_wordOfLine 55 = .ok (.aload_n 0, 1) := by decide +kernel
theorem dX5_wordOfLine_56 : decode cX5_wordOfLine 56 = .ok (.ldc 84, 2) := by decide +kernel
theorem dX5_wordOfLine_58 : decode cX5_wordOfLine 58 = .ok (.invokevirtual 72, 3) := by decide +kernel
theorem dX5_wordOfLine_61 : decode cX5_wordOfLine 61 = .ok (.ifCond .eq 5, 3) := by decide +kernel
theorem dX5_wordOfLine_64 : decode cX5_wordOfLine 64 = .ok (.iconst 5, 1) := by decide +kernel
theorem dX5_wordOfLine_65 : decode cX5_wordOfLine 65 = .ok (.ireturn, 1) := by decide +kernel
theorem dX5_wordOfLine_66 : decode cX5_wordOfLine 66 = .ok (.aload_n 0, 1) := by decide +kernel
theorem dX5_wordOfLine_67 : decode cX5_wordOfLine 67 = .ok (.ldc 86, 2) := by decide +kernel
theorem dX5_wordOfLine_69 : decode cX5_wordOfLine 69 = .ok (.invokevirtual 72, 3) := by decide +kernel
theorem dX5_wordOfLine_72 : decode cX5_wordOfLine 72 = .ok (.ifCond .eq 6, 3) := by decide +kernel
theorem dX5_wordOfLine_75 : decode cX5_wordOfLine 75 = .ok (.bipush 6, 2) := by decide +kernel
theorem dX5_wordOfLine_77 : decode cX5_wordOfLine 77 = .ok (.ireturn, 1) := by decide +kernel
theorem dX5_wordOfLine_78 : decode cX5_wordOfLine 78 = .ok (.aload_n 0, 1) := by decide +kernel
theorem dX5_wordOfLine_79 : decode cX5_wordOfLine 79 = .ok (.ldc 88, 2) := by decide +kernel
theorem dX5_wordOfLine_81 : decode cX5_wordOfLine 81 = .ok (.invokevirtual 72, 3) := by decide +kernel
theorem dX5_wordOfLine_84 : decode cX5_wordOfLine 84 = .ok (.ifCond .eq 8, 3) := by decide +kernel
theorem dX5_wordOfLine_87 : decode cX5_wordOfLine 87 = .ok (.bipush 7, 2) := by decide +kernel
theorem dX5_wordOfLine_89 : decode cX5_wordOfLine 89 = .ok (.goto 4, 3) := by decide +kernel
theorem dX5_wordOfLine_92 : decode cX5_wordOfLine 92 = .ok (.iconst (-1), 1) := by decide +kernel
theorem dX5_wordOfLine_93 : decode cX5_wordOfLine 93 = .ok (.ireturn, 1) := by decide +kernel
theorem dX5_kiteOfToken_0 : decode cX5_kiteOfToken 0 = .ok (.aload_n 0, 1) := by decide +kernel
theorem dX5_kiteOfToken_1 : decode cX5_kiteOfToken 1 = .ok (.ldc 90, 2) := by decide +kernel
theorem dX5_kiteOfToken_3 : decode cX5_kiteOfToken 3 = .ok (.invokevirtual 72, 3) := by decide +kernel
theorem dX5_kiteOfToken_6 : decode cX5_kiteOfToken 6 = .ok (.ifCond .eq 5, 3) := by decide +kernel
theorem dX5_kiteOfToken_9 : decode cX5_kiteOfToken 9 = .ok (.iconst 0, 1) := by decide +kernel
theorem dX5_kiteOfToken_10 : decode cX5_kiteOfToken 10 = .ok (.ireturn, 1) := by decide +kernel
theorem dX5_kiteOfToken_11 : decode cX5_kiteOfToken 11 = .ok (.aload_n 0, 1) := by decide +kernel
theorem dX5_kiteOfToken_12 : decode cX5_kiteOfToken 12 = .ok (.ldc 92, 2) := by decide +kernel
theorem dX5_kiteOfToken_14 : decode cX5_kiteOfToken 14 = .ok (.invokevirtual 72, 3) := by decide +kernel
theorem dX5_kiteOfToken_17 : decode cX5_kiteOfToken 17 = .ok (.ifCond .eq 5, 3) := by decide +kernel
theorem dX5_kiteOfToken_20 : decode cX5_kiteOfToken 20 = .ok (.iconst 1, 1) := by decide +kernel
theorem dX5_kiteOfToken_21 : decode cX5_kiteOfToken 21 = .ok (.ireturn, 1) := by decide +kernel
theorem dX5_kiteOfToken_22 : decode cX5_kiteOfToken 22 = .ok (.aload_n 0, 1) := by decide +kernel
theorem dX5_kiteOfToken_23 : decode cX5_kiteOfToken 23 = .ok (.ldc 94, 2) := by decide +kernel
theorem dX5_kiteOfToken_25 : decode cX5_kiteOfToken 25 = .ok (.invokevirtual 72, 3) := by decide +kernel
theorem dX5_kiteOfToken_28 : decode cX5_kiteOfToken 28 = .ok (.ifCond .eq 5, 3) := by decide +kernel
theorem dX5_kiteOfToken_31 : decode cX5_kiteOfToken 31 = .ok (.iconst 2, 1) := by decide +kernel
theorem dX5_kiteOfToken_32 : decode cX5_kiteOfToken 32 = .ok (.ireturn, 1) := by decide +kernel
theorem dX5_kiteOfToken_33 : decode cX5_kiteOfToken 33 = .ok (.aload_n 0, 1) := by decide +kernel
theorem dX5_kiteOfToken_34 : decode cX5_kiteOfToken 34 = .ok (.ldc 96, 2) := by decide +kernel
theorem dX5_kiteOfToken_36 : decode cX5_kiteOfToken 36 = .ok (.invokevirtual 72, 3) := by decide +kernel
theorem dX5_kiteOfToken_39 : decode cX5_kiteOfToken 39 = .ok (.ifCond .eq 5, 3) := by decide +kernel
theorem dX5_kiteOfToken_42 : decode cX5_kiteOfToken 42 = .ok (.iconst 3, 1) := by decide +kernel
theorem dX5_kiteOfToken_43 : decode cX5_kiteOfToken 43 = .ok (.ireturn, 1) := by decide +kernel
theorem dX5_kiteOfToken_44 : decode cX5_kiteOfToken 44 = .ok (.aload_n 0, 1) := by decide +kernel
theorem dX5_kiteOfToken_45 : decode cX5_kiteOfToken 45 = .ok (.ldc 98, 2) := by decide +kernel
theorem dX5_kiteOfToken_47 : decode cX5_kiteOfToken 47 = .ok (.invokevirtual 72, 3) := by decide +kernel
theorem dX5_kiteOfToken_50 : decode cX5_kiteOfToken 50 = .ok (.ifCond .eq 7, 3) := by decide +kernel
theorem dX5_kiteOfToken_53 : decode cX5_kiteOfToken 53 = .ok (.iconst 4, 1) := by decide +kernel
theorem dX5_kiteOfToken_54 : decode cX5_kiteOfToken 54 = .ok (.goto 4, 3) := by decide +kernel
theorem dX5_kiteOfToken_57 : decode cX5_kiteOfToken 57 = .ok (.iconst (-1), 1) := by decide +kernel
theorem dX5_kiteOfToken_58 : decode cX5_kiteOfToken 58 = .ok (.ireturn, 1) := by decide +kernel
theorem dX5_readKite_0 : decode cX5_readKite 0 = .ok (.aload_n 0, 1) := by decide +kernel
theorem dX5_readKite_1 : decode cX5_readKite 1 = .ok (.invokevirtual 56, 3) := by decide +kernel
theorem dX5_readKite_4 : decode cX5_readKite 4 = .ok (.aload_n 0, 1) := by decide +kernel
theorem dX5_readKite_5 : decode cX5_readKite 5 = .ok (.invokevirtual 100, 3) := by decide +kernel
theorem dX5_readKite_8 : decode cX5_readKite 8 = .ok (.istore_n 1, 1) := by decide +kernel
theorem dX5_readKite_9 : decode cX5_readKite 9 = .ok (.iload_n 1, 1) := by decide +kernel
theorem dX5_readKite_10 : decode cX5_readKite 10 = .ok (.iconst (-1), 1) := by decide +kernel
theorem dX5_readKite_11 : decode cX5_readKite 11 = .ok (.if_icmp .eq 15, 3) := by decide +kernel
theorem dX5_readKite_14 : decode cX5_readKite 14 = .ok (.aload_n 0, 1) := by decide +kernel
theorem dX5_readKite_15 : decode cX5_readKite 15 = .ok (.iload_n 1, 1) := by decide +kernel
theorem dX5_readKite_16 : decode cX5_readKite 16 = .ok (.invokevirtual 103, 3) := by decide +kernel
theorem dX5_readKite_19 : decode cX5_readKite 19 = .ok (.ifCond .eq 7, 3) := by decide +kernel
theorem dX5_readKite_22 : decode cX5_readKite 22 = .ok (.iconst 1, 1) := by decide +kernel
theorem dX5_readKite_23 : decode cX5_readKite 23 = .ok (.goto 4, 3) := by decide +kernel
theorem dX5_readKite_26 : decode cX5_readKite 26 = .ok (.iconst 0, 1) := by decide +kernel
theorem dX5_readKite_27 : decode cX5_readKite 27 = .ok (.ireturn, 1) := by decide +kernel
theorem dX5_readNumber_0 : decode cX5_readNumber 0 = .ok (.aload_n 0, 1) := by decide +kernel
theorem dX5_readNumber_1 : decode cX5_readNumber 1 = .ok (.invokevirtual 56, 3) := by decide +kernel
theorem dX5_readNumber_4 : decode cX5_readNumber 4 = .ok (.aload_n 0, 1) := by decide +kernel
theorem dX5_readNumber_5 : decode cX5_readNumber 5 = .ok (.getfield 22, 3) := by decide +kernel
theorem dX5_readNumber_8 : decode cX5_readNumber 8 = .ok (.iconst 1, 1) := by decide +kernel
theorem dX5_readNumber_9 : decode cX5_readNumber 9 = .ok (.if_icmp .ne 16, 3) := by decide +kernel
theorem dX5_readNumber_12 : decode cX5_readNumber 12 = .ok (.aload_n 0, 1) := by decide +kernel
theorem dX5_readNumber_13 : decode cX5_readNumber 13 = .ok (.getfield 28, 3) := by decide +kernel
theorem dX5_readNumber_16 : decode cX5_readNumber 16 = .ok (.aload_n 0, 1) := by decide +kernel
theorem dX5_readNumber_17 : decode cX5_readNumber 17 = .ok (.getfield 25, 3) := by decide +kernel
theorem dX5_readNumber_20 : decode cX5_readNumber 20 = .ok (.isub, 1) := by decide +kernel
theorem dX5_readNumber_21 : decode cX5_readNumber 21 = .ok (.iconst 2, 1) := by decide +kernel
theorem dX5_readNumber_22 : decode cX5_readNumber 22 = .ok (.if_icmp .le 5, 3) := by decide +kernel
theorem dX5_readNumber_25 : decode cX5_readNumber 25 = .ok (.iconst 0, 1) := by decide +kernel
theorem dX5_readNumber_26 : decode cX5_readNumber 26 = .ok (.ireturn, 1) := by decide +kernel
theorem dX5_readNumber_27 : decode cX5_readNumber 27 = .ok (.iconst 0, 1) := by decide +kernel
theorem dX5_readNumber_28 : decode cX5_readNumber 28 = .ok (.istore_n 3, 1) := by decide +kernel
theorem dX5_readNumber_29 : decode cX5_readNumber 29 = .ok (.aload_n 0, 1) := by decide +kernel
theorem dX5_readNumber_30 : decode cX5_readNumber 30 = .ok (.getfield 25, 3) := by decide +kernel
theorem dX5_readNumber_33 : decode cX5_readNumber 33 = .ok (.istore 4, 2) := by decide +kernel
theorem dX5_readNumber_35 : decode cX5_readNumber 35 = .ok (.iload 4, 2) := by decide +kernel
theorem dX5_readNumber_37 : decode cX5_readNumber 37 = .ok (.aload_n 0, 1) := by decide +kernel
theorem dX5_readNumber_38 : decode cX5_readNumber 38 = .ok (.getfield 28, 3) := by decide +kernel
theorem dX5_readNumber_41 : decode cX5_readNumber 41 = .ok (.if_icmp .ge 25, 3) := by decide +kernel
theorem dX5_readNumber_44 : decode cX5_readNumber 44 = .ok (.iload_n 3, 1) := by decide +kernel
theorem dX5_readNumber_45 : decode cX5_readNumber 45 = .ok (.bipush 10, 2) := by decide +kernel
theorem dX5_readNumber_47 : decode cX5_readNumber 47 = .ok (.imul, 1) := by decide +kernel
theorem dX5_readNumber_48 : decode cX5_readNumber 48 = .ok (.aload_n 0, 1) := by decide +kernel
theorem dX5_readNumber_49 : decode cX5_readNumber 49 = .ok (.getfield 18, 3) := by decide +kernel
theorem dX5_readNumber_52 : decode cX5_readNumber 52 = .ok (.iload 4, 2) := by decide +kernel
theorem dX5_readNumber_54 : decode cX5_readNumber 54 = .ok (.iaload, 1) := by decide +kernel
theorem dX5_readNumber_55 : decode cX5_readNumber 55 = .ok (.iadd, 1) := by decide +kernel
theorem dX5_readNumber_56 : decode cX5_readNumber 56 = .ok (.bipush 48, 2) := by decide +kernel
theorem dX5_readNumber_58 : decode cX5_readNumber 58 = .ok (.isub, 1) := by decide +kernel
theorem dX5_readNumber_59 : decode cX5_readNumber 59 = .ok (.istore_n 3, 1) := by decide +kernel
theorem dX5_readNumber_60 : decode cX5_readNumber 60 = .ok (.iinc 4 1, 3) := by decide +kernel
theorem dX5_readNumber_63 : decode cX5_readNumber 63 = .ok (.goto (-28), 3) := by decide +kernel
theorem dX5_readNumber_66 : decode cX5_readNumber 66 = .ok (.iload_n 3, 1) := by decide +kernel
theorem dX5_readNumber_67 : decode cX5_readNumber 67 = .ok (.iload_n 1, 1) := by decide +kernel
theorem dX5_readNumber_68 : decode cX5_readNumber 68 = .ok (.if_icmp .lt 20, 3) := by decide +kernel
theorem dX5_readNumber_71 : decode cX5_readNumber 71 = .ok (.iload_n 3, 1) := by decide +kernel
theorem dX5_readNumber_72 : decode cX5_readNumber 72 = .ok (.iload_n 2, 1) := by decide +kernel
theorem dX5_readNumber_73 : decode cX5_readNumber 73 = .ok (.if_icmp .gt 15, 3) := by decide +kernel
theorem dX5_readNumber_76 : decode cX5_readNumber 76 = .ok (.aload_n 0, 1) := by decide +kernel
theorem dX5_readNumber_77 : decode cX5_readNumber 77 = .ok (.iload_n 3, 1) := by decide +kernel
theorem dX5_readNumber_78 : decode cX5_readNumber 78 = .ok (.invokevirtual 103, 3) := by decide +kernel
theorem dX5_readNumber_81 : decode cX5_readNumber 81 = .ok (.ifCond .eq 7, 3) := by decide +kernel
theorem dX5_readNumber_84 : decode cX5_readNumber 84 = .ok (.iconst 1, 1) := by decide +kernel
theorem dX5_readNumber_85 : decode cX5_readNumber 85 = .ok (.goto 4, 3) := by decide +kernel
theorem dX5_readNumber_88 : decode cX5_readNumber 88 = .ok (.iconst 0, 1) := by decide +kernel
theorem dX5_readNumber_89 : decode cX5_readNumber 89 = .ok (.ireturn, 1) := by decide +kernel
theorem dX5_addNumber_0 : decode cX5_addNumber 0 = .ok (.aload_n 0, 1) := by decide +kernel
theorem dX5_addNumber_1 : decode cX5_addNumber 1 = .ok (.getfield 34, 3) := by decide +kernel
theorem dX5_addNumber_4 : decode cX5_addNumber 4 = .ok (.iconst 5, 1) := by decide +kernel
theorem dX5_addNumber_5 : decode cX5_addNumber 5 = .ok (.if_icmp .lt 5, 3) := by decide +kernel
theorem dX5_addNumber_8 : decode cX5_addNumber 8 = .ok (.iconst 0, 1) := by decide +kernel
theorem dX5_addNumber_9 : decode cX5_addNumber 9 = .ok (.ireturn, 1) := by decide +kernel
theorem dX5_addNumber_10 : decode cX5_addNumber 10 = .ok (.aload_n 0, 1) := by decide +kernel
theorem dX5_addNumber_11 : decode cX5_addNumber 11 = .ok (.getfield 37, 3) := by decide +kernel
theorem dX5_addNumber_14 : decode cX5_addNumber 14 = .ok (.aload_n 0, 1) := by decide +kernel
theorem dX5_addNumber_15 : decode cX5_addNumber 15 = .ok (.dup, 1) := by decide +kernel
theorem dX5_addNumber_16 : decode cX5_addNumber 16 = .ok (.getfield 34, 3) := by decide +kernel
theorem dX5_addNumber_19 : decode cX5_addNumber 19 = .ok (.dup_x1, 1) := by decide +kernel
theorem dX5_addNumber_20 : decode cX5_addNumber 20 = .ok (.iconst 1, 1) := by decide +kernel
theorem dX5_addNumber_21 : decode cX5_addNumber 21 = .ok (.iadd, 1) := by decide +kernel
theorem dX5_addNumber_22 : decode cX5_addNumber 22 = .ok (.putfield 34, 3) := by decide +kernel
theorem dX5_addNumber_25 : decode cX5_addNumber 25 = .ok (.iload_n 1, 1) := by decide +kernel
theorem dX5_addNumber_26 : decode cX5_addNumber 26 = .ok (.iastore, 1) := by decide +kernel
theorem dX5_addNumber_27 : decode cX5_addNumber 27 = .ok (.iconst 1, 1) := by decide +kernel
theorem dX5_addNumber_28 : decode cX5_addNumber 28 = .ok (.ireturn, 1) := by decide +kernel
theorem dX5_readToken_0 : decode cX5_readToken 0 = .ok (.aload_n 0, 1) := by decide +kernel
theorem dX5_readToken_1 : decode cX5_readToken 1 = .ok (.aload_n 0, 1) := by decide +kernel
theorem dX5_readToken_2 : decode cX5_readToken 2 = .ok (.getfield 28, 3) := by decide +kernel
theorem dX5_readToken_5 : decode cX5_readToken 5 = .ok (.putfield 25, 3) := by decide +kernel
theorem dX5_readToken_8 : decode cX5_readToken 8 = .ok (.aload_n 0, 1) := by decide +kernel
theorem dX5_readToken_9 : decode cX5_readToken 9 = .ok (.getfield 25, 3) := by decide +kernel
theorem dX5_readToken_12 : decode cX5_readToken 12 = .ok (.aload_n 0, 1) := by decide +kernel
theorem dX5_readToken_13 : decode cX5_readToken 13 = .ok (.getfield 9, 3) := by decide +kernel
theorem dX5_readToken_16 : decode cX5_readToken 16 = .ok (.if_icmp .ge 30, 3) := by decide +kernel
theorem dX5_readToken_19 : decode cX5_readToken 19 = .ok (.aload_n 0, 1) := by decide +kernel
theorem dX5_readToken_20 : decode cX5_readToken 20 = .ok (.getfield 18, 3) := by decide +kernel
theorem dX5_readToken_23 : decode cX5_readToken 23 = .ok (.aload_n 0, 1) := by decide +kernel
theorem dX5_readToken_24 : decode cX5_readToken 24 = .ok (.getfield 25, 3) := by decide +kernel
theorem dX5_readToken_27 : decode cX5_readToken 27 = .ok (.iaload, 1) := by decide +kernel
theorem dX5_readToken_28 : decode cX5_readToken 28 = .ok (.bipush 32, 2) := by decide +kernel
theorem dX5_readToken_30 : decode cX5_readToken 30 = .ok (.if_icmp .ne 16, 3) := by decide +kernel
theorem dX5_readToken_33 : decode cX5_readToken 33 = .ok (.aload_n 0, 1) := by decide +kernel
theorem dX5_readToken_34 : decode cX5_readToken 34 = .ok (.dup, 1) := by decide +kernel
theorem dX5_readToken_35 : decode cX5_readToken 35 = .ok (.getfield 25, 3) := by decide +kernel
theorem dX5_readToken_38 : decode cX5_readToken 38 = .ok (.iconst 1, 1) := by decide +kernel
theorem dX5_readToken_39 : decode cX5_readToken 39 = .ok (.iadd, 1) := by decide +kernel
theorem dX5_readToken_40 : decode cX5_readToken 40 = .ok (.putfield 25, 3) := by decide +kernel
theorem dX5_readToken_43 : decode cX5_readToken 43 = .ok (.goto (-35), 3) := by decide +kernel
theorem dX5_readToken_46 : decode cX5_readToken 46 = .ok (.aload_n 0, 1) := by decide +kernel
theorem dX5_readToken_47 : decode cX5_readToken 47 = .ok (.aload_n 0, 1) := by decide +kernel
theorem dX5_readToken_48 : decode cX5_readToken 48 = .ok (.aload_n 0, 1) := by decide +kernel
theorem dX5_readToken_49 : decode cX5_readToken 49 = .ok (.getfield 25, 3) := by decide +kernel
theorem dX5_readToken_52 : decode cX5_readToken 52 = .ok (.invokevirtual 107, 3) := by decide +kernel
theorem dX5_readToken_55 : decode cX5_readToken 55 = .ok (.putfield 22, 3) := by decide +kernel
theorem dX5_readToken_58 : decode cX5_readToken 58 = .ok (.aload_n 0, 1) := by decide +kernel
theorem dX5_readToken_59 : decode cX5_readToken 59 = .ok (.aload_n 0, 1) := by decide +kernel
theorem dX5_readToken_60 : decode cX5_readToken 60 = .ok (.getfield 25, 3) := by decide +kernel
theorem dX5_readToken_63 : decode cX5_readToken 63 = .ok (.putfield 28, 3) := by decide +kernel
theorem dX5_readToken_66 : decode cX5_readToken 66 = .ok (.aload_n 0, 1) := by decide +kernel
theorem dX5_readToken_67 : decode cX5_readToken 67 = .ok (.getfield 28, 3) := by decide +kernel
theorem dX5_readToken_70 : decode cX5_readToken 70 = .ok (.aload_n 0, 1) := by decide +kernel
theorem dX5_readToken_71 : decode cX5_readToken 71 = .ok (.getfield 9, 3) := by decide +kernel
theorem dX5_readToken_74 : decode cX5_readToken 74 = .ok (.if_icmp .ge 39, 3) := by decide +kernel
theorem dX5_readToken_77 : decode cX5_readToken 77 = .ok (.aload_n 0, 1) := by decide +kernel
theorem dX5_readToken_78 : decode cX5_readToken 78 = .ok (.aload_n 0, 1) := by decide +kernel
theorem dX5_readToken_79 : decode cX5_readToken 79 = .ok (.getfield 28, 3) := by decide +kernel
theorem dX5_readToken_82 : decode cX5_readToken 82 = .ok (.invokevirtual 107, 3) := by decide +kernel
theorem dX5_readToken_85 : decode cX5_readToken 85 = .ok (.aload_n 0, 1) := by decide +kernel
theorem dX5_readToken_86 : decode cX5_readToken 86 = .ok (.getfield 22, 3) := by decide +kernel
theorem dX5_readToken_89 : decode cX5_readToken 89 = .ok (.if_icmp .ne 24, 3) := by decide +kernel
theorem dX5_readToken_92 : decode cX5_readToken 92 = .ok (.aload_n 0, 1) := by decide +kernel
theorem dX5_readToken_93 : decode cX5_readToken 93 = .ok (.dup, 1) := by decide +kernel
theorem dX5_readToken_94 : decode cX5_readToken 94 = .ok (.getfield 28, 3) := by decide +kernel
theorem dX5_readToken_97 : decode cX5_readToken 97 = .ok (.iconst 1, 1) := by decide +kernel
theorem dX5_readToken_98 : decode cX5_readToken 98 = .ok (.iadd, 1) := by decide +kernel
theorem dX5_readToken_99 : decode cX5_readToken 99 = .ok (.putfield 28, 3) := by decide +kernel
theorem dX5_readToken_102 : decode cX5_readToken 102 = .ok (.aload_n 0, 1) := by decide +kernel
theorem dX5_readToken_103 : decode cX5_readToken 103 = .ok (.getfield 22, 3) := by decide +kernel
theorem dX5_readToken_106 : decode cX5_readToken 106 = .ok (.iconst 2, 1) := by decide +kernel
theorem dX5_readToken_107 : decode cX5_readToken 107 = .ok (.if_icmp .ne (-41), 3) := by decide +kernel
theorem dX5_readToken_110 : decode cX5_readToken 110 = .ok (.goto 3, 3) := by decide +kernel
theorem dX5_readToken_113 : decode cX5_readToken 113 = .ok (.return_, 1) := by decide +kernel
theorem dX5_kindAt_0 : decode cX5_kindAt 0 = .ok (.iload_n 1, 1) := by decide +kernel
theorem dX5_kindAt_1 : decode cX5_kindAt 1 = .ok (.aload_n 0, 1) := by decide +kernel
theorem dX5_kindAt_2 : decode cX5_kindAt 2 = .ok (.getfield 9, 3) := by decide +kernel
theorem dX5_kindAt_5 : decode cX5_kindAt 5 = .ok (.if_icmp .lt 5, 3) := by decide +kernel
theorem dX5_kindAt_8 : decode cX5_kindAt 8 = .ok (.iconst 3, 1) := by decide +kernel
theorem dX5_kindAt_9 : decode cX5_kindAt 9 = .ok (.ireturn, 1) := by decide +kernel
theorem dX5_kindAt_10 : decode cX5_kindAt 10 = .ok (.aload_n 0, 1) := by decide +kernel
theorem dX5_kindAt_11 : decode cX5_kindAt 11 = .ok (.getfield 18, 3) := by decide +kernel
theorem dX5_kindAt_14 : decode cX5_kindAt 14 = .ok (.iload_n 1, 1) := by decide +kernel
theorem dX5_kindAt_15 : decode cX5_kindAt 15 = .ok (.iaload, 1) := by decide +kernel
theorem dX5_kindAt_16 : decode cX5_kindAt 16 = .ok (.bipush 97, 2) := by decide +kernel
theorem dX5_kindAt_18 : decode cX5_kindAt 18 = .ok (.if_icmp .lt 16, 3) := by decide +kernel
theorem dX5_kindAt_21 : decode cX5_kindAt 21 = .ok (.aload_n 0, 1) := by decide +kernel
theorem dX5_kindAt_22 : decode cX5_kindAt 22 = .ok (.getfield 18, 3) := by decide +kernel
theorem dX5_kindAt_25 : decode cX5_kindAt 25 = .ok (.iload_n 1, 1) := by decide +kernel
theorem dX5_kindAt_26 : decode cX5_kindAt 26 = .ok (.iaload, 1) := by decide +kernel
theorem dX5_kindAt_27 : decode cX5_kindAt 27 = .ok (.bipush 122, 2) := by decide +kernel
theorem dX5_kindAt_29 : decode cX5_kindAt 29 = .ok (.if_icmp .gt 5, 3) := by decide +kernel
theorem dX5_kindAt_32 : decode cX5_kindAt 32 = .ok (.iconst 0, 1) := by decide +kernel
theorem dX5_kindAt_33 : decode cX5_kindAt 33 = .ok (.ireturn, 1) := by decide +kernel
theorem dX5_kindAt_34 : decode cX5_kindAt 34 = .ok (.aload_n 0, 1) := by decide +kernel
theorem dX5_kindAt_35 : decode cX5_kindAt 35 = .ok (.getfield 18, 3) := by decide +kernel
theorem dX5_kindAt_38 : decode cX5_kindAt 38 = .ok (.iload_n 1, 1) := by decide +kernel
theorem dX5_kindAt_39 : decode cX5_kindAt 39 = .ok (.iaload, 1) := by decide +kernel
theorem dX5_kindAt_40 : decode cX5_kindAt 40 = .ok (.bipush 48, 2) := by decide +kernel
theorem dX5_kindAt_42 : decode cX5_kindAt 42 = .ok (.if_icmp .lt 18, 3) := by decide +kernel
theorem dX5_kindAt_45 : decode cX5_kindAt 45 = .ok (.aload_n 0, 1) := by decide +kernel
theorem dX5_kindAt_46 : decode cX5_kindAt 46 = .ok (.getfield 18, 3) := by decide +kernel
theorem dX5_kindAt_49 : decode cX5_kindAt 49 = .ok (.iload_n 1, 1) := by decide +kernel
theorem dX5_kindAt_50 : decode cX5_kindAt 50 = .ok (.iaload, 1) := by decide +kernel
theorem dX5_kindAt_51 : decode cX5_kindAt 51 = .ok (.bipush 57, 2) := by decide +kernel
theorem dX5_kindAt_53 : decode cX5_kindAt 53 = .ok (.if_icmp .gt 7, 3) := by decide +kernel
theorem dX5_kindAt_56 : decode cX5_kindAt 56 = .ok (.iconst 1, 1) := by decide +kernel
theorem dX5_kindAt_57 : decode cX5_kindAt 57 = .ok (.goto 4, 3) := by decide +kernel
theorem dX5_kindAt_60 : decode cX5_kindAt 60 = .ok (.iconst 2, 1) := by decide +kernel
theorem dX5_kindAt_61 : decode cX5_kindAt 61 = .ok (.ireturn, 1) := by decide +kernel
theorem dX5_tokenIs_0 : decode cX5_tokenIs 0 = .ok (.aload_n 0, 1) := by decide +kernel
theorem dX5_tokenIs_1 : decode cX5_tokenIs 1 = .ok (.getfield 28, 3) := by decide +kernel
theorem dX5_tokenIs_4 : decode cX5_tokenIs 4 = .ok (.aload_n 0, 1) := by decide +kernel
theorem dX5_tokenIs_5 : decode cX5_tokenIs 5 = .ok (.getfield 25, 3) := by decide +kernel
theorem dX5_tokenIs_8 : decode cX5_tokenIs 8 = .ok (.isub, 1) := by decide +kernel
theorem dX5_tokenIs_9 : decode cX5_tokenIs 9 = .ok (.aload_n 1, 1) := by decide +kernel
theorem dX5_tokenIs_10 : decode cX5_tokenIs 10 = .ok (.invokevirtual 111, 3) := by decide +kernel
theorem dX5_tokenIs_13 : decode cX5_tokenIs 13 = .ok (.if_icmp .eq 5, 3) := by decide +kernel
theorem dX5_tokenIs_16 : decode cX5_tokenIs 16 = .ok (.iconst 0, 1) := by decide +kernel
theorem dX5_tokenIs_17 : decode cX5_tokenIs 17 = .ok (.ireturn, 1) := by decide +kernel
theorem dX5_tokenIs_18 : decode cX5_tokenIs 18 = .ok (.aload_n 0, 1) := by decide +kernel
theorem dX5_tokenIs_19 : decode cX5_tokenIs 19 = .ok (.getfield 25, 3) := by decide +kernel
theorem dX5_tokenIs_22 : decode cX5_tokenIs 22 = .ok (.istore_n 2, 1) := by decide +kernel
theorem dX5_tokenIs_23 : decode cX5_tokenIs 23 = .ok (.iload_n 2, 1) := by decide +kernel
theorem dX5_tokenIs_24 : decode cX5_tokenIs 24 = .ok (.aload_n 0, 1) := by decide +kernel
theorem dX5_tokenIs_25 : decode cX5_tokenIs 25 = .ok (.getfield 28, 3) := by decide +kernel
theorem dX5_tokenIs_28 : decode cX5_tokenIs 28 = .ok (.if_icmp .ge 30, 3) := by decide +kernel
theorem dX5_tokenIs_31 : decode cX5_tokenIs 31 = .ok (.aload_n 0, 1) := by decide +kernel
theorem dX5_tokenIs_32 : decode cX5_tokenIs 32 = .ok (.getfield 18, 3) := by decide +kernel
theorem dX5_tokenIs_35 : decode cX5_tokenIs 35 = .ok (.iload_n 2, 1) := by decide +kernel
theorem dX5_tokenIs_36 : decode cX5_tokenIs 36 = .ok (.iaload, 1) := by decide +kernel
theorem dX5_tokenIs_37 : decode cX5_tokenIs 37 = .ok (.aload_n 1, 1) := by decide +kernel
theorem dX5_tokenIs_38 : decode cX5_tokenIs 38 = .ok (.iload_n 2, 1) := by decide +kernel
theorem dX5_tokenIs_39 : decode cX5_tokenIs 39 = .ok (.aload_n 0, 1) := by decide +kernel
theorem dX5_tokenIs_40 : decode cX5_tokenIs 40 = .ok (.getfield 25, 3) := by decide +kernel
theorem dX5_tokenIs_43 : decode cX5_tokenIs 43 = .ok (.isub, 1) := by decide +kernel
theorem dX5_tokenIs_44 : decode cX5_tokenIs 44 = .ok (.invokevirtual 115, 3) := by decide +kernel
theorem dX5_tokenIs_47 : decode cX5_tokenIs 47 = .ok (.if_icmp .eq 5, 3) := by decide +kernel
theorem dX5_tokenIs_50 : decode cX5_tokenIs 50 = .ok (.iconst 0, 1) := by decide +kernel
theorem dX5_tokenIs_51 : decode cX5_tokenIs 51 = .ok (.ireturn, 1) := by decide +kernel
theorem dX5_tokenIs_52 : decode cX5_tokenIs 52 = .ok (.iinc 2 1, 3) := by decide +kernel
theorem dX5_tokenIs_55 : decode cX5_tokenIs 55 = .ok (.goto (-32), 3) := by decide +kernel
theorem dX5_tokenIs_58 : decode cX5_tokenIs 58 = .ok (.iconst 1, 1) := by decide +kernel
theorem dX5_tokenIs_59 : decode cX5_tokenIs 59 = .ok (.ireturn, 1) := by decide +kernel
theorem dX6_init_0 : decode cX6_init 0 = .ok (.aload_n 0, 1) := by decide +kernel
theorem dX6_init_1 : decode cX6_init 1 = .ok (.invokespecial 3, 3) := by decide +kernel
theorem dX6_init_4 : decode cX6_init 4 = .ok (.new 9, 3) := by decide +kernel
theorem dX6_init_7 : decode cX6_init 7 = .ok (.dup, 1) := by decide +kernel
theorem dX6_init_8 : decode cX6_init 8 = .ok (.invokespecial 11, 3) := by decide +kernel
theorem dX6_init_11 : decode cX6_init 11 = .ok (.astore_n 1, 1) := by decide +kernel
theorem dX6_init_12 : decode cX6_init 12 = .ok (.aload_n 0, 1) := by decide +kernel
theorem dX6_init_13 : decode cX6_init 13 = .ok (.aload_n 1, 1) := by decide +kernel
theorem dX6_init_14 : decode cX6_init 14 = .ok (.putfield 12, 3) := by decide +kernel
theorem dX6_init_17 : decode cX6_init 17 = .ok (.aload_n 0, 1) := by decide +kernel
theorem dX6_init_18 : decode cX6_init 18 = .ok (.new 16, 3) := by decide +kernel
theorem dX6_init_21 : decode cX6_init 21 = .ok (.dup, 1) := by decide +kernel
theorem dX6_init_22 : decode cX6_init 22 = .ok (.invokespecial 18, 3) := by decide +kernel
theorem dX6_init_25 : decode cX6_init 25 = .ok (.putfield 19, 3) := by decide +kernel
theorem dX6_init_28 : decode cX6_init 28 = .ok (.aload_n 0, 1) := by decide +kernel
theorem dX6_init_29 : decode cX6_init 29 = .ok (.new 23, 3) := by decide +kernel
theorem dX6_init_32 : decode cX6_init 32 = .ok (.dup, 1) := by decide +kernel
theorem dX6_init_33 : decode cX6_init 33 = .ok (.invokespecial 25, 3) := by decide +kernel
theorem dX6_init_36 : decode cX6_init 36 = .ok (.putfield 26, 3) := by decide +kernel
theorem dX6_init_39 : decode cX6_init 39 = .ok (.aload_n 0, 1) := by decide +kernel
theorem dX6_init_40 : decode cX6_init 40 = .ok (.iconst 2, 1) := by decide +kernel
theorem dX6_init_41 : decode cX6_init 41 = .ok (.anewarray 23, 3) := by decide +kernel
theorem dX6_init_44 : decode cX6_init 44 = .ok (.dup, 1) := by decide +kernel
theorem dX6_init_45 : decode cX6_init 45 = .ok (.iconst 0, 1) := by decide +kernel
theorem dX6_init_46 : decode cX6_init 46 = .ok (.new 23, 3) := by decide +kernel
theorem dX6_init_49 : decode cX6_init 49 = .ok (.dup, 1) := by decide +kernel
theorem dX6_init_50 : decode cX6_init 50 = .ok (.invokespecial 25, 3) := by decide +kernel
theorem dX6_init_53 : decode cX6_init 53 = .ok (.aastore, 1) := by decide +kernel
theorem dX6_init_54 : decode cX6_init 54 = .ok (.dup, 1) := by decide +kernel
theorem dX6_init_55 : decode cX6_init 55 = .ok (.iconst 1, 1) := by decide +kernel
theorem dX6_init_56 : decode cX6_init 56 = .ok (.new 23, 3) := by decide +kernel
theorem dX6_init_59 : decode cX6_init 59 = .ok (.dup, 1) := by decide +kernel
theorem dX6_init_60 : decode cX6_init 60 = .ok (.invokespecial 25, 3) := by decide +kernel
theorem dX6_init_63 : decode cX6_init 63 = .ok (.aastore, 1) := by decide +kernel
theorem dX6_init_64 : decode cX6_init 64 = .ok (.putfield 30, 3) := by decide +kernel
theorem dX6_init_67 : decode cX6_init 67 = .ok (.aload_n 0, 1) := by decide +kernel
theorem dX6_init_68 : decode cX6_init 68 = .ok (.iconst 2, 1) := by decide +kernel
theorem dX6_init_69 : decode cX6_init 69 = .ok (.newarray .boolean, 2) := by decide +kernel
theorem dX6_init_71 : decode cX6_init 71 = .ok (.putfield 34, 3) := by decide +kernel
theorem dX6_init_74 : decode cX6_init 74 = .ok (.aload_n 0, 1) := by decide +kernel
theorem dX6_init_75 : decode cX6_init 75 = .ok (.new 38, 3) := by decide +kernel
theorem dX6_init_78 : decode cX6_init 78 = .ok (.dup, 1) := by decide +kernel
theorem dX6_init_79 : decode cX6_init 79 = .ok (.aload_n 1, 1) := by decide +kernel
theorem dX6_init_80 : decode cX6_init 80 = .ok (.invokespecial 40, 3) := by decide +kernel
theorem dX6_init_83 : decode cX6_init 83 = .ok (.putfield 43, 3) := by decide +kernel
theorem dX6_init_86 : decode cX6_init 86 = .ok (.aload_n 0, 1) := by decide +kernel
theorem dX6_init_87 : decode cX6_init 87 = .ok (.new 47, 3) := by decide +kernel
theorem dX6_init_90 : decode cX6_init 90 = .ok (.dup, 1) := by decide +kernel
theorem dX6_init_91 : decode cX6_init 91 = .ok (.aload_n 1, 1) := by decide +kernel
theorem dX6_init_92 : decode cX6_init 92 = .ok (.invokespecial 49, 3) := by decide +kernel
theorem dX6_init_95 : decode cX6_init 95 = .ok (.putfield 50, 3) := by decide +kernel
theorem dX6_init_98 : decode cX6_init 98 = .ok (.return_, 1) := by decide +kernel
theorem dX6_write_0 : decode cX6_write 0 = .ok (.iload_n 3, 1) := by decide +kernel
theorem dX6_write_1 : decode cX6_write 1 = .ok (.iconst 1, 1) := by decide +kernel
theorem dX6_write_2 : decode cX6_write 2 = .ok (.if_icmp .lt 9, 3) := by decide +kernel
theorem dX6_write_5 : decode cX6_write 5 = .ok (.iload_n 3, 1) := by decide +kernel
theorem dX6_write_6 : decode cX6_write 6 = .ok (.bipush 8, 2) := by decide +kernel
theorem dX6_write_8 : decode cX6_write 8 = .ok (.if_icmp .le 6, 3) := by decide +kernel
theorem dX6_write_11 : decode cX6_write 11 = .ok (.bipush (-3), 2) := by decide +kernel
theorem dX6_write_13 : decode cX6_write 13 = .ok (.ireturn, 1) := by decide +kernel
theorem dX6_write_14 : decode cX6_write 14 = .ok (.aload_n 0, 1) := by decide +kernel
theorem dX6_write_15 : decode cX6_write 15 = .ok (.getfield 19, 3) := by decide +kernel
theorem dX6_write_18 : decode cX6_write 18 = .ok (.lload_n 1, 1) := by decide +kernel
theorem dX6_write_19 : decode cX6_write 19 = .ok (.iload_n 3, 1) := by decide +kernel
theorem dX6_write_20 : decode cX6_write 20 = .ok (.invokevirtual 54, 3) := by decide +kernel
theorem dX6_write_23 : decode cX6_write 23 = .ok (.ifCond .eq 13, 3) := by decide +kernel
theorem dX6_write_26 : decode cX6_write 26 = .ok (.aload_n 0, 1) := by decide +kernel
theorem dX6_write_27 : decode cX6_write 27 = .ok (.getfield 19, 3) := by decide +kernel
theorem dX6_write_30 : decode cX6_write 30 = .ok (.getfield 58, 3) := by decide +kernel
theorem dX6_write_33 : decode cX6_write 33 = .ok (.goto 5, 3) := by decide +kernel
theorem dX6_write_36 : decode cX6_write 36 = .ok (.bipush (-5), 2) := by decide +kernel
theorem dX6_write_38 : decode cX6_write 38 = .ok (.ireturn, 1) := by decide +kernel
theorem dX6_erase_0 : decode cX6_erase 0 = .ok (.aload_n 0, 1) := by decide +kernel
theorem dX6_erase_1 : decode cX6_erase 1 = .ok (.getfield 19, 3) := by decide +kernel
theorem dX6_erase_4 : decode cX6_erase 4 = .ok (.getfield 58, 3) := by decide +kernel
theorem dX6_erase_7 : decode cX6_erase 7 = .ok (.istore_n 1, 1) := by decide +kernel
theorem dX6_erase_8 : decode cX6_erase 8 = .ok (.aload_n 0, 1) := by decide +kernel
theorem dX6_erase_9 : decode cX6_erase 9 = .ok (.getfield 19, 3) := by decide +kernel
theorem dX6_erase_12 : decode cX6_erase 12 = .ok (.iconst 0, 1) := by decide +kernel
theorem dX6_erase_13 : decode cX6_erase 13 = .ok (.putfield 58, 3) := by decide +kernel
theorem dX6_erase_16 : decode cX6_erase 16 = .ok (.iload_n 1, 1) := by decide +kernel
theorem dX6_erase_17 : decode cX6_erase 17 = .ok (.ireturn, 1) := by decide +kernel
theorem dX6_fault_0 : decode cX6_fault 0 = .ok (.aload_n 0, 1) := by decide +kernel
theorem dX6_fault_1 : decode cX6_fault 1 = .ok (.getfield 19, 3) := by decide +kernel
theorem dX6_fault_4 : decode cX6_fault 4 = .ok (.aload_n 0, 1) := by decide +kernel
theorem dX6_fault_5 : decode cX6_fault 5 = .ok (.getfield 12, 3) := by decide +kernel
theorem dX6_fault_8 : decode cX6_fault 8 = .ok (.iconst 0, 1) := by decide +kernel
theorem dX6_fault_9 : decode cX6_fault 9 = .ok (.invokevirtual 62, 3) := by decide +kernel
theorem dX6_fault_12 : decode cX6_fault 12 = .ok (.ireturn, 1) := by decide +kernel
theorem dX6_river_0 : decode cX6_river 0 = .ok (.aload_n 0, 1) := by decide +kernel
theorem dX6_river_1 : decode cX6_river 1 = .ok (.getfield 19, 3) := by decide +kernel
theorem dX6_river_4 : decode cX6_river 4 = .ok (.aload_n 0, 1) := by decide +kernel
theorem dX6_river_5 : decode cX6_river 5 = .ok (.getfield 12, 3) := by decide +kernel
theorem dX6_river_8 : decode cX6_river 8 = .ok (.iconst 0, 1) := by decide +kernel
theorem dX6_river_9 : decode cX6_river 9 = .ok (.invokevirtual 62, 3) := by decide +kernel
theorem dX6_river_12 : decode cX6_river 12 = .ok (.iconst (-1), 1) := by decide +kernel
theorem dX6_river_13 : decode cX6_river 13 = .ok (.if_icmp .eq 6, 3) := by decide +kernel
theorem dX6_river_16 : decode cX6_river 16 = .ok (.bipush (-4), 2) := by decide +kernel
theorem dX6_river_18 : decode cX6_river 18 = .ok (.ireturn, 1) := by decide +kernel
theorem dX6_river_19 : decode cX6_river 19 = .ok (.aload_n 0, 1) := by decide +kernel
theorem dX6_river_20 : decode cX6_river 20 = .ok (.getfield 19, 3) := by decide +kernel
theorem dX6_river_23 : decode cX6_river 23 = .ok (.aload_n 0, 1) := by decide +kernel
theorem dX6_river_24 : decode cX6_river 24 = .ok (.getfield 12, 3) := by decide +kernel
theorem dX6_river_27 : decode cX6_river 27 = .ok (.iconst 1, 1) := by decide +kernel
theorem dX6_river_28 : decode cX6_river 28 = .ok (.invokevirtual 62, 3) := by decide +kernel
theorem dX6_river_31 : decode cX6_river 31 = .ok (.pop, 1) := by decide +kernel
theorem dX6_river_32 : decode cX6_river 32 = .ok (.aload_n 0, 1) := by decide +kernel
theorem dX6_river_33 : decode cX6_river 33 = .ok (.getfield 19, 3) := by decide +kernel
theorem dX6_river_36 : decode cX6_river 36 = .ok (.iconst 0, 1) := by decide +kernel
theorem dX6_river_37 : decode cX6_river 37 = .ok (.putfield 58, 3) := by decide +kernel
theorem dX6_river_40 : decode cX6_river 40 = .ok (.aload_n 0, 1) := by decide +kernel
theorem dX6_river_41 : decode cX6_river 41 = .ok (.getfield 26, 3) := by decide +kernel
theorem dX6_river_44 : decode cX6_river 44 = .ok (.aload_n 0, 1) := by decide +kernel
theorem dX6_river_45 : decode cX6_river 45 = .ok (.getfield 12, 3) := by decide +kernel
theorem dX6_river_48 : decode cX6_river 48 = .ok (.invokevirtual 66, 3) := by decide +kernel
theorem dX6_river_51 : decode cX6_river 51 = .ok (.invokevirtual 70, 3) := by decide +kernel
theorem dX6_river_54 : decode cX6_river 54 = .ok (.iconst 0, 1) := by decide +kernel
theorem dX6_river_55 : decode cX6_river 55 = .ok (.istore_n 1, 1) := by decide +kernel
theorem dX6_river_56 : decode cX6_river 56 = .ok (.iload_n 1, 1) := by decide +kernel
theorem dX6_river_57 : decode cX6_river 57 = .ok (.iconst 2, 1) := by decide +kernel
theorem dX6_river_58 : decode cX6_river 58 = .ok (.if_icmp .ge 16, 3) := by decide +kernel
theorem dX6_river_61 : decode cX6_river 61 = .ok (.aload_n 0, 1) := by decide +kernel
theorem dX6_river_62 : decode cX6_river 62 = .ok (.getfield 34, 3) := by decide +kernel
theorem dX6_river_65 : decode cX6_river 65 = .ok (.iload_n 1, 1) := by decide +kernel
theorem dX6_river_66 : decode cX6_river 66 = .ok (.iconst 0, 1) := by decide +kernel
theorem dX6_river_67 : decode cX6_river 67 = .ok (.bastore, 1) := by decide +kernel
theorem dX6_river_68 : decode cX6_river 68 = .ok (.iinc 1 1, 3) := by decide +kernel
theorem dX6_river_71 : decode cX6_river 71 = .ok (.goto (-15), 3) := by decide +kernel
theorem dX6_river_74 : decode cX6_river 74 = .ok (.aload_n 0, 1) := by decide +kernel
theorem dX6_river_75 : decode cX6_river 75 = .ok (.getfield 43, 3) := by decide +kernel
theorem dX6_river_78 : decode cX6_river 78 = .ok (.invokevirtual 73, 3) := by decide +kernel
theorem dX6_river_81 : decode cX6_river 81 = .ok (.aload_n 0, 1) := by decide +kernel
theorem dX6_river_82 : decode cX6_river 82 = .ok (.getfield 19, 3) := by decide +kernel
theorem dX6_river_85 : decode cX6_river 85 = .ok (.getfield 76, 3) := by decide +kernel
theorem dX6_river_88 : decode cX6_river 88 = .ok (.ireturn, 1) := by decide +kernel
theorem dX6_reach_0 : decode cX6_reach 0 = .ok (.aload_n 0, 1) := by decide +kernel
theorem dX6_reach_1 : decode cX6_reach 1 = .ok (.getfield 12, 3) := by decide +kernel
theorem dX6_reach_4 : decode cX6_reach 4 = .ok (.iload_n 1, 1) := by decide +kernel
theorem dX6_reach_5 : decode cX6_reach 5 = .ok (.invokevirtual 79, 3) := by decide +kernel
theorem dX6_reach_8 : decode cX6_reach 8 = .ok (.ifCond .ne 6, 3) := by decide +kernel
theorem dX6_reach_11 : decode cX6_reach 11 = .ok (.bipush (-2), 2) := by decide +kernel
theorem dX6_reach_13 : decode cX6_reach 13 = .ok (.ireturn, 1) := by decide +kernel
theorem dX6_reach_14 : decode cX6_reach 14 = .ok (.iload_n 2, 1) := by decide +kernel
theorem dX6_reach_15 : decode cX6_reach 15 = .ok (.tableswitch 55 0 2 #[25, 35, 45], 25) := by decide +kernel
theorem dX6_reach_40 : decode cX6_reach 40 = .ok (.aload_n 0, 1) := by decide +kernel
theorem dX6_reach_41 : decode cX6_reach 41 = .ok (.getfield 12, 3) := by decide +kernel
theorem dX6_reach_44 : decode cX6_reach 44 = .ok (.getfield 83, 3) := by decide +kernel
theorem dX6_reach_47 : decode cX6_reach 47 = .ok (.iload_n 1, 1) := by decide +kernel
theorem dX6_reach_48 : decode cX6_reach 48 = .ok (.iaload, 1) := by decide +kernel
theorem dX6_reach_49 : decode cX6_reach 49 = .ok (.ireturn, 1) := by decide +kernel
theorem dX6_reach_50 : decode cX6_reach 50 = .ok (.aload_n 0, 1) := by decide +kernel
theorem dX6_reach_51 : decode cX6_reach 51 = .ok (.getfield 12, 3) := by decide +kernel
theorem dX6_reach_54 : decode cX6_reach 54 = .ok (.getfield 87, 3) := by decide +kernel
theorem dX6_reach_57 : decode cX6_reach 57 = .ok (.iload_n 1, 1) := by decide +kernel
theorem dX6_reach_58 : decode cX6_reach 58 = .ok (.iaload, 1) := by decide +kernel
theorem dX6_reach_59 : decode cX6_reach 59 = .ok (.ireturn, 1) := by decide +kernel
theorem dX6_reach_60 : decode cX6_reach 60 = .ok (.aload_n 0, 1) := by decide +kernel
theorem dX6_reach_61 : decode cX6_reach 61 = .ok (.getfield 12, 3) := by decide +kernel
theorem dX6_reach_64 : decode cX6_reach 64 = .ok (.getfield 90, 3) := by decide +kernel
theorem dX6_reach_67 : decode cX6_reach 67 = .ok (.iload_n 1, 1) := by decide +kernel
theorem dX6_reach_68 : decode cX6_reach 68 = .ok (.iaload, 1) := by decide +kernel
theorem dX6_reach_69 : decode cX6_reach 69 = .ok (.ireturn, 1) := by decide +kernel
theorem dX6_reach_70 : decode cX6_reach 70 = .ok (.bipush (-3), 2) := by decide +kernel
theorem dX6_reach_72 : decode cX6_reach 72 = .ok (.ireturn, 1) := by decide +kernel
theorem dX6_wind_0 : decode cX6_wind 0 = .ok (.iload_n 1, 1) := by decide +kernel
theorem dX6_wind_1 : decode cX6_wind 1 = .ok (.invokestatic 93, 3) := by decide +kernel
theorem dX6_wind_4 : decode cX6_wind 4 = .ok (.ifCond .eq 10, 3) := by decide +kernel
theorem dX6_wind_7 : decode cX6_wind 7 = .ok (.iload_n 2, 1) := by decide +kernel
theorem dX6_wind_8 : decode cX6_wind 8 = .ok (.invokestatic 96, 3) := by decide +kernel
theorem dX6_wind_11 : decode cX6_wind 11 = .ok (.ifCond .ne 6, 3) := by decide +kernel
theorem dX6_wind_14 : decode cX6_wind 14 = .ok (.bipush (-2), 2) := by decide +kernel
theorem dX6_wind_16 : decode cX6_wind 16 = .ok (.ireturn, 1) := by decide +kernel
theorem dX6_wind_17 : decode cX6_wind 17 = .ok (.iload_n 3, 1) := by decide +kernel
theorem dX6_wind_18 : decode cX6_wind 18 = .ok (.lookupswitch 56 #[(0, 26), (1, 41)], 26) := by decide +kernel
theorem dX6_wind_44 : decode cX6_wind 44 = .ok (.aload_n 0, 1) := by decide +kernel
theorem dX6_wind_45 : decode cX6_wind 45 = .ok (.getfield 12, 3) := by decide +kernel
theorem dX6_wind_48 : decode cX6_wind 48 = .ok (.getfield 99, 3) := by decide +kernel
theorem dX6_wind_51 : decode cX6_wind 51 = .ok (.iload_n 1, 1) := by decide +kernel
theorem dX6_wind_52 : decode cX6_wind 52 = .ok (.bipush 24, 2) := by decide +kernel
theorem dX6_wind_54 : decode cX6_wind 54 = .ok (.imul, 1) := by decide +kernel
theorem dX6_wind_55 : decode cX6_wind 55 = .ok (.iload_n 2, 1) := by decide +kernel
theorem dX6_wind_56 : decode cX6_wind 56 = .ok (.iadd, 1) := by decide +kernel
theorem dX6_wind_57 : decode cX6_wind 57 = .ok (.iaload, 1) := by decide +kernel
theorem dX6_wind_58 : decode cX6_wind 58 = .ok (.ireturn, 1) := by decide +kernel
theorem dX6_wind_59 : decode cX6_wind 59 = .ok (.aload_n 0, 1) := by decide +kernel
theorem dX6_wind_60 : decode cX6_wind 60 = .ok (.getfield 12, 3) := by decide +kernel
theorem dX6_wind_63 : decode cX6_wind 63 = .ok (.getfield 102, 3) := by decide +kernel
theorem dX6_wind_66 : decode cX6_wind 66 = .ok (.iload_n 1, 1) := by decide +kernel
theorem dX6_wind_67 : decode cX6_wind 67 = .ok (.bipush 24, 2) := by decide +kernel
theorem dX6_wind_69 : decode cX6_wind 69 = .ok (.imul, 1) := by decide +kernel
theorem dX6_wind_70 : decode cX6_wind 70 = .ok (.iload_n 2, 1) := by decide +kernel
theorem dX6_wind_71 : decode cX6_wind 71 = .ok (.iadd, 1) := by decide +kernel
theorem dX6_wind_72 : decode cX6_wind 72 = .ok (.iaload, 1) := by decide +kernel
theorem dX6_wind_73 : decode cX6_wind 73 = .ok (.ireturn, 1) := by decide +kernel
theorem dX6_wind_74 : decode cX6_wind 74 = .ok (.bipush (-3), 2) := by decide +kernel
theorem dX6_wind_76 : decode cX6_wind 76 = .ok (.ireturn, 1) := by decide +kernel
theorem dX6_barge_0 : decode cX6_barge 0 = .ok (.aload_n 0, 1) := by decide +kernel
theorem dX6_barge_1 : decode cX6_barge 1 = .ok (.getfield 12, 3) := by decide +kernel
theorem dX6_barge_4 : decode cX6_barge 4 = .ok (.iload_n 1, 1) := by decide +kernel
theorem dX6_barge_5 : decode cX6_barge 5 = .ok (.invokevirtual 105, 3) := by decide +kernel
theorem dX6_barge_8 : decode cX6_barge 8 = .ok (.ifCond .ne 6, 3) := by decide +kernel
theorem dX6_barge_11 : decode cX6_barge 11 = .ok (.bipush (-2), 2) := by decide +kernel
theorem dX6_barge_13 : decode cX6_barge 13 = .ok (.ireturn, 1) := by decide +kernel
theorem dX6_barge_14 : decode cX6_barge 14 = .ok (.iload_n 2, 1) := by decide +kernel
theorem dX6_barge_15 : decode cX6_barge 15 = .ok (.tableswitch 68 0 3 #[29, 39, 48, 58], 29) := by decide +kernel
theorem dX6_barge_44 : decode cX6_barge 44 = .ok (.aload_n 0, 1) := by decide +kernel
theorem dX6_barge_45 : decode cX6_barge 45 = .ok (.getfield 12, 3) := by decide +kernel
theorem dX6_barge_48 : decode cX6_barge 48 = .ok (.getfield 108, 3) := by decide +kernel
theorem dX6_barge_51 : decode cX6_barge 51 = .ok (.iload_n 1, 1) := by decide +kernel
theorem dX6_barge_52 : decode cX6_barge 52 = .ok (.iaload, 1) := by decide +kernel
theorem dX6_barge_53 : decode cX6_barge 53 = .ok (.ireturn, 1) := by decide +kernel
theorem dX6_barge_54 : decode cX6_barge 54 = .ok (.aload_n 0, 1) := by decide +kernel
theorem dX6_barge_55 : decode cX6_barge 55 = .ok (.getfield 12, 3) := by decide +kernel
theorem dX6_barge_58 : decode cX6_barge 58 = .ok (.iload_n 1, 1) := by decide +kernel
theorem dX6_barge_59 : decode cX6_barge 59 = .ok (.invokevirtual 111, 3) := by decide +kernel
theorem dX6_barge_62 : decode cX6_barge 62 = .ok (.ireturn, 1) := by decide +kernel
theorem dX6_barge_63 : decode cX6_barge 63 = .ok (.aload_n 0, 1) := by decide +kernel
theorem dX6_barge_64 : decode cX6_barge 64 = .ok (.getfield 12, 3) := by decide +kernel
theorem dX6_barge_67 : decode cX6_barge 67 = .ok (.getfield 115, 3) := by decide +kernel
theorem dX6_barge_70 : decode cX6_barge 70 = .ok (.iload_n 1, 1) := by decide +kernel
theorem dX6_barge_71 : decode cX6_barge 71 = .ok (.iaload, 1) := by decide +kernel
theorem dX6_barge_72 : decode cX6_barge 72 = .ok (.ireturn, 1) := by decide +kernel
theorem dX6_barge_73 : decode cX6_barge 73 = .ok (.aload_n 0, 1) := by decide +kernel
theorem dX6_barge_74 : decode cX6_barge 74 = .ok (.getfield 12, 3) := by decide +kernel
theorem dX6_barge_77 : decode cX6_barge 77 = .ok (.getfield 118, 3) := by decide +kernel
theorem dX6_barge_80 : decode cX6_barge 80 = .ok (.iload_n 1, 1) := by decide +kernel
theorem dX6_barge_81 : decode cX6_barge 81 = .ok (.iaload, 1) := by decide +kernel
theorem dX6_barge_82 : decode cX6_barge 82 = .ok (.ireturn, 1) := by decide +kernel
theorem dX6_barge_83 : decode cX6_barge 83 = .ok (.bipush (-3), 2) := by decide +kernel
theorem dX6_barge_85 : decode cX6_barge 85 = .ok (.ireturn, 1) := by decide +kernel
theorem dX6_as_0 : decode cX6_as 0 = .ok (.aload_n 0, 1) := by decide +kernel
theorem dX6_as_1 : decode cX6_as 1 = .ok (.getfield 12, 3) := by decide +kernel
theorem dX6_as_4 : decode cX6_as 4 = .ok (.iload_n 1, 1) := by decide +kernel
theorem dX6_as_5 : decode cX6_as 5 = .ok (.invokevirtual 105, 3) := by decide +kernel
theorem dX6_as_8 : decode cX6_as 8 = .ok (.ifCond .ne 6, 3) := by decide +kernel
theorem dX6_as_11 : decode cX6_as 11 = .ok (.bipush (-2), 2) := by decide +kernel
theorem dX6_as_13 : decode cX6_as 13 = .ok (.ireturn, 1) := by decide +kernel
theorem dX6_as_14 : decode cX6_as 14 = .ok (.iload_n 2, 1) := by decide +kernel
theorem dX6_as_15 : decode cX6_as 15 = .ok (.ifCond .lt 8, 3) := by decide +kernel
theorem dX6_as_18 : decode cX6_as 18 = .ok (.iload_n 2, 1) := by decide +kernel
theorem dX6_as_19 : decode cX6_as 19 = .ok (.iconst 4, 1) := by decide +kernel
theorem dX6_as_20 : decode cX6_as 20 = .ok (.if_icmp .le 6, 3) := by decide +kernel
theorem dX6_as_23 : decode cX6_as 23 = .ok (.bipush (-3), 2) := by decide +kernel
theorem dX6_as_25 : decode cX6_as 25 = .ok (.ireturn, 1) := by decide +kernel
theorem dX6_as_26 : decode cX6_as 26 = .ok (.aload_n 0, 1) := by decide +kernel
theorem dX6_as_27 : decode cX6_as 27 = .ok (.getfield 12, 3) := by decide +kernel
theorem dX6_as_30 : decode cX6_as 30 = .ok (.getfield 115, 3) := by decide +kernel
theorem dX6_as_33 : decode cX6_as 33 = .ok (.iload_n 1, 1) := by decide +kernel
theorem dX6_as_34 : decode cX6_as 34 = .ok (.iaload, 1) := by decide +kernel
theorem dX6_as_35 : decode cX6_as 35 = .ok (.istore_n 3, 1) := by decide +kernel
theorem dX6_as_36 : decode cX6_as 36 = .ok (.iload_n 2, 1) := by decide +kernel
theorem dX6_as_37 : decode cX6_as 37 = .ok (.ifCond .eq 18, 3) := by decide +kernel
theorem dX6_as_40 : decode cX6_as 40 = .ok (.iload_n 3, 1) := by decide +kernel
theorem dX6_as_41 : decode cX6_as 41 = .ok (.iload_n 2, 1) := by decide +kernel
theorem dX6_as_42 : decode cX6_as 42 = .ok (.if_icmp .eq 13, 3) := by decide +kernel
theorem dX6_as_45 : decode cX6_as 45 = .ok (.iload_n 2, 1) := by decide +kernel
theorem dX6_as_46 : decode cX6_as 46 = .ok (.iconst 3, 1) := by decide +kernel
theorem dX6_as_47 : decode cX6_as 47 = .ok (.if_icmp .ne 12, 3) := by decide +kernel
theorem dX6_as_50 : decode cX6_as 50 = .ok (.iload_n 3, 1) := by decide +kernel
theorem dX6_as_51 : decode cX6_as 51 = .ok (.iconst 4, 1) := by decide +kernel
theorem dX6_as_52 : decode cX6_as 52 = .ok (.if_icmp .ne 7, 3) := by decide +kernel
theorem dX6_as_55 : decode cX6_as 55 = .ok (.iconst 1, 1) := by decide +kernel
theorem dX6_as_56 : decode cX6_as 56 = .ok (.goto 4, 3) := by decide +kernel
theorem dX6_as_59 : decode cX6_as 59 = .ok (.iconst 0, 1) := by decide +kernel
theorem dX6_as_60 : decode cX6_as 60 = .ok (.istore 4, 2) := by decide +kernel
theorem dX6_as_62 : decode cX6_as 62 = .ok (.iload 4, 2) := by decide +kernel
theorem dX6_as_64 : decode cX6_as 64 = .ok (.ifCond .eq 22, 3) := by decide +kernel
theorem dX6_as_67 : decode cX6_as 67 = .ok (.bipush 100, 2) := by decide +kernel
theorem dX6_as_69 : decode cX6_as 69 = .ok (.iload_n 3, 1) := by decide +kernel
theorem dX6_as_70 : decode cX6_as 70 = .ok (.iconst 0, 1) := by decide +kernel
theorem dX6_as_71 : decode cX6_as 71 = .ok (.iconst 1, 1) := by decide +kernel
theorem dX6_as_72 : decode cX6_as 72 = .ok (.invokestatic 121, 3) := by decide +kernel
theorem dX6_as_75 : decode cX6_as 75 = .ok (.imul, 1) := by decide +kernel
theorem dX6_as_76 : decode cX6_as 76 = .ok (.iload_n 3, 1) := by decide +kernel
theorem dX6_as_77 : decode cX6_as 77 = .ok (.iconst 2, 1) := by decide +kernel
theorem dX6_as_78 : decode cX6_as 78 = .ok (.iconst 1, 1) := by decide +kernel
theorem dX6_as_79 : decode cX6_as 79 = .ok (.invokestatic 121, 3) := by decide +kernel
theorem dX6_as_82 : decode cX6_as 82 = .ok (.iadd, 1) := by decide +kernel
theorem dX6_as_83 : decode cX6_as 83 = .ok (.goto 5, 3) := by decide +kernel
theorem dX6_as_86 : decode cX6_as 86 = .ok (.bipush (-4), 2) := by decide +kernel
theorem dX6_as_88 : decode cX6_as 88 = .ok (.ireturn, 1) := by decide +kernel
theorem dX6_yards_0 : decode cX6_yards 0 = .ok (.aload_n 0, 1) := by decide +kernel
theorem dX6_yards_1 : decode cX6_yards 1 = .ok (.getfield 12, 3) := by decide +kernel
theorem dX6_yards_4 : decode cX6_yards 4 = .ok (.iload_n 1, 1) := by decide +kernel
theorem dX6_yards_5 : decode cX6_yards 5 = .ok (.invokevirtual 105, 3) := by decide +kernel
theorem dX6_yards_8 : decode cX6_yards 8 = .ok (.ifCond .eq 29, 3) := by decide +kernel
theorem dX6_yards_11 : decode cX6_yards 11 = .ok (.aload_n 0, 1) := by decide +kernel
theorem dX6_yards_12 : decode cX6_yards 12 = .ok (.getfield 12, 3) := by decide +kernel
theorem dX6_yards_15 : decode cX6_yards 15 = .ok (.iload_n 2, 1) := by decide +kernel
theorem dX6_yards_16 : decode cX6_yards 16 = .ok (.invokevirtual 79, 3) := by decide +kernel
theorem dX6_yards_19 : decode cX6_yards 19 = .ok (.ifCond .eq 18, 3) := by decide +kernel
theorem dX6_yards_22 : decode cX6_yards 22 = .ok (.iload_n 3, 1) := by decide +kernel
theorem dX6_yards_23 : decode cX6_yards 23 = .ok (.invokestatic 93, 3) := by decide +kernel
theorem dX6_yards_26 : decode cX6_yards 26 = .ok (.ifCond .eq 11, 3) := by decide +kernel
theorem dX6_yards_29 : decode cX6_yards 29 = .ok (.iload 4, 2) := by decide +kernel
theorem dX6_yards_31 : decode cX6_yards 31 = .ok (.invokestatic 96, 3) := by decide +kernel
theorem dX6_yards_34 : decode cX6_yards 34 = .ok (.ifCond .ne 6, 3) := by decide +kernel
theorem dX6_yards_37 : decode cX6_yards 37 = .ok (.bipush (-2), 2) := by decide +kernel
theorem dX6_yards_39 : decode cX6_yards 39 = .ok (.ireturn, 1) := by decide +kernel
theorem dX6_yards_40 : decode cX6_yards 40 = .ok (.aload_n 0, 1) := by decide +kernel
theorem dX6_yards_41 : decode cX6_yards 41 = .ok (.getfield 12, 3) := by decide +kernel
theorem dX6_yards_44 : decode cX6_yards 44 = .ok (.iload_n 1, 1) := by decide +kernel
theorem dX6_yards_45 : decode cX6_yards 45 = .ok (.iload_n 2, 1) := by decide +kernel
theorem dX6_yards_46 : decode cX6_yards 46 = .ok (.iload_n 3, 1) := by decide +kernel
theorem dX6_yards_47 : decode cX6_yards 47 = .ok (.iload 4, 2) := by decide +kernel
theorem dX6_yards_49 : decode cX6_yards 49 = .ok (.invokevirtual 125, 3) := by decide +kernel
theorem dX6_yards_52 : decode cX6_yards 52 = .ok (.ireturn, 1) := by decide +kernel
theorem dX6_cord_0 : decode cX6_cord 0 = .ok (.aload_n 0, 1) := by decide +kernel
theorem dX6_cord_1 : decode cX6_cord 1 = .ok (.getfield 12, 3) := by decide +kernel
theorem dX6_cord_4 : decode cX6_cord 4 = .ok (.iload_n 1, 1) := by decide +kernel
theorem dX6_cord_5 : decode cX6_cord 5 = .ok (.invokevirtual 105, 3) := by decide +kernel
theorem dX6_cord_8 : decode cX6_cord 8 = .ok (.ifCond .ne 6, 3) := by decide +kernel
theorem dX6_cord_11 : decode cX6_cord 11 = .ok (.bipush (-2), 2) := by decide +kernel
theorem dX6_cord_13 : decode cX6_cord 13 = .ok (.ireturn, 1) := by decide +kernel
theorem dX6_cord_14 : decode cX6_cord 14 = .ok (.iload_n 2, 1) := by decide +kernel
theorem dX6_cord_15 : decode cX6_cord 15 = .ok (.invokestatic 93, 3) := by decide +kernel
theorem dX6_cord_18 : decode cX6_cord 18 = .ok (.ifCond .eq 28, 3) := by decide +kernel
theorem dX6_cord_21 : decode cX6_cord 21 = .ok (.iload_n 2, 1) := by decide +kernel
theorem dX6_cord_22 : decode cX6_cord 22 = .ok (.aload_n 0, 1) := by decide +kernel
theorem dX6_cord_23 : decode cX6_cord 23 = .ok (.getfield 26, 3) := by decide +kernel
theorem dX6_cord_26 : decode cX6_cord 26 = .ok (.getfield 129, 3) := by decide +kernel
theorem dX6_cord_29 : decode cX6_cord 29 = .ok (.iload_n 1, 1) := by decide +kernel
theorem dX6_cord_30 : decode cX6_cord 30 = .ok (.iaload, 1) := by decide +kernel
theorem dX6_cord_31 : decode cX6_cord 31 = .ok (.isub, 1) := by decide +kernel
theorem dX6_cord_32 : decode cX6_cord 32 = .ok (.invokestatic 132, 3) := by decide +kernel
theorem dX6_cord_35 : decode cX6_cord 35 = .ok (.aload_n 0, 1) := by decide +kernel
theorem dX6_cord_36 : decode cX6_cord 36 = .ok (.getfield 12, 3) := by decide +kernel
theorem dX6_cord_39 : decode cX6_cord 39 = .ok (.iload_n 1, 1) := by decide +kernel
theorem dX6_cord_40 : decode cX6_cord 40 = .ok (.invokevirtual 111, 3) := by decide +kernel
theorem dX6_cord_43 : decode cX6_cord 43 = .ok (.if_icmp .le 6, 3) := by decide +kernel
theorem dX6_cord_46 : decode cX6_cord 46 = .ok (.bipush (-3), 2) := by decide +kernel
theorem dX6_cord_48 : decode cX6_cord 48 = .ok (.ireturn, 1) := by decide +kernel
theorem dX6_cord_49 : decode cX6_cord 49 = .ok (.aload_n 0, 1) := by decide +kernel
theorem dX6_cord_50 : decode cX6_cord 50 = .ok (.getfield 26, 3) := by decide +kernel
theorem dX6_cord_53 : decode cX6_cord 53 = .ok (.getfield 137, 3) := by decide +kernel
theorem dX6_cord_56 : decode cX6_cord 56 = .ok (.iload_n 1, 1) := by decide +kernel
theorem dX6_cord_57 : decode cX6_cord 57 = .ok (.iaload, 1) := by decide +kernel
theorem dX6_cord_58 : decode cX6_cord 58 = .ok (.sipush 160, 3) := by decide +kernel
theorem dX6_cord_61 : decode cX6_cord 61 = .ok (.if_icmp .eq 15, 3) := by decide +kernel
theorem dX6_cord_64 : decode cX6_cord 64 = .ok (.aload_n 0, 1) := by decide +kernel
theorem dX6_cord_65 : decode cX6_cord 65 = .ok (.getfield 26, 3) := by decide +kernel
theorem dX6_cord_68 : decode cX6_cord 68 = .ok (.getfield 140, 3) := by decide +kernel
theorem dX6_cord_71 : decode cX6_cord 71 = .ok (.bipush 24, 2) := by decide +kernel
theorem dX6_cord_73 : decode cX6_cord 73 = .ok (.if_icmp .lt 6, 3) := by decide +kernel
theorem dX6_cord_76 : decode cX6_cord 76 = .ok (.bipush (-4), 2) := by decide +kernel
theorem dX6_cord_78 : decode cX6_cord 78 = .ok (.ireturn, 1) := by decide +kernel
theorem dX6_cord_79 : decode cX6_cord 79 = .ok (.aload_n 0, 1) := by decide +kernel
theorem dX6_cord_80 : decode cX6_cord 80 = .ok (.getfield 26, 3) := by decide +kernel
theorem dX6_cord_83 : decode cX6_cord 83 = .ok (.iload_n 1, 1) := by decide +kernel
theorem dX6_cord_84 : decode cX6_cord 84 = .ok (.iload_n 2, 1) := by decide +kernel
theorem dX6_cord_85 : decode cX6_cord 85 = .ok (.invokevirtual 143, 3) := by decide +kernel
theorem dX6_cord_88 : decode cX6_cord 88 = .ok (.ireturn, 1) := by decide +kernel
theorem dX6_go_0 : decode cX6_go 0 = .ok (.iload_n 1, 1) := by decide +kernel
theorem dX6_go_1 : decode cX6_go 1 = .ok (.iconst 1, 1) := by decide +kernel
theorem dX6_go_2 : decode cX6_go 2 = .ok (.if_icmp .lt 9, 3) := by decide +kernel
theorem dX6_go_5 : decode cX6_go 5 = .ok (.iload_n 1, 1) := by decide +kernel
theorem dX6_go_6 : decode cX6_go 6 = .ok (.bipush 24, 2) := by decide +kernel
theorem dX6_go_8 : decode cX6_go 8 = .ok (.if_icmp .le 6, 3) := by decide +kernel
theorem dX6_go_11 : decode cX6_go 11 = .ok (.bipush (-3), 2) := by decide +kernel
theorem dX6_go_13 : decode cX6_go 13 = .ok (.ireturn, 1) := by decide +kernel
theorem dX6_go_14 : decode cX6_go 14 = .ok (.bipush 24, 2) := by decide +kernel
theorem dX6_go_16 : decode cX6_go 16 = .ok (.aload_n 0, 1) := by decide +kernel
theorem dX6_go_17 : decode cX6_go 17 = .ok (.getfield 26, 3) := by decide +kernel
theorem dX6_go_20 : decode cX6_go 20 = .ok (.getfield 140, 3) := by decide +kernel
theorem dX6_go_23 : decode cX6_go 23 = .ok (.iload_n 1, 1) := by decide +kernel
theorem dX6_go_24 : decode cX6_go 24 = .ok (.iadd, 1) := by decide +kernel
theorem dX6_go_25 : decode cX6_go 25 = .ok (.invokestatic 147, 3) := by decide +kernel
theorem dX6_go_28 : decode cX6_go 28 = .ok (.istore_n 2, 1) := by decide +kernel
theorem dX6_go_29 : decode cX6_go 29 = .ok (.aload_n 0, 1) := by decide +kernel
theorem dX6_go_30 : decode cX6_go 30 = .ok (.getfield 26, 3) := by decide +kernel
theorem dX6_go_33 : decode cX6_go 33 = .ok (.getfield 140, 3) := by decide +kernel
theorem dX6_go_36 : decode cX6_go 36 = .ok (.istore_n 3, 1) := by decide +kernel
theorem dX6_go_37 : decode cX6_go 37 = .ok (.iload_n 3, 1) := by decide +kernel
theorem dX6_go_38 : decode cX6_go 38 = .ok (.iload_n 2, 1) := by decide +kernel
theorem dX6_go_39 : decode cX6_go 39 = .ok (.if_icmp .ge 21, 3) := by decide +kernel
theorem dX6_go_42 : decode cX6_go 42 = .ok (.aload_n 0, 1) := by decide +kernel
theorem dX6_go_43 : decode cX6_go 43 = .ok (.getfield 26, 3) := by decide +kernel
theorem dX6_go_46 : decode cX6_go 46 = .ok (.aload_n 0, 1) := by decide +kernel
theorem dX6_go_47 : decode cX6_go 47 = .ok (.getfield 12, 3) := by decide +kernel
theorem dX6_go_50 : decode cX6_go 50 = .ok (.iload_n 3, 1) := by decide +kernel
theorem dX6_go_51 : decode cX6_go 51 = .ok (.invokevirtual 150, 3) := by decide +kernel
theorem dX6_go_54 : decode cX6_go 54 = .ok (.iinc 3 1, 3) := by decide +kernel
theorem dX6_go_57 : decode cX6_go 57 = .ok (.goto (-20), 3) := by decide +kernel
theorem dX6_go_60 : decode cX6_go 60 = .ok (.aload_n 0, 1) := by decide +kernel
theorem dX6_go_61 : decode cX6_go 61 = .ok (.getfield 26, 3) := by decide +kernel
theorem dX6_go_64 : decode cX6_go 64 = .ok (.getfield 140, 3) := by decide +kernel
theorem dX6_go_67 : decode cX6_go 67 = .ok (.ireturn, 1) := by decide +kernel
theorem dX6_at_0 : decode cX6_at 0 = .ok (.aload_n 0, 1) := by decide +kernel
theorem dX6_at_1 : decode cX6_at 1 = .ok (.getfield 12, 3) := by decide +kernel
theorem dX6_at_4 : decode cX6_at 4 = .ok (.iload_n 1, 1) := by decide +kernel
theorem dX6_at_5 : decode cX6_at 5 = .ok (.invokevirtual 105, 3) := by decide +kernel
theorem dX6_at_8 : decode cX6_at 8 = .ok (.ifCond .ne 6, 3) := by decide +kernel
theorem dX6_at_11 : decode cX6_at 11 = .ok (.bipush (-2), 2) := by decide +kernel
theorem dX6_at_13 : decode cX6_at 13 = .ok (.ireturn, 1) := by decide +kernel
theorem dX6_at_14 : decode cX6_at 14 = .ok (.aload_n 0, 1) := by decide +kernel
theorem dX6_at_15 : decode cX6_at 15 = .ok (.getfield 26, 3) := by decide +kernel
theorem dX6_at_18 : decode cX6_at 18 = .ok (.getfield 137, 3) := by decide +kernel
theorem dX6_at_21 : decode cX6_at 21 = .ok (.iload_n 1, 1) := by decide +kernel
theorem dX6_at_22 : decode cX6_at 22 = .ok (.iaload, 1) := by decide +kernel
theorem dX6_at_23 : decode cX6_at 23 = .ok (.istore_n 3, 1) := by decide +kernel
theorem dX6_at_24 : decode cX6_at 24 = .ok (.iload_n 2, 1) := by decide +kernel
theorem dX6_at_25 : decode cX6_at 25 = .ok (.tableswitch 86 0 4 #[35, 51, 56, 66, 76], 35) := by decide +kernel
theorem dX6_at_60 : decode cX6_at 60 = .ok (.iload_n 3, 1) := by decide +kernel
theorem dX6_at_61 : decode cX6_at 61 = .ok (.sipush 160, 3) := by decide +kernel
theorem dX6_at_64 : decode cX6_at 64 = .ok (.if_icmp .ne 7, 3) := by decide +kernel
theorem dX6_at_67 : decode cX6_at 67 = .ok (.iconst (-1), 1) := by decide +kernel
theorem dX6_at_68 : decode cX6_at 68 = .ok (.goto 7, 3) := by decide +kernel
theorem dX6_at_71 : decode cX6_at 71 = .ok (.iload_n 3, 1) := by decide +kernel
theorem dX6_at_72 : decode cX6_at 72 = .ok (.bipush 20, 2) := by decide +kernel
theorem dX6_at_74 : decode cX6_at 74 = .ok (.idiv, 1) := by decide +kernel
theorem dX6_at_75 : decode cX6_at 75 = .ok (.ireturn, 1) := by decide +kernel
theorem dX6_at_76 : decode cX6_at 76 = .ok (.iload_n 3, 1) := by decide +kernel
theorem dX6_at_77 : decode cX6_at 77 = .ok (.bipush 20, 2) := by decide +kernel
theorem dX6_at_79 : decode cX6_at 79 = .ok (.irem, 1) := by decide +kernel
theorem dX6_at_80 : decode cX6_at 80 = .ok (.ireturn, 1) := by decide +kernel
theorem dX6_at_81 : decode cX6_at 81 = .ok (.aload_n 0, 1) := by decide +kernel
theorem dX6_at_82 : decode cX6_at 82 = .ok (.getfield 26, 3) := by decide +kernel
theorem dX6_at_85 : decode cX6_at 85 = .ok (.getfield 154, 3) := by decide +kernel
theorem dX6_at_88 : decode cX6_at 88 = .ok (.iload_n 1, 1) := by decide +kernel
theorem dX6_at_89 : decode cX6_at 89 = .ok (.iaload, 1) := by decide +kernel
theorem dX6_at_90 : decode cX6_at 90 = .ok (.ireturn, 1) := by decide +kernel
theorem dX6_at_91 : decode cX6_at 91 = .ok (.aload_n 0, 1) := by decide +kernel
theorem dX6_at_92 : decode cX6_at 92 = .ok (.getfield 26, 3) := by decide +kernel
theorem dX6_at_95 : decode cX6_at 95 = .ok (.getfield 157, 3) := by decide +kernel
theorem dX6_at_98 : decode cX6_at 98 = .ok (.iload_n 1, 1) := by decide +kernel
theorem dX6_at_99 : decode cX6_at 99 = .ok (.iaload, 1) := by decide +kernel
theorem dX6_at_100 : decode cX6_at 100 = .ok (.ireturn, 1) := by decide +kernel
theorem dX6_at_101 : decode cX6_at 101 = .ok (.aload_n 0, 1) := by decide +kernel
theorem dX6_at_102 : decode cX6_at 102 = .ok (.getfield 26, 3) := by decide +kernel
theorem dX6_at_105 : decode cX6_at 105 = .ok (.getfield 160, 3) := by decide +kernel
theorem dX6_at_108 : decode cX6_at 108 = .ok (.iload_n 1, 1) := by decide +kernel
theorem dX6_at_109 : decode cX6_at 109 = .ok (.iaload, 1) := by decide +kernel
theorem dX6_at_110 : decode cX6_at 110 = .ok (.ireturn, 1) := by decide +kernel
theorem dX6_at_111 : decode cX6_at 111 = .ok (.bipush (-3), 2) := by decide +kernel
theorem dX6_at_113 : decode cX6_at 113 = .ok (.ireturn, 1) := by decide +kernel
theorem dX6_knots_0 : decode cX6_knots 0 = .ok (.aload_n 0, 1) := by decide +kernel
theorem dX6_knots_1 : decode cX6_knots 1 = .ok (.getfield 12, 3) := by decide +kernel
theorem dX6_knots_4 : decode cX6_knots 4 = .ok (.iload_n 1, 1) := by decide +kernel
theorem dX6_knots_5 : decode cX6_knots 5 = .ok (.invokevirtual 105, 3) := by decide +kernel
theorem dX6_knots_8 : decode cX6_knots 8 = .ok (.ifCond .ne 6, 3) := by decide +kernel
theorem dX6_knots_11 : decode cX6_knots 11 = .ok (.bipush (-2), 2) := by decide +kernel
theorem dX6_knots_13 : decode cX6_knots 13 = .ok (.ireturn, 1) := by decide +kernel
theorem dX6_knots_14 : decode cX6_knots 14 = .ok (.iconst 0, 1) := by decide +kernel
theorem dX6_knots_15 : decode cX6_knots 15 = .ok (.istore_n 2, 1) := by decide +kernel
theorem dX6_knots_16 : decode cX6_knots 16 = .ok (.iconst 0, 1) := by decide +kernel
theorem dX6_knots_17 : decode cX6_knots 17 = .ok (.istore_n 3, 1) := by decide +kernel
theorem dX6_knots_18 : decode cX6_knots 18 = .ok (.iload_n 3, 1) := by decide +kernel
theorem dX6_knots_19 : decode cX6_knots 19 = .ok (.iconst 4, 1) := by decide +kernel
theorem dX6_knots_20 : decode cX6_knots 20 = .ok (.if_icmp .ge 44, 3) := by decide +kernel
theorem dX6_knots_23 : decode cX6_knots 23 = .ok (.iload_n 3, 1) := by decide +kernel
theorem dX6_knots_24 : decode cX6_knots 24 = .ok (.iload_n 1, 1) := by decide +kernel
theorem dX6_knots_25 : decode cX6_knots 25 = .ok (.if_icmp .eq 33, 3) := by decide +kernel
theorem dX6_knots_28 : decode cX6_knots 28 = .ok (.aload_n 0, 1) := by decide +kernel
theorem dX6_knots_29 : decode cX6_knots 29 = .ok (.getfield 12, 3) := by decide +kernel
theorem dX6_knots_32 : decode cX6_knots 32 = .ok (.getfield 163, 3) := by decide +kernel
theorem dX6_knots_35 : decode cX6_knots 35 = .ok (.iload_n 3, 1) := by decide +kernel
theorem dX6_knots_36 : decode cX6_knots 36 = .ok (.baload, 1) := by decide +kernel
theorem dX6_knots_37 : decode cX6_knots 37 = .ok (.ifCond .eq 21, 3) := by decide +kernel
theorem dX6_knots_40 : decode cX6_knots 40 = .ok (.aload_n 0, 1) := by decide +kernel
theorem dX6_knots_41 : decode cX6_knots 41 = .ok (.getfield 26, 3) := by decide +kernel
theorem dX6_knots_44 : decode cX6_knots 44 = .ok (.iload_n 1, 1) := by decide +kernel
theorem dX6_knots_45 : decode cX6_knots 45 = .ok (.iload_n 3, 1) := by decide +kernel
theorem dX6_knots_46 : decode cX6_knots 46 = .ok (.invokevirtual 166, 3) := by decide +kernel
theorem dX6_knots_49 : decode cX6_knots 49 = .ok (.ifCond .eq 9, 3) := by decide +kernel
theorem dX6_knots_52 : decode cX6_knots 52 = .ok (.iload_n 2, 1) := by decide +kernel
theorem dX6_knots_53 : decode cX6_knots 53 = .ok (.iconst 1, 1) := by decide +kernel
theorem dX6_knots_54 : decode cX6_knots 54 = .ok (.iload_n 3, 1) := by decide +kernel
theorem dX6_knots_55 : decode cX6_knots 55 = .ok (.ishl, 1) := by decide +kernel
theorem dX6_knots_56 : decode cX6_knots 56 = .ok (.ior, 1) := by decide +kernel
theorem dX6_knots_57 : decode cX6_knots 57 = .ok (.istore_n 2, 1) := by decide +kernel
theorem dX6_knots_58 : decode cX6_knots 58 = .ok (.iinc 3 1, 3) := by decide +kernel
theorem dX6_knots_61 : decode cX6_knots 61 = .ok (.goto (-43), 3) := by decide +kernel
theorem dX6_knots_64 : decode cX6_knots 64 = .ok (.iload_n 2, 1) := by decide +kernel
theorem dX6_knots_65 : decode cX6_knots 65 = .ok (.ireturn, 1) := by decide +kernel
theorem dX6_keep_0 : decode cX6_keep 0 = .ok (.iload_n 1, 1) := by decide +kernel
theorem dX6_keep_1 : decode cX6_keep 1 = .ok (.ifCond .lt 8, 3) := by decide +kernel
theorem dX6_keep_4 : decode cX6_keep 4 = .ok (.iload_n 1, 1) := by decide +kernel
theorem dX6_keep_5 : decode cX6_keep 5 = .ok (.iconst 2, 1) := by decide +kernel
theorem dX6_keep_6 : decode cX6_keep 6 = .ok (.if_icmp .lt 6, 3) := by decide +kernel
theorem dX6_keep_9 : decode cX6_keep 9 = .ok (.bipush (-2), 2) := by decide +kernel
theorem dX6_keep_11 : decode cX6_keep 11 = .ok (.ireturn, 1) := by decide +kernel
theorem dX6_keep_12 : decode cX6_keep 12 = .ok (.aload_n 0, 1) := by decide +kernel
theorem dX6_keep_13 : decode cX6_keep 13 = .ok (.getfield 30, 3) := by decide +kernel
theorem dX6_keep_16 : decode cX6_keep 16 = .ok (.iload_n 1, 1) := by decide +kernel
theorem dX6_keep_17 : decode cX6_keep 17 = .ok (.aaload, 1) := by decide +kernel
theorem dX6_keep_18 : decode cX6_keep 18 = .ok (.aload_n 0, 1) := by decide +kernel
theorem dX6_keep_19 : decode cX6_keep 19 = .ok (.getfield 26, 3) := by decide +kernel
theorem dX6_keep_22 : decode cX6_keep 22 = .ok (.invokevirtual 170, 3) := by decide +kernel
theorem dX6_keep_25 : decode cX6_keep 25 = .ok (.aload_n 0, 1) := by decide +kernel
theorem dX6_keep_26 : decode cX6_keep 26 = .ok (.getfield 34, 3) := by decide +kernel
theorem dX6_keep_29 : decode cX6_keep 29 = .ok (.iload_n 1, 1) := by decide +kernel
theorem dX6_keep_30 : decode cX6_keep 30 = .ok (.iconst 1, 1) := by decide +kernel
theorem dX6_keep_31 : decode cX6_keep 31 = .ok (.bastore, 1) := by decide +kernel
theorem dX6_keep_32 : decode cX6_keep 32 = .ok (.aload_n 0, 1) := by decide +kernel
theorem dX6_keep_33 : decode cX6_keep 33 = .ok (.getfield 26, 3) := by decide +kernel
theorem dX6_keep_36 : decode cX6_keep 36 = .ok (.getfield 140, 3) := by decide +kernel
theorem dX6_keep_39 : decode cX6_keep 39 = .ok (.ireturn, 1) := by decide +kernel
theorem dX6_back_0 : decode cX6_back 0 = .ok (.iload_n 1, 1) := by decide +kernel
theorem dX6_back_1 : decode cX6_back 1 = .ok (.ifCond .lt 8, 3) := by decide +kernel
theorem dX6_back_4 : decode cX6_back 4 = .ok (.iload_n 1, 1) := by decide +kernel
theorem dX6_back_5 : decode cX6_back 5 = .ok (.iconst 2, 1) := by decide +kernel
theorem dX6_back_6 : decode cX6_back 6 = .ok (.if_icmp .lt 6, 3) := by decide +kernel
theorem dX6_back_9 : decode cX6_back 9 = .ok (.bipush (-2), 2) := by decide +kernel
theorem dX6_back_11 : decode cX6_back 11 = .ok (.ireturn, 1) := by decide +kernel
theorem dX6_back_12 : decode cX6_back 12 = .ok (.aload_n 0, 1) := by decide +kernel
theorem dX6_back_13 : decode cX6_back 13 = .ok (.getfield 34, 3) := by decide +kernel
theorem dX6_back_16 : decode cX6_back 16 = .ok (.iload_n 1, 1) := by decide +kernel
theorem dX6_back_17 : decode cX6_back 17 = .ok (.baload, 1) := by decide +kernel
theorem dX6_back_18 : decode cX6_back 18 = .ok (.ifCond .ne 6, 3) := by decide +kernel
theorem dX6_back_21 : decode cX6_back 21 = .ok (.bipush (-4), 2) := by decide +kernel
theorem dX6_back_23 : decode cX6_back 23 = .ok (.ireturn, 1) := by decide +kernel
theorem dX6_back_24 : decode cX6_back 24 = .ok (.aload_n 0, 1) := by decide +kernel
theorem dX6_back_25 : decode cX6_back 25 = .ok (.getfield 26, 3) := by decide +kernel
theorem dX6_back_28 : decode cX6_back 28 = .ok (.aload_n 0, 1) := by decide +kernel
theorem dX6_back_29 : decode cX6_back 29 = .ok (.getfield 30, 3) := by decide +kernel
theorem dX6_back_32 : decode cX6_back 32 = .ok (.iload_n 1, 1) := by decide +kernel
theorem dX6_back_33 : decode cX6_back 33 = .ok (.aaload, 1) := by decide +kernel
theorem dX6_back_34 : decode cX6_back 34 = .ok (.invokevirtual 170, 3) := by decide +kernel
theorem dX6_back_37 : decode cX6_back 37 = .ok (.aload_n 0, 1) := by decide +kernel
theorem dX6_back_38 : decode cX6_back 38 = .ok (.getfield 26, 3) := by decide +kernel
theorem dX6_back_41 : decode cX6_back 41 = .ok (.getfield 140, 3) := by decide +kernel
theorem dX6_back_44 : decode cX6_back 44 = .ok (.ireturn, 1) := by decide +kernel
theorem dX6_soonest_0 : decode cX6_soonest 0 = .ok (.aload_n 0, 1) := by decide +kernel
theorem dX6_soonest_1 : decode cX6_soonest 1 = .ok (.getfield 12, 3) := by decide +kernel
theorem dX6_soonest_4 : decode cX6_soonest 4 = .ok (.iload_n 1, 1) := by decide +kernel
theorem dX6_soonest_5 : decode cX6_soonest 5 = .ok (.invokevirtual 105, 3) := by decide +kernel
theorem dX6_soonest_8 : decode cX6_soonest 8 = .ok (.ifCond .eq 10, 3) := by decide +kernel
theorem dX6_soonest_11 : decode cX6_soonest 11 = .ok (.iload_n 2, 1) := by decide +kernel
theorem dX6_soonest_12 : decode cX6_soonest 12 = .ok (.invokestatic 96, 3) := by decide +kernel
theorem dX6_soonest_15 : decode cX6_soonest 15 = .ok (.ifCond .ne 6, 3) := by decide +kernel
theorem dX6_soonest_18 : decode cX6_soonest 18 = .ok (.bipush (-2), 2) := by decide +kernel
theorem dX6_soonest_20 : decode cX6_soonest 20 = .ok (.ireturn, 1) := by decide +kernel
theorem dX6_soonest_21 : decode cX6_soonest 21 = .ok (.iload_n 3, 1) := by decide +kernel
theorem dX6_soonest_22 : decode cX6_soonest 22 = .ok (.bipush (-2), 2) := by decide +kernel
theorem dX6_soonest_24 : decode cX6_soonest 24 = .ok (.if_icmp .ge 6, 3) := by decide +kernel
theorem dX6_soonest_27 : decode cX6_soonest 27 = .ok (.bipush (-3), 2) := by decide +kernel
theorem dX6_soonest_29 : decode cX6_soonest 29 = .ok (.ireturn, 1) := by decide +kernel
theorem dX6_soonest_30 : decode cX6_soonest 30 = .ok (.aload_n 0, 1) := by decide +kernel
theorem dX6_soonest_31 : decode cX6_soonest 31 = .ok (.getfield 43, 3) := by decide +kernel
theorem dX6_soonest_34 : decode cX6_soonest 34 = .ok (.aload_n 0, 1) := by decide +kernel
theorem dX6_soonest_35 : decode cX6_soonest 35 = .ok (.getfield 43, 3) := by decide +kernel
theorem dX6_soonest_38 : decode cX6_soonest 38 = .ok (.iload_n 1, 1) := by decide +kernel
theorem dX6_soonest_39 : decode cX6_soonest 39 = .ok (.iload_n 2, 1) := by decide +kernel
theorem dX6_soonest_40 : decode cX6_soonest 40 = .ok (.invokevirtual 174, 3) := by decide +kernel
theorem dX6_soonest_43 : decode cX6_soonest 43 = .ok (.iload_n 3, 1) := by decide +kernel
theorem dX6_soonest_44 : decode cX6_soonest 44 = .ok (.invokevirtual 177, 3) := by decide +kernel
theorem dX6_soonest_47 : decode cX6_soonest 47 = .ok (.ireturn, 1) := by decide +kernel
theorem dX6_clear_0 : decode cX6_clear 0 = .ok (.aload_n 0, 1) := by decide +kernel
theorem dX6_clear_1 : decode cX6_clear 1 = .ok (.getfield 12, 3) := by decide +kernel
theorem dX6_clear_4 : decode cX6_clear 4 = .ok (.iload_n 1, 1) := by decide +kernel
theorem dX6_clear_5 : decode cX6_clear 5 = .ok (.invokevirtual 105, 3) := by decide +kernel
theorem dX6_clear_8 : decode cX6_clear 8 = .ok (.ifCond .eq 14, 3) := by decide +kernel
theorem dX6_clear_11 : decode cX6_clear 11 = .ok (.aload_n 0, 1) := by decide +kernel
theorem dX6_clear_12 : decode cX6_clear 12 = .ok (.getfield 12, 3) := by decide +kernel
theorem dX6_clear_15 : decode cX6_clear 15 = .ok (.iload_n 2, 1) := by decide +kernel
theorem dX6_clear_16 : decode cX6_clear 16 = .ok (.invokevirtual 105, 3) := by decide +kernel
theorem dX6_clear_19 : decode cX6_clear 19 = .ok (.ifCond .ne 6, 3) := by decide +kernel
theorem dX6_clear_22 : decode cX6_clear 22 = .ok (.bipush (-2), 2) := by decide +kernel
theorem dX6_clear_24 : decode cX6_clear 24 = .ok (.ireturn, 1) := by decide +kernel
theorem dX6_clear_25 : decode cX6_clear 25 = .ok (.iload_n 1, 1) := by decide +kernel
theorem dX6_clear_26 : decode cX6_clear 26 = .ok (.iload_n 2, 1) := by decide +kernel
theorem dX6_clear_27 : decode cX6_clear 27 = .ok (.if_icmp .eq 9, 3) := by decide +kernel
theorem dX6_clear_30 : decode cX6_clear 30 = .ok (.iload_n 3, 1) := by decide +kernel
theorem dX6_clear_31 : decode cX6_clear 31 = .ok (.bipush (-2), 2) := by decide +kernel
theorem dX6_clear_33 : decode cX6_clear 33 = .ok (.if_icmp .ge 6, 3) := by decide +kernel
theorem dX6_clear_36 : decode cX6_clear 36 = .ok (.bipush (-3), 2) := by decide +kernel
theorem dX6_clear_38 : decode cX6_clear 38 = .ok (.ireturn, 1) := by decide +kernel
theorem dX6_clear_39 : decode cX6_clear 39 = .ok (.aload_n 0, 1) := by decide +kernel
theorem dX6_clear_40 : decode cX6_clear 40 = .ok (.getfield 43, 3) := by decide +kernel
theorem dX6_clear_43 : decode cX6_clear 43 = .ok (.iload_n 2, 1) := by decide +kernel
theorem dX6_clear_44 : decode cX6_clear 44 = .ok (.iconst 0, 1) := by decide +kernel
theorem dX6_clear_45 : decode cX6_clear 45 = .ok (.invokevirtual 174, 3) := by decide +kernel
theorem dX6_clear_48 : decode cX6_clear 48 = .ok (.istore 4, 2) := by decide +kernel
theorem dX6_clear_50 : decode cX6_clear 50 = .ok (.aload_n 0, 1) := by decide +kernel
theorem dX6_clear_51 : decode cX6_clear 51 = .ok (.getfield 43, 3) := by decide +kernel
theorem dX6_clear_54 : decode cX6_clear 54 = .ok (.getfield 180, 3) := by decide +kernel
theorem dX6_clear_57 : decode cX6_clear 57 = .ok (.iload 4, 2) := by decide +kernel
theorem dX6_clear_59 : decode cX6_clear 59 = .ok (.iaload, 1) := by decide +kernel
theorem dX6_clear_60 : decode cX6_clear 60 = .ok (.iconst (-1), 1) := by decide +kernel
theorem dX6_clear_61 : decode cX6_clear 61 = .ok (.if_icmp .ne 6, 3) := by decide +kernel
theorem dX6_clear_64 : decode cX6_clear 64 = .ok (.bipush (-4), 2) := by decide +kernel
theorem dX6_clear_66 : decode cX6_clear 66 = .ok (.ireturn, 1) := by decide +kernel
theorem dX6_clear_67 : decode cX6_clear 67 = .ok (.aload_n 0, 1) := by decide +kernel
theorem dX6_clear_68 : decode cX6_clear 68 = .ok (.getfield 43, 3) := by decide +kernel
theorem dX6_clear_71 : decode cX6_clear 71 = .ok (.aload_n 0, 1) := by decide +kernel
theorem dX6_clear_72 : decode cX6_clear 72 = .ok (.getfield 43, 3) := by decide +kernel
theorem dX6_clear_75 : decode cX6_clear 75 = .ok (.iload_n 1, 1) := by decide +kernel
theorem dX6_clear_76 : decode cX6_clear 76 = .ok (.iload_n 2, 1) := by decide +kernel
theorem dX6_clear_77 : decode cX6_clear 77 = .ok (.iload 4, 2) := by decide +kernel
theorem dX6_clear_79 : decode cX6_clear 79 = .ok (.invokevirtual 183, 3) := by decide +kernel
theorem dX6_clear_82 : decode cX6_clear 82 = .ok (.iload_n 3, 1) := by decide +kernel
theorem dX6_clear_83 : decode cX6_clear 83 = .ok (.invokevirtual 177, 3) := by decide +kernel
theorem dX6_clear_86 : decode cX6_clear 86 = .ok (.ireturn, 1) := by decide +kernel
theorem dX6_odds_0 : decode cX6_odds 0 = .ok (.aload_n 0, 1) := by decide +kernel
theorem dX6_odds_1 : decode cX6_odds 1 = .ok (.iload_n 1, 1) := by decide +kernel
theorem dX6_odds_2 : decode cX6_odds 2 = .ok (.iload_n 2, 1) := by decide +kernel
theorem dX6_odds_3 : decode cX6_odds 3 = .ok (.iload_n 3, 1) := by decide +kernel
theorem dX6_odds_4 : decode cX6_odds 4 = .ok (.iload 4, 2) := by decide +kernel
theorem dX6_odds_6 : decode cX6_odds 6 = .ok (.bipush 8, 2) := by decide +kernel
theorem dX6_odds_8 : decode cX6_odds 8 = .ok (.invokevirtual 186, 3) := by decide +kernel
theorem dX6_odds_11 : decode cX6_odds 11 = .ok (.istore 5, 2) := by decide +kernel
theorem dX6_odds_13 : decode cX6_odds 13 = .ok (.iload 5, 2) := by decide +kernel
theorem dX6_odds_15 : decode cX6_odds 15 = .ok (.ifCond .eq 7, 3) := by decide +kernel
theorem dX6_odds_18 : decode cX6_odds 18 = .ok (.iload 5, 2) := by decide +kernel
theorem dX6_odds_20 : decode cX6_odds 20 = .ok (.i2l, 1) := by decide +kernel
theorem dX6_odds_21 : decode cX6_odds 21 = .ok (.lreturn, 1) := by decide +kernel
theorem dX6_odds_22 : decode cX6_odds 22 = .ok (.aload_n 0, 1) := by decide +kernel
theorem dX6_odds_23 : decode cX6_odds 23 = .ok (.getfield 43, 3) := by decide +kernel
theorem dX6_odds_26 : decode cX6_odds 26 = .ok (.iload_n 1, 1) := by decide +kernel
theorem dX6_odds_27 : decode cX6_odds 27 = .ok (.iconst 0, 1) := by decide +kernel
theorem dX6_odds_28 : decode cX6_odds 28 = .ok (.invokevirtual 174, 3) := by decide +kernel
theorem dX6_odds_31 : decode cX6_odds 31 = .ok (.istore 6, 2) := by decide +kernel
theorem dX6_odds_33 : decode cX6_odds 33 = .ok (.aload_n 0, 1) := by decide +kernel
theorem dX6_odds_34 : decode cX6_odds 34 = .ok (.getfield 43, 3) := by decide +kernel
theorem dX6_odds_37 : decode cX6_odds 37 = .ok (.getfield 180, 3) := by decide +kernel
theorem dX6_odds_40 : decode cX6_odds 40 = .ok (.iload 6, 2) := by decide +kernel
theorem dX6_odds_42 : decode cX6_odds 42 = .ok (.iaload, 1) := by decide +kernel
theorem dX6_odds_43 : decode cX6_odds 43 = .ok (.iconst (-1), 1) := by decide +kernel
theorem dX6_odds_44 : decode cX6_odds 44 = .ok (.if_icmp .ne 7, 3) := by decide +kernel
theorem dX6_odds_47 : decode cX6_odds 47 = .ok (.ldc2_w 190, 3) := by decide +kernel
theorem dX6_odds_50 : decode cX6_odds 50 = .ok (.lreturn, 1) := by decide +kernel
theorem dX6_odds_51 : decode cX6_odds 51 = .ok (.aload_n 0, 1) := by decide +kernel
theorem dX6_odds_52 : decode cX6_odds 52 = .ok (.getfield 50, 3) := by decide +kernel
theorem dX6_odds_55 : decode cX6_odds 55 = .ok (.iload_n 2, 1) := by decide +kernel
theorem dX6_odds_56 : decode cX6_odds 56 = .ok (.iload_n 3, 1) := by decide +kernel
theorem dX6_odds_57 : decode cX6_odds 57 = .ok (.invokevirtual 192, 3) := by decide +kernel
theorem dX6_odds_60 : decode cX6_odds 60 = .ok (.iconst 0, 1) := by decide +kernel
theorem dX6_odds_61 : decode cX6_odds 61 = .ok (.istore 7, 2) := by decide +kernel
theorem dX6_odds_63 : decode cX6_odds 63 = .ok (.iload 7, 2) := by decide +kernel
theorem dX6_odds_65 : decode cX6_odds 65 = .ok (.iload_n 2, 1) := by decide +kernel
theorem dX6_odds_66 : decode cX6_odds 66 = .ok (.if_icmp .ge 30, 3) := by decide +kernel
theorem dX6_odds_69 : decode cX6_odds 69 = .ok (.aload_n 0, 1) := by decide +kernel
theorem dX6_odds_70 : decode cX6_odds 70 = .ok (.getfield 50, 3) := by decide +kernel
theorem dX6_odds_73 : decode cX6_odds 73 = .ok (.iload_n 1, 1) := by decide +kernel
theorem dX6_odds_74 : decode cX6_odds 74 = .ok (.iload 7, 2) := by decide +kernel
theorem dX6_odds_76 : decode cX6_odds 76 = .ok (.aload_n 0, 1) := by decide +kernel
theorem dX6_odds_77 : decode cX6_odds 77 = .ok (.getfield 43, 3) := by decide +kernel
theorem dX6_odds_80 : decode cX6_odds 80 = .ok (.iload 6, 2) := by decide +kernel
theorem dX6_odds_82 : decode cX6_odds 82 = .ok (.iload 7, 2) := by decide +kernel
theorem dX6_odds_84 : decode cX6_odds 84 = .ok (.invokevirtual 196, 3) := by decide +kernel
theorem dX6_odds_87 : decode cX6_odds 87 = .ok (.invokevirtual 199, 3) := by decide +kernel
theorem dX6_odds_90 : decode cX6_odds 90 = .ok (.iinc 7 1, 3) := by decide +kernel
theorem dX6_odds_93 : decode cX6_odds 93 = .ok (.goto (-30), 3) := by decide +kernel
theorem dX6_odds_96 : decode cX6_odds 96 = .ok (.aload_n 0, 1) := by decide +kernel
theorem dX6_odds_97 : decode cX6_odds 97 = .ok (.getfield 50, 3) := by decide +kernel
theorem dX6_odds_100 : decode cX6_odds 100 = .ok (.iload_n 2, 1) := by decide +kernel
theorem dX6_odds_101 : decode cX6_odds 101 = .ok (.invokevirtual 203, 3) := by decide +kernel
theorem dX6_odds_104 : decode cX6_odds 104 = .ok (.iload_n 2, 1) := by decide +kernel
theorem dX6_odds_105 : decode cX6_odds 105 = .ok (.iload 4, 2) := by decide +kernel
theorem dX6_odds_107 : decode cX6_odds 107 = .ok (.invokestatic 207, 3) := by decide +kernel
theorem dX6_odds_110 : decode cX6_odds 110 = .ok (.lreturn, 1) := by decide +kernel
theorem dX6_sight_0 : decode cX6_sight 0 = .ok (.aload_n 0, 1) := by decide +kernel
theorem dX6_sight_1 : decode cX6_sight 1 = .ok (.iload_n 1, 1) := by decide +kernel
theorem dX6_sight_2 : decode cX6_sight 2 = .ok (.iload_n 2, 1) := by decide +kernel
theorem dX6_sight_3 : decode cX6_sight 3 = .ok (.iload_n 3, 1) := by decide +kernel
theorem dX6_sight_4 : decode cX6_sight 4 = .ok (.iload 4, 2) := by decide +kernel
theorem dX6_sight_6 : decode cX6_sight 6 = .ok (.bipush 8, 2) := by decide +kernel
theorem dX6_sight_8 : decode cX6_sight 8 = .ok (.invokevirtual 186, 3) := by decide +kernel
theorem dX6_sight_11 : decode cX6_sight 11 = .ok (.istore 5, 2) := by decide +kernel
theorem dX6_sight_13 : decode cX6_sight 13 = .ok (.iload 5, 2) := by decide +kernel
theorem dX6_sight_15 : decode cX6_sight 15 = .ok (.ifCond .eq 9, 3) := by decide +kernel
theorem dX6_sight_18 : decode cX6_sight 18 = .ok (.iload 5, 2) := by decide +kernel
theorem dX6_sight_20 : decode cX6_sight 20 = .ok (.i2l, 1) := by decide +kernel
theorem dX6_sight_21 : decode cX6_sight 21 = .ok (.goto 19, 3) := by decide +kernel
theorem dX6_sight_24 : decode cX6_sight 24 = .ok (.aload_n 0, 1) := by decide +kernel
theorem dX6_sight_25 : decode cX6_sight 25 = .ok (.getfield 50, 3) := by decide +kernel
theorem dX6_sight_28 : decode cX6_sight 28 = .ok (.iload_n 1, 1) := by decide +kernel
theorem dX6_sight_29 : decode cX6_sight 29 = .ok (.iload_n 2, 1) := by decide +kernel
theorem dX6_sight_30 : decode cX6_sight 30 = .ok (.iload_n 3, 1) := by decide +kernel
theorem dX6_sight_31 : decode cX6_sight 31 = .ok (.invokevirtual 211, 3) := by decide +kernel
theorem dX6_sight_34 : decode cX6_sight 34 = .ok (.iload_n 2, 1) := by decide +kernel
theorem dX6_sight_35 : decode cX6_sight 35 = .ok (.iload 4, 2) := by decide +kernel
theorem dX6_sight_37 : decode cX6_sight 37 = .ok (.invokestatic 207, 3) := by decide +kernel
theorem dX6_sight_40 : decode cX6_sight 40 = .ok (.lreturn, 1) := by decide +kernel
theorem dX6_blind_0 : decode cX6_blind 0 = .ok (.aload_n 0, 1) := by decide +kernel
theorem dX6_blind_1 : decode cX6_blind 1 = .ok (.iload_n 1, 1) := by decide +kernel
theorem dX6_blind_2 : decode cX6_blind 2 = .ok (.iload_n 2, 1) := by decide +kernel
theorem dX6_blind_3 : decode cX6_blind 3 = .ok (.iload_n 3, 1) := by decide +kernel
theorem dX6_blind_4 : decode cX6_blind 4 = .ok (.iload 4, 2) := by decide +kernel
theorem dX6_blind_6 : decode cX6_blind 6 = .ok (.iconst 4, 1) := by decide +kernel
theorem dX6_blind_7 : decode cX6_blind 7 = .ok (.invokevirtual 186, 3) := by decide +kernel
theorem dX6_blind_10 : decode cX6_blind 10 = .ok (.istore 5, 2) := by decide +kernel
theorem dX6_blind_12 : decode cX6_blind 12 = .ok (.iload 5, 2) := by decide +kernel
theorem dX6_blind_14 : decode cX6_blind 14 = .ok (.ifCond .eq 9, 3) := by decide +kernel
theorem dX6_blind_17 : decode cX6_blind 17 = .ok (.iload 5, 2) := by decide +kernel
theorem dX6_blind_19 : decode cX6_blind 19 = .ok (.i2l, 1) := by decide +kernel
theorem dX6_blind_20 : decode cX6_blind 20 = .ok (.goto 19, 3) := by decide +kernel
theorem dX6_blind_23 : decode cX6_blind 23 = .ok (.aload_n 0, 1) := by decide +kernel
theorem dX6_blind_24 : decode cX6_blind 24 = .ok (.getfield 50, 3) := by decide +kernel
theorem dX6_blind_27 : decode cX6_blind 27 = .ok (.iload_n 1, 1) := by decide +kernel
theorem dX6_blind_28 : decode cX6_blind 28 = .ok (.iload_n 2, 1) := by decide +kernel
theorem dX6_blind_29 : decode cX6_blind 29 = .ok (.iload_n 3, 1) := by decide +kernel
theorem dX6_blind_30 : decode cX6_blind 30 = .ok (.invokevirtual 215, 3) := by decide +kernel
theorem dX6_blind_33 : decode cX6_blind 33 = .ok (.iload_n 2, 1) := by decide +kernel
theorem dX6_blind_34 : decode cX6_blind 34 = .ok (.iload 4, 2) := by decide +kernel
theorem dX6_blind_36 : decode cX6_blind 36 = .ok (.invokestatic 207, 3) := by decide +kernel
theorem dX6_blind_39 : decode cX6_blind 39 = .ok (.lreturn, 1) := by decide +kernel
theorem dX6_worth_0 : decode cX6_worth 0 = .ok (.aload_n 0, 1) := by decide +kernel
theorem dX6_worth_1 : decode cX6_worth 1 = .ok (.iload_n 1, 1) := by decide +kernel
theorem dX6_worth_2 : decode cX6_worth 2 = .ok (.iload_n 2, 1) := by decide +kernel
theorem dX6_worth_3 : decode cX6_worth 3 = .ok (.iload_n 3, 1) := by decide +kernel
theorem dX6_worth_4 : decode cX6_worth 4 = .ok (.iload 4, 2) := by decide +kernel
theorem dX6_worth_6 : decode cX6_worth 6 = .ok (.iconst 4, 1) := by decide +kernel
theorem dX6_worth_7 : decode cX6_worth 7 = .ok (.invokevirtual 186, 3) := by decide +kernel
theorem dX6_worth_10 : decode cX6_worth 10 = .ok (.istore 5, 2) := by decide +kernel
theorem dX6_worth_12 : decode cX6_worth 12 = .ok (.iload 5, 2) := by decide +kernel
theorem dX6_worth_14 : decode cX6_worth 14 = .ok (.ifCond .eq 7, 3) := by decide +kernel
theorem dX6_worth_17 : decode cX6_worth 17 = .ok (.iload 5, 2) := by decide +kernel
theorem dX6_worth_19 : decode cX6_worth 19 = .ok (.i2l, 1) := by decide +kernel
theorem dX6_worth_20 : decode cX6_worth 20 = .ok (.lreturn, 1) := by decide +kernel
theorem dX6_worth_21 : decode cX6_worth 21 = .ok (.aload_n 0, 1) := by decide +kernel
theorem dX6_worth_22 : decode cX6_worth 22 = .ok (.getfield 50, 3) := by decide +kernel
theorem dX6_worth_25 : decode cX6_worth 25 = .ok (.iload_n 1, 1) := by decide +kernel
theorem dX6_worth_26 : decode cX6_worth 26 = .ok (.iload_n 2, 1) := by decide +kernel
theorem dX6_worth_27 : decode cX6_worth 27 = .ok (.iload_n 3, 1) := by decide +kernel
theorem dX6_worth_28 : decode cX6_worth 28 = .ok (.invokevirtual 211, 3) := by decide +kernel
theorem dX6_worth_31 : decode cX6_worth 31 = .ok (.aload_n 0, 1) := by decide +kernel
theorem dX6_worth_32 : decode cX6_worth 32 = .ok (.getfield 50, 3) := by decide +kernel
theorem dX6_worth_35 : decode cX6_worth 35 = .ok (.iload_n 1, 1) := by decide +kernel
theorem dX6_worth_36 : decode cX6_worth 36 = .ok (.iload_n 2, 1) := by decide +kernel
theorem dX6_worth_37 : decode cX6_worth 37 = .ok (.iload_n 3, 1) := by decide +kernel
theorem dX6_worth_38 : decode cX6_worth 38 = .ok (.invokevirtual 215, 3) := by decide +kernel
theorem dX6_worth_41 : decode cX6_worth 41 = .ok (.lsub, 1) := by decide +kernel
theorem dX6_worth_42 : decode cX6_worth 42 = .ok (.iload_n 2, 1) := by decide +kernel
theorem dX6_worth_43 : decode cX6_worth 43 = .ok (.iload 4, 2) := by decide +kernel
theorem dX6_worth_45 : decode cX6_worth 45 = .ok (.invokestatic 207, 3) := by decide +kernel
theorem dX6_worth_48 : decode cX6_worth 48 = .ok (.lreturn, 1) := by decide +kernel
theorem dX6_found_0 : decode cX6_found 0 = .ok (.aload_n 0, 1) := by decide +kernel
theorem dX6_found_1 : decode cX6_found 1 = .ok (.getfield 12, 3) := by decide +kernel
theorem dX6_found_4 : decode cX6_found 4 = .ok (.iload_n 1, 1) := by decide +kernel
theorem dX6_found_5 : decode cX6_found 5 = .ok (.invokevirtual 79, 3) := by decide +kernel
theorem dX6_found_8 : decode cX6_found 8 = .ok (.ifCond .eq 10, 3) := by decide +kernel
theorem dX6_found_11 : decode cX6_found 11 = .ok (.iload_n 2, 1) := by decide +kernel
theorem dX6_found_12 : decode cX6_found 12 = .ok (.invokestatic 93, 3) := by decide +kernel
theorem dX6_found_15 : decode cX6_found 15 = .ok (.ifCond .ne 6, 3) := by decide +kernel
theorem dX6_found_18 : decode cX6_found 18 = .ok (.bipush (-2), 2) := by decide +kernel
theorem dX6_found_20 : decode cX6_found 20 = .ok (.ireturn, 1) := by decide +kernel
theorem dX6_found_21 : decode cX6_found 21 = .ok (.iconst 0, 1) := by decide +kernel
theorem dX6_found_22 : decode cX6_found 22 = .ok (.istore_n 3, 1) := by decide +kernel
theorem dX6_found_23 : decode cX6_found 23 = .ok (.iconst 0, 1) := by decide +kernel
theorem dX6_found_24 : decode cX6_found 24 = .ok (.istore 4, 2) := by decide +kernel
theorem dX6_found_26 : decode cX6_found 26 = .ok (.iload 4, 2) := by decide +kernel
theorem dX6_found_28 : decode cX6_found 28 = .ok (.iconst 4, 1) := by decide +kernel
theorem dX6_found_29 : decode cX6_found 29 = .ok (.if_icmp .ge 54, 3) := by decide +kernel
theorem dX6_found_32 : decode cX6_found 32 = .ok (.aload_n 0, 1) := by decide +kernel
theorem dX6_found_33 : decode cX6_found 33 = .ok (.getfield 12, 3) := by decide +kernel
theorem dX6_found_36 : decode cX6_found 36 = .ok (.getfield 163, 3) := by decide +kernel
theorem dX6_found_39 : decode cX6_found 39 = .ok (.iload 4, 2) := by decide +kernel
theorem dX6_found_41 : decode cX6_found 41 = .ok (.baload, 1) := by decide +kernel
theorem dX6_found_42 : decode cX6_found 42 = .ok (.ifCond .eq 35, 3) := by decide +kernel
theorem dX6_found_45 : decode cX6_found 45 = .ok (.aload_n 0, 1) := by decide +kernel
theorem dX6_found_46 : decode cX6_found 46 = .ok (.getfield 43, 3) := by decide +kernel
theorem dX6_found_49 : decode cX6_found 49 = .ok (.iload 4, 2) := by decide +kernel
theorem dX6_found_51 : decode cX6_found 51 = .ok (.aload_n 0, 1) := by decide +kernel
theorem dX6_found_52 : decode cX6_found 52 = .ok (.getfield 43, 3) := by decide +kernel
theorem dX6_found_55 : decode cX6_found 55 = .ok (.iload 4, 2) := by decide +kernel
theorem dX6_found_57 : decode cX6_found 57 = .ok (.iconst 0, 1) := by decide +kernel
theorem dX6_found_58 : decode cX6_found 58 = .ok (.invokevirtual 174, 3) := by decide +kernel
theorem dX6_found_61 : decode cX6_found 61 = .ok (.iload_n 1, 1) := by decide +kernel
theorem dX6_found_62 : decode cX6_found 62 = .ok (.iload_n 2, 1) := by decide +kernel
theorem dX6_found_63 : decode cX6_found 63 = .ok (.invokevirtual 218, 3) := by decide +kernel
theorem dX6_found_66 : decode cX6_found 66 = .ok (.iconst (-1), 1) := by decide +kernel
theorem dX6_found_67 : decode cX6_found 67 = .ok (.if_icmp .eq 10, 3) := by decide +kernel
theorem dX6_found_70 : decode cX6_found 70 = .ok (.iload_n 3, 1) := by decide +kernel
theorem dX6_found_71 : decode cX6_found 71 = .ok (.iconst 1, 1) := by decide +kernel
theorem dX6_found_72 : decode cX6_found 72 = .ok (.iload 4, 2) := by decide +kernel
theorem dX6_found_74 : decode cX6_found 74 = .ok (.ishl, 1) := by decide +kernel
theorem dX6_found_75 : decode cX6_found 75 = .ok (.ior, 1) := by decide +kernel
theorem dX6_found_76 : decode cX6_found 76 = .ok (.istore_n 3, 1) := by decide +kernel
theorem dX6_found_77 : decode cX6_found 77 = .ok (.iinc 4 1, 3) := by decide +kernel
theorem dX6_found_80 : decode cX6_found 80 = .ok (.goto (-54), 3) := by decide +kernel
theorem dX6_found_83 : decode cX6_found 83 = .ok (.iload_n 3, 1) := by decide +kernel
theorem dX6_found_84 : decode cX6_found 84 = .ok (.ireturn, 1) := by decide +kernel
theorem dX6_first_0 : decode cX6_first 0 = .ok (.aload_n 0, 1) := by decide +kernel
theorem dX6_first_1 : decode cX6_first 1 = .ok (.getfield 12, 3) := by decide +kernel
theorem dX6_first_4 : decode cX6_first 4 = .ok (.iload_n 1, 1) := by decide +kernel
theorem dX6_first_5 : decode cX6_first 5 = .ok (.invokevirtual 105, 3) := by decide +kernel
theorem dX6_first_8 : decode cX6_first 8 = .ok (.ifCond .eq 21, 3) := by decide +kernel
theorem dX6_first_11 : decode cX6_first 11 = .ok (.aload_n 0, 1) := by decide +kernel
theorem dX6_first_12 : decode cX6_first 12 = .ok (.getfield 12, 3) := by decide +kernel
theorem dX6_first_15 : decode cX6_first 15 = .ok (.iload_n 2, 1) := by decide +kernel
theorem dX6_first_16 : decode cX6_first 16 = .ok (.invokevirtual 79, 3) := by decide +kernel
theorem dX6_first_19 : decode cX6_first 19 = .ok (.ifCond .eq 10, 3) := by decide +kernel
theorem dX6_first_22 : decode cX6_first 22 = .ok (.iload_n 3, 1) := by decide +kernel
theorem dX6_first_23 : decode cX6_first 23 = .ok (.invokestatic 93, 3) := by decide +kernel
theorem dX6_first_26 : decode cX6_first 26 = .ok (.ifCond .ne 6, 3) := by decide +kernel
theorem dX6_first_29 : decode cX6_first 29 = .ok (.bipush (-2), 2) := by decide +kernel
theorem dX6_first_31 : decode cX6_first 31 = .ok (.ireturn, 1) := by decide +kernel
theorem dX6_first_32 : decode cX6_first 32 = .ok (.aload_n 0, 1) := by decide +kernel
theorem dX6_first_33 : decode cX6_first 33 = .ok (.getfield 43, 3) := by decide +kernel
theorem dX6_first_36 : decode cX6_first 36 = .ok (.iload_n 1, 1) := by decide +kernel
theorem dX6_first_37 : decode cX6_first 37 = .ok (.aload_n 0, 1) := by decide +kernel
theorem dX6_first_38 : decode cX6_first 38 = .ok (.getfield 43, 3) := by decide +kernel
theorem dX6_first_41 : decode cX6_first 41 = .ok (.iload_n 1, 1) := by decide +kernel
theorem dX6_first_42 : decode cX6_first 42 = .ok (.iconst 0, 1) := by decide +kernel
theorem dX6_first_43 : decode cX6_first 43 = .ok (.invokevirtual 174, 3) := by decide +kernel
theorem dX6_first_46 : decode cX6_first 46 = .ok (.iload_n 2, 1) := by decide +kernel
theorem dX6_first_47 : decode cX6_first 47 = .ok (.iload_n 3, 1) := by decide +kernel
theorem dX6_first_48 : decode cX6_first 48 = .ok (.invokevirtual 218, 3) := by decide +kernel
theorem dX6_first_51 : decode cX6_first 51 = .ok (.ireturn, 1) := by decide +kernel
theorem dX6_books_0 : decode cX6_books 0 = .ok (.aload_n 0, 1) := by decide +kernel
theorem dX6_books_1 : decode cX6_books 1 = .ok (.getfield 12, 3) := by decide +kernel
theorem dX6_books_4 : decode cX6_books 4 = .ok (.iload_n 1, 1) := by decide +kernel
theorem dX6_books_5 : decode cX6_books 5 = .ok (.invokevirtual 105, 3) := by decide +kernel
theorem dX6_books_8 : decode cX6_books 8 = .ok (.ifCond .ne 6, 3) := by decide +kernel
theorem dX6_books_11 : decode cX6_books 11 = .ok (.bipush (-2), 2) := by decide +kernel
theorem dX6_books_13 : decode cX6_books 13 = .ok (.ireturn, 1) := by decide +kernel
theorem dX6_books_14 : decode cX6_books 14 = .ok (.iload_n 2, 1) := by decide +kernel
theorem dX6_books_15 : decode cX6_books 15 = .ok (.ifCond .lt 8, 3) := by decide +kernel
theorem dX6_books_18 : decode cX6_books 18 = .ok (.iload_n 2, 1) := by decide +kernel
theorem dX6_books_19 : decode cX6_books 19 = .ok (.iconst 1, 1) := by decide +kernel
theorem dX6_books_20 : decode cX6_books 20 = .ok (.if_icmp .le 6, 3) := by decide +kernel
theorem dX6_books_23 : decode cX6_books 23 = .ok (.bipush (-3), 2) := by decide +kernel
theorem dX6_books_25 : decode cX6_books 25 = .ok (.ireturn, 1) := by decide +kernel
theorem dX6_books_26 : decode cX6_books 26 = .ok (.aload_n 0, 1) := by decide +kernel
theorem dX6_books_27 : decode cX6_books 27 = .ok (.getfield 12, 3) := by decide +kernel
theorem dX6_books_30 : decode cX6_books 30 = .ok (.getfield 221, 3) := by decide +kernel
theorem dX6_books_33 : decode cX6_books 33 = .ok (.ifCond .ne 6, 3) := by decide +kernel
theorem dX6_books_36 : decode cX6_books 36 = .ok (.bipush (-4), 2) := by decide +kernel
theorem dX6_books_38 : decode cX6_books 38 = .ok (.ireturn, 1) := by decide +kernel
theorem dX6_books_39 : decode cX6_books 39 = .ok (.aload_n 0, 1) := by decide +kernel
theorem dX6_books_40 : decode cX6_books 40 = .ok (.iload_n 1, 1) := by decide +kernel
theorem dX6_books_41 : decode cX6_books 41 = .ok (.invokevirtual 224, 3) := by decide +kernel
theorem dX6_books_44 : decode cX6_books 44 = .ok (.istore_n 3, 1) := by decide +kernel
theorem dX6_books_45 : decode cX6_books 45 = .ok (.iload_n 2, 1) := by decide +kernel
theorem dX6_books_46 : decode cX6_books 46 = .ok (.ifCond .ne 7, 3) := by decide +kernel
theorem dX6_books_49 : decode cX6_books 49 = .ok (.iload_n 3, 1) := by decide +kernel
theorem dX6_books_50 : decode cX6_books 50 = .ok (.goto 14, 3) := by decide +kernel
theorem dX6_books_53 : decode cX6_books 53 = .ok (.iload_n 3, 1) := by decide +kernel
theorem dX6_books_54 : decode cX6_books 54 = .ok (.aload_n 0, 1) := by decide +kernel
theorem dX6_books_55 : decode cX6_books 55 = .ok (.getfield 12, 3) := by decide +kernel
theorem dX6_books_58 : decode cX6_books 58 = .ok (.getfield 118, 3) := by decide +kernel
theorem dX6_books_61 : decode cX6_books 61 = .ok (.iload_n 1, 1) := by decide +kernel
theorem dX6_books_62 : decode cX6_books 62 = .ok (.iaload, 1) := by decide +kernel
theorem dX6_books_63 : decode cX6_books 63 = .ok (.imul, 1) := by decide +kernel
theorem dX6_books_64 : decode cX6_books 64 = .ok (.ireturn, 1) := by decide +kernel
theorem dX6_count_0 : decode cX6_count 0 = .ok (.iload_n 1, 1) := by decide +kernel
theorem dX6_count_1 : decode cX6_count 1 = .ok (.tableswitch 87 0 5 #[39, 47, 55, 63, 71, 79], 39) := by decide +kernel
theorem dX6_count_40 : decode cX6_count 40 = .ok (.aload_n 0, 1) := by decide +kernel
theorem dX6_count_41 : decode cX6_count 41 = .ok (.getfield 12, 3) := by decide +kernel
theorem dX6_count_44 : decode cX6_count 44 = .ok (.getfield 221, 3) := by decide +kernel
theorem dX6_count_47 : decode cX6_count 47 = .ok (.ireturn, 1) := by decide +kernel
theorem dX6_count_48 : decode cX6_count 48 = .ok (.aload_n 0, 1) := by decide +kernel
theorem dX6_count_49 : decode cX6_count 49 = .ok (.getfield 12, 3) := by decide +kernel
theorem dX6_count_52 : decode cX6_count 52 = .ok (.invokevirtual 227, 3) := by decide +kernel
theorem dX6_count_55 : decode cX6_count 55 = .ok (.ireturn, 1) := by decide +kernel
theorem dX6_count_56 : decode cX6_count 56 = .ok (.aload_n 0, 1) := by decide +kernel
theorem dX6_count_57 : decode cX6_count 57 = .ok (.getfield 12, 3) := by decide +kernel
theorem dX6_count_60 : decode cX6_count 60 = .ok (.getfield 230, 3) := by decide +kernel
theorem dX6_count_63 : decode cX6_count 63 = .ok (.ireturn, 1) := by decide +kernel
theorem dX6_count_64 : decode cX6_count 64 = .ok (.aload_n 0, 1) := by decide +kernel
theorem dX6_count_65 : decode cX6_count 65 = .ok (.getfield 26, 3) := by decide +kernel
theorem dX6_count_68 : decode cX6_count 68 = .ok (.getfield 140, 3) := by decide +kernel
theorem dX6_count_71 : decode cX6_count 71 = .ok (.ireturn, 1) := by decide +kernel
theorem dX6_count_72 : decode cX6_count 72 = .ok (.aload_n 0, 1) := by decide +kernel
theorem dX6_count_73 : decode cX6_count 73 = .ok (.getfield 19, 3) := by decide +kernel
theorem dX6_count_76 : decode cX6_count 76 = .ok (.getfield 58, 3) := by decide +kernel
theorem dX6_count_79 : decode cX6_count 79 = .ok (.ireturn, 1) := by decide +kernel
theorem dX6_count_80 : decode cX6_count 80 = .ok (.aload_n 0, 1) := by decide +kernel
theorem dX6_count_81 : decode cX6_count 81 = .ok (.getfield 12, 3) := by decide +kernel
theorem dX6_count_84 : decode cX6_count 84 = .ok (.invokevirtual 233, 3) := by decide +kernel
theorem dX6_count_87 : decode cX6_count 87 = .ok (.ireturn, 1) := by decide +kernel
theorem dX6_count_88 : decode cX6_count 88 = .ok (.bipush (-3), 2) := by decide +kernel
theorem dX6_count_90 : decode cX6_count 90 = .ok (.ireturn, 1) := by decide +kernel
theorem dX6_isLayer_0 : decode cX6_isLayer 0 = .ok (.iload_n 0, 1) := by decide +kernel
theorem dX6_isLayer_1 : decode cX6_isLayer 1 = .ok (.ifCond .lt 13, 3) := by decide +kernel
theorem dX6_isLayer_4 : decode cX6_isLayer 4 = .ok (.iload_n 0, 1) := by decide +kernel
theorem dX6_isLayer_5 : decode cX6_isLayer 5 = .ok (.bipush 6, 2) := by decide +kernel
theorem dX6_isLayer_7 : decode cX6_isLayer 7 = .ok (.if_icmp .ge 7, 3) := by decide +kernel
theorem dX6_isLayer_10 : decode cX6_isLayer 10 = .ok (.iconst 1, 1) := by decide +kernel
theorem dX6_isLayer_11 : decode cX6_isLayer 11 = .ok (.goto 4, 3) := by decide +kernel
theorem dX6_isLayer_14 : decode cX6_isLayer 14 = .ok (.iconst 0, 1) := by decide +kernel
theorem dX6_isLayer_15 : decode cX6_isLayer 15 = .ok (.ireturn, 1) := by decide +kernel
theorem dX6_isHour_0 : decode cX6_isHour 0 = .ok (.iload_n 0, 1) := by decide +kernel
theorem dX6_isHour_1 : decode cX6_isHour 1 = .ok (.ifCond .lt 13, 3) := by decide +kernel
theorem dX6_isHour_4 : decode cX6_isHour 4 = .ok (.iload_n 0, 1) := by decide +kernel
theorem dX6_isHour_5 : decode cX6_isHour 5 = .ok (.bipush 24, 2) := by decide +kernel
theorem dX6_isHour_7 : decode cX6_isHour 7 = .ok (.if_icmp .ge 7, 3) := by decide +kernel
theorem dX6_isHour_10 : decode cX6_isHour 10 = .ok (.iconst 1, 1) := by decide +kernel
theorem dX6_isHour_11 : decode cX6_isHour 11 = .ok (.goto 4, 3) := by decide +kernel
theorem dX6_isHour_14 : decode cX6_isHour 14 = .ok (.iconst 0, 1) := by decide +kernel
theorem dX6_isHour_15 : decode cX6_isHour 15 = .ok (.ireturn, 1) := by decide +kernel
theorem dX6_isKnot_0 : decode cX6_isKnot 0 = .ok (.iload_n 0, 1) := by decide +kernel
theorem dX6_isKnot_1 : decode cX6_isKnot 1 = .ok (.sipush 160, 3) := by decide +kernel
theorem dX6_isKnot_4 : decode cX6_isKnot 4 = .ok (.if_icmp .eq 40, 3) := by decide +kernel
theorem dX6_isKnot_7 : decode cX6_isKnot 7 = .ok (.iload_n 2, 1) := by decide +kernel
theorem dX6_isKnot_8 : decode cX6_isKnot 8 = .ok (.sipush 160, 3) := by decide +kernel
theorem dX6_isKnot_11 : decode cX6_isKnot 11 = .ok (.if_icmp .eq 33, 3) := by decide +kernel
theorem dX6_isKnot_14 : decode cX6_isKnot 14 = .ok (.iload_n 1, 1) := by decide +kernel
theorem dX6_isKnot_15 : decode cX6_isKnot 15 = .ok (.iload_n 3, 1) := by decide +kernel
theorem dX6_isKnot_16 : decode cX6_isKnot 16 = .ok (.if_icmp .ne 28, 3) := by decide +kernel
theorem dX6_isKnot_19 : decode cX6_isKnot 19 = .ok (.iload_n 0, 1) := by decide +kernel
theorem dX6_isKnot_20 : decode cX6_isKnot 20 = .ok (.bipush 20, 2) := by decide +kernel
theorem dX6_isKnot_22 : decode cX6_isKnot 22 = .ok (.idiv, 1) := by decide +kernel
theorem dX6_isKnot_23 : decode cX6_isKnot 23 = .ok (.iload_n 2, 1) := by decide +kernel
theorem dX6_isKnot_24 : decode cX6_isKnot 24 = .ok (.bipush 20, 2) := by decide +kernel
theorem dX6_isKnot_26 : decode cX6_isKnot 26 = .ok (.idiv, 1) := by decide +kernel
theorem dX6_isKnot_27 : decode cX6_isKnot 27 = .ok (.if_icmp .ne 17, 3) := by decide +kernel
theorem dX6_isKnot_30 : decode cX6_isKnot 30 = .ok (.iload_n 0, 1) := by decide +kernel
theorem dX6_isKnot_31 : decode cX6_isKnot 31 = .ok (.iload_n 2, 1) := by decide +kernel
theorem dX6_isKnot_32 : decode cX6_isKnot 32 = .ok (.isub, 1) := by decide +kernel
theorem dX6_isKnot_33 : decode cX6_isKnot 33 = .ok (.invokestatic 132, 3) := by decide +kernel
theorem dX6_isKnot_36 : decode cX6_isKnot 36 = .ok (.iconst 2, 1) := by decide +kernel
theorem dX6_isKnot_37 : decode cX6_isKnot 37 = .ok (.if_icmp .ge 7, 3) := by decide +kernel
theorem dX6_isKnot_40 : decode cX6_isKnot 40 = .ok (.iconst 1, 1) := by decide +kernel
theorem dX6_isKnot_41 : decode cX6_isKnot 41 = .ok (.goto 4, 3) := by decide +kernel
theorem dX6_isKnot_44 : decode cX6_isKnot 44 = .ok (.iconst 0, 1) := by decide +kernel
theorem dX6_isKnot_45 : decode cX6_isKnot 45 = .ok (.ireturn, 1) := by decide +kernel
theorem dX6_oddsRefused_0 : decode cX6_oddsRefused 0 = .ok (.aload_n 0, 1) := by decide +kernel
theorem dX6_oddsRefused_1 : decode cX6_oddsRefused 1 = .ok (.getfield 12, 3) := by decide +kernel
theorem dX6_oddsRefused_4 : decode cX6_oddsRefused 4 = .ok (.iload_n 1, 1) := by decide +kernel
theorem dX6_oddsRefused_5 : decode cX6_oddsRefused 5 = .ok (.invokevirtual 105, 3) := by decide +kernel
theorem dX6_oddsRefused_8 : decode cX6_oddsRefused 8 = .ok (.ifCond .ne 6, 3) := by decide +kernel
theorem dX6_oddsRefused_11 : decode cX6_oddsRefused 11 = .ok (.bipush (-2), 2) := by decide +kernel
theorem dX6_oddsRefused_13 : decode cX6_oddsRefused 13 = .ok (.ireturn, 1) := by decide +kernel
theorem dX6_oddsRefused_14 : decode cX6_oddsRefused 14 = .ok (.iload_n 2, 1) := by decide +kernel
theorem dX6_oddsRefused_15 : decode cX6_oddsRefused 15 = .ok (.ifCond .lt 34, 3) := by decide +kernel
theorem dX6_oddsRefused_18 : decode cX6_oddsRefused 18 = .ok (.iload_n 2, 1) := by decide +kernel
theorem dX6_oddsRefused_19 : decode cX6_oddsRefused 19 = .ok (.iload 5, 2) := by decide +kernel
theorem dX6_oddsRefused_21 : decode cX6_oddsRefused 21 = .ok (.if_icmp .gt 28, 3) := by decide +kernel
theorem dX6_oddsRefused_24 : decode cX6_oddsRefused 24 = .ok (.iload_n 3, 1) := by decide +kernel
theorem dX6_oddsRefused_25 : decode cX6_oddsRefused 25 = .ok (.ifCond .lt 24, 3) := by decide +kernel
theorem dX6_oddsRefused_28 : decode cX6_oddsRefused 28 = .ok (.iload_n 3, 1) := by decide +kernel
theorem dX6_oddsRefused_29 : decode cX6_oddsRefused 29 = .ok (.bipush 10, 2) := by decide +kernel
theorem dX6_oddsRefused_31 : decode cX6_oddsRefused 31 = .ok (.if_icmp .gt 18, 3) := by decide +kernel
theorem dX6_oddsRefused_34 : decode cX6_oddsRefused 34 = .ok (.iload 4, 2) := by decide +kernel
theorem dX6_oddsRefused_36 : decode cX6_oddsRefused 36 = .ok (.ifCond .eq 9, 3) := by decide +kernel
theorem dX6_oddsRefused_39 : decode cX6_oddsRefused 39 = .ok (.iload 4, 2) := by decide +kernel
theorem dX6_oddsRefused_41 : decode cX6_oddsRefused 41 = .ok (.iconst 1, 1) := by decide +kernel
theorem dX6_oddsRefused_42 : decode cX6_oddsRefused 42 = .ok (.if_icmp .ne 7, 3) := by decide +kernel
theorem dX6_oddsRefused_45 : decode cX6_oddsRefused 45 = .ok (.iconst 1, 1) := by decide +kernel
theorem dX6_oddsRefused_46 : decode cX6_oddsRefused 46 = .ok (.goto 4, 3) := by decide +kernel
theorem dX6_oddsRefused_49 : decode cX6_oddsRefused 49 = .ok (.iconst 0, 1) := by decide +kernel
theorem dX6_oddsRefused_50 : decode cX6_oddsRefused 50 = .ok (.istore 6, 2) := by decide +kernel
theorem dX6_oddsRefused_52 : decode cX6_oddsRefused 52 = .ok (.iload 6, 2) := by decide +kernel
theorem dX6_oddsRefused_54 : decode cX6_oddsRefused 54 = .ok (.ifCond .eq 7, 3) := by decide +kernel
theorem dX6_oddsRefused_57 : decode cX6_oddsRefused 57 = .ok (.iconst 0, 1) := by decide +kernel
theorem dX6_oddsRefused_58 : decode cX6_oddsRefused 58 = .ok (.goto 5, 3) := by decide +kernel
theorem dX6_oddsRefused_61 : decode cX6_oddsRefused 61 = .ok (.bipush (-3), 2) := by decide +kernel
theorem dX6_oddsRefused_63 : decode cX6_oddsRefused 63 = .ok (.ireturn, 1) := by decide +kernel
theorem dX6_lowestTerms_0 : decode cX6_lowestTerms 0 = .ok (.lload_n 0, 1) := by decide +kernel
theorem dX6_lowestTerms_1 : decode cX6_lowestTerms 1 = .ok (.lstore 4, 2) := by decide +kernel
theorem dX6_lowestTerms_3 : decode cX6_lowestTerms 3 = .ok (.lconst 1, 1) := by decide +kernel
theorem dX6_lowestTerms_4 : decode cX6_lowestTerms 4 = .ok (.lstore 6, 2) := by decide +kernel
theorem dX6_lowestTerms_6 : decode cX6_lowestTerms 6 = .ok (.iconst 0, 1) := by decide +kernel
theorem dX6_lowestTerms_7 : decode cX6_lowestTerms 7 = .ok (.istore 8, 2) := by decide +kernel
theorem dX6_lowestTerms_9 : decode cX6_lowestTerms 9 = .ok (.iload 8, 2) := by decide +kernel
theorem dX6_lowestTerms_11 : decode cX6_lowestTerms 11 = .ok (.iload_n 2, 1) := by decide +kernel
theorem dX6_lowestTerms_12 : decode cX6_lowestTerms 12 = .ok (.if_icmp .ge 17, 3) := by decide +kernel
theorem dX6_lowestTerms_15 : decode cX6_lowestTerms 15 = .ok (.lload 6, 2) := by decide +kernel
theorem dX6_lowestTerms_17 : decode cX6_lowestTerms 17 = .ok (.ldc2_w 236, 3) := by decide +kernel
theorem dX6_lowestTerms_20 : decode cX6_lowestTerms 20 = .ok (.lmul, 1) := by decide +kernel
theorem dX6_lowestTerms_21 : decode cX6_lowestTerms 21 = .ok (.lstore 6, 2) := by decide +kernel
theorem dX6_lowestTerms_23 : decode cX6_lowestTerms 23 = .ok (.iinc 8 1, 3) := by decide +kernel
theorem dX6_lowestTerms_26 : decode cX6_lowestTerms 26 = .ok (.goto (-17), 3) := by decide +kernel
theorem dX6_lowestTerms_29 : decode cX6_lowestTerms 29 = .ok (.iconst 0, 1) := by decide +kernel
theorem dX6_lowestTerms_30 : decode cX6_lowestTerms 30 = .ok (.istore 8, 2) := by decide +kernel
theorem dX6_lowestTerms_32 : decode cX6_lowestTerms 32 = .ok (.iload 8, 2) := by decide +kernel
theorem dX6_lowestTerms_34 : decode cX6_lowestTerms 34 = .ok (.iload_n 2, 1) := by decide +kernel
theorem dX6_lowestTerms_35 : decode cX6_lowestTerms 35 = .ok (.if_icmp .ge 63, 3) := by decide +kernel
theorem dX6_lowestTerms_38 : decode cX6_lowestTerms 38 = .ok (.lload 4, 2) := by decide +kernel
theorem dX6_lowestTerms_40 : decode cX6_lowestTerms 40 = .ok (.ldc2_w 238, 3) := by decide +kernel
theorem dX6_lowestTerms_43 : decode cX6_lowestTerms 43 = .ok (.lrem, 1) := by decide +kernel
theorem dX6_lowestTerms_44 : decode cX6_lowestTerms 44 = .ok (.lconst 0, 1) := by decide +kernel
theorem dX6_lowestTerms_45 : decode cX6_lowestTerms 45 = .ok (.lcmp, 1) := by decide +kernel
theorem dX6_lowestTerms_46 : decode cX6_lowestTerms 46 = .ok (.ifCond .ne 19, 3) := by decide +kernel
theorem dX6_lowestTerms_49 : decode cX6_lowestTerms 49 = .ok (.lload 4, 2) := by decide +kernel
theorem dX6_lowestTerms_51 : decode cX6_lowestTerms 51 = .ok (.ldc2_w 238, 3) := by decide +kernel
theorem dX6_lowestTerms_54 : decode cX6_lowestTerms 54 = .ok (.ldiv, 1) := by decide +kernel
theorem dX6_lowestTerms_55 : decode cX6_lowestTerms 55 = .ok (.lstore 4, 2) := by decide +kernel
theorem dX6_lowestTerms_57 : decode cX6_lowestTerms 57 = .ok (.lload 6, 2) := by decide +kernel
theorem dX6_lowestTerms_59 : decode cX6_lowestTerms 59 = .ok (.ldc2_w 238, 3) := by decide +kernel
theorem dX6_lowestTerms_62 : decode cX6_lowestTerms 62 = .ok (.ldiv, 1) := by decide +kernel
theorem dX6_lowestTerms_63 : decode cX6_lowestTerms 63 = .ok (.lstore 6, 2) := by decide +kernel
theorem dX6_lowestTerms_65 : decode cX6_lowestTerms 65 = .ok (.lload 4, 2) := by decide +kernel
theorem dX6_lowestTerms_67 : decode cX6_lowestTerms 67 = .ok (.ldc2_w 240, 3) := by decide +kernel
theorem dX6_lowestTerms_70 : decode cX6_lowestTerms 70 = .ok (.lrem, 1) := by decide +kernel
theorem dX6_lowestTerms_71 : decode cX6_lowestTerms 71 = .ok (.lconst 0, 1) := by decide +kernel
theorem dX6_lowestTerms_72 : decode cX6_lowestTerms 72 = .ok (.lcmp, 1) := by decide +kernel
theorem dX6_lowestTerms_73 : decode cX6_lowestTerms 73 = .ok (.ifCond .ne 19, 3) := by decide +kernel
theorem dX6_lowestTerms_76 : decode cX6_lowestTerms 76 = .ok (.lload 4, 2) := by decide +kernel
theorem dX6_lowestTerms_78 : decode cX6_lowestTerms 78 = .ok (.ldc2_w 240, 3) := by decide +kernel
theorem dX6_lowestTerms_81 : decode cX6_lowestTerms 81 = .ok (.ldiv, 1) := by decide +kernel
theorem dX6_lowestTerms_82 : decode cX6_lowestTerms 82 = .ok (.lstore 4, 2) := by decide +kernel
theorem dX6_lowestTerms_84 : decode cX6_lowestTerms 84 = .ok (.lload 6, 2) := by decide +kernel
theorem dX6_lowestTerms_86 : decode cX6_lowestTerms 86 = .ok (.ldc2_w 240, 3) := by decide +kernel
theorem dX6_lowestTerms_89 : decode cX6_lowestTerms 89 = .ok (.ldiv, 1) := by decide +kernel
theorem dX6_lowestTerms_90 : decode cX6_lowestTerms 90 = .ok (.lstore 6, 2) := by decide +kernel
theorem dX6_lowestTerms_92 : decode cX6_lowestTerms 92 = .ok (.iinc 8 1, 3) := by decide +kernel
theorem dX6_lowestTerms_95 : decode cX6_lowestTerms 95 = .ok (.goto (-63), 3) := by decide +kernel
theorem dX6_lowestTerms_98 : decode cX6_lowestTerms 98 = .ok (.iload_n 3, 1) := by decide +kernel
theorem dX6_lowestTerms_99 : decode cX6_lowestTerms 99 = .ok (.ifCond .ne 8, 3) := by decide +kernel
theorem dX6_lowestTerms_102 : decode cX6_lowestTerms 102 = .ok (.lload 4, 2) := by decide +kernel
theorem dX6_lowestTerms_104 : decode cX6_lowestTerms 104 = .ok (.goto 5, 3) := by decide +kernel
theorem dX6_lowestTerms_107 : decode cX6_lowestTerms 107 = .ok (.lload 6, 2) := by decide +kernel
theorem dX6_lowestTerms_109 : decode cX6_lowestTerms 109 = .ok (.lreturn, 1) := by decide +kernel
theorem dX6_passages_0 : decode cX6_passages 0 = .ok (.iconst 0, 1) := by decide +kernel
theorem dX6_passages_1 : decode cX6_passages 1 = .ok (.istore_n 2, 1) := by decide +kernel
theorem dX6_passages_2 : decode cX6_passages 2 = .ok (.iconst 0, 1) := by decide +kernel
theorem dX6_passages_3 : decode cX6_passages 3 = .ok (.istore_n 3, 1) := by decide +kernel
theorem dX6_passages_4 : decode cX6_passages 4 = .ok (.iconst 0, 1) := by decide +kernel
theorem dX6_passages_5 : decode cX6_passages 5 = .ok (.istore 4, 2) := by decide +kernel
theorem dX6_passages_7 : decode cX6_passages 7 = .ok (.iload 4, 2) := by decide +kernel
theorem dX6_passages_9 : decode cX6_passages 9 = .ok (.bipush 24, 2) := by decide +kernel
theorem dX6_passages_11 : decode cX6_passages 11 = .ok (.if_icmp .ge 51, 3) := by decide +kernel
theorem dX6_passages_14 : decode cX6_passages 14 = .ok (.iload_n 3, 1) := by decide +kernel
theorem dX6_passages_15 : decode cX6_passages 15 = .ok (.bipush 24, 2) := by decide +kernel
theorem dX6_passages_17 : decode cX6_passages 17 = .ok (.if_icmp .ge 45, 3) := by decide +kernel
theorem dX6_passages_20 : decode cX6_passages 20 = .ok (.aload_n 0, 1) := by decide +kernel
theorem dX6_passages_21 : decode cX6_passages 21 = .ok (.getfield 43, 3) := by decide +kernel
theorem dX6_passages_24 : decode cX6_passages 24 = .ok (.getfield 180, 3) := by decide +kernel
theorem dX6_passages_27 : decode cX6_passages 27 = .ok (.aload_n 0, 1) := by decide +kernel
theorem dX6_passages_28 : decode cX6_passages 28 = .ok (.getfield 43, 3) := by decide +kernel
theorem dX6_passages_31 : decode cX6_passages 31 = .ok (.iload_n 1, 1) := by decide +kernel
theorem dX6_passages_32 : decode cX6_passages 32 = .ok (.iload_n 3, 1) := by decide +kernel
theorem dX6_passages_33 : decode cX6_passages 33 = .ok (.invokevirtual 174, 3) := by decide +kernel
theorem dX6_passages_36 : decode cX6_passages 36 = .ok (.iaload, 1) := by decide +kernel
theorem dX6_passages_37 : decode cX6_passages 37 = .ok (.istore 5, 2) := by decide +kernel
theorem dX6_passages_39 : decode cX6_passages 39 = .ok (.iload 5, 2) := by decide +kernel
theorem dX6_passages_41 : decode cX6_passages 41 = .ok (.iconst (-1), 1) := by decide +kernel
theorem dX6_passages_42 : decode cX6_passages 42 = .ok (.if_icmp .ne 6, 3) := by decide +kernel
theorem dX6_passages_45 : decode cX6_passages 45 = .ok (.goto 17, 3) := by decide +kernel
theorem dX6_passages_48 : decode cX6_passages 48 = .ok (.iinc 2 1, 3) := by decide +kernel
theorem dX6_passages_51 : decode cX6_passages 51 = .ok (.iload_n 3, 1) := by decide +kernel
theorem dX6_passages_52 : decode cX6_passages 52 = .ok (.iload 5, 2) := by decide +kernel
theorem dX6_passages_54 : decode cX6_passages 54 = .ok (.iadd, 1) := by decide +kernel
theorem dX6_passages_55 : decode cX6_passages 55 = .ok (.istore_n 3, 1) := by decide +kernel
theorem dX6_passages_56 : decode cX6_passages 56 = .ok (.iinc 4 1, 3) := by decide +kernel
theorem dX6_passages_59 : decode cX6_passages 59 = .ok (.goto (-52), 3) := by decide +kernel
theorem dX6_passages_62 : decode cX6_passages 62 = .ok (.iload_n 2, 1) := by decide +kernel
theorem dX6_passages_63 : decode cX6_passages 63 = .ok (.ireturn, 1) := by decide +kernel
theorem dJ9_abs_0f7a4_0 : decode cJ9_abs_0f7a4 0 = .ok (.iload_n 0, 1) := by decide +kernel
theorem dJ9_abs_0f7a4_1 : decode cJ9_abs_0f7a4 1 = .ok (.ifCond .ge 8, 3) := by decide +kernel
theorem dJ9_abs_0f7a4_4 : decode cJ9_abs_0f7a4 4 = .ok (.iload_n 0, 1) := by decide +kernel
theorem dJ9_abs_0f7a4_5 : decode cJ9_abs_0f7a4 5 = .ok (.ineg, 1) := by decide +kernel
theorem dJ9_abs_0f7a4_6 : decode cJ9_abs_0f7a4 6 = .ok (.goto 4, 3) := by decide +kernel
theorem dJ9_abs_0f7a4_9 : decode cJ9_abs_0f7a4 9 = .ok (.iload_n 0, 1) := by decide +kernel
theorem dJ9_abs_0f7a4_10 : decode cJ9_abs_0f7a4 10 = .ok (.ireturn, 1) := by decide +kernel
theorem dJ9_max_7cf53_0 : decode cJ9_max_7cf53 0 = .ok (.iload_n 0, 1) := by decide +kernel
theorem dJ9_max_7cf53_1 : decode cJ9_max_7cf53 1 = .ok (.iload_n 1, 1) := by decide +kernel
theorem dJ9_max_7cf53_2 : decode cJ9_max_7cf53 2 = .ok (.if_icmp .lt 7, 3) := by decide +kernel
theorem dJ9_max_7cf53_5 : decode cJ9_max_7cf53 5 = .ok (.iload_n 0, 1) := by decide +kernel
theorem dJ9_max_7cf53_6 : decode cJ9_max_7cf53 6 = .ok (.goto 4, 3) := by decide +kernel
theorem dJ9_max_7cf53_9 : decode cJ9_max_7cf53 9 = .ok (.iload_n 1, 1) := by decide +kernel
theorem dJ9_max_7cf53_10 : decode cJ9_max_7cf53 10 = .ok (.ireturn, 1) := by decide +kernel
theorem dJ9_max_f86c9_0 : decode cJ9_max_f86c9 0 = .ok (.lload_n 0, 1) := by decide +kernel
theorem dJ9_max_f86c9_1 : decode cJ9_max_f86c9 1 = .ok (.lload_n 2, 1) := by decide +kernel
theorem dJ9_max_f86c9_2 : decode cJ9_max_f86c9 2 = .ok (.lcmp, 1) := by decide +kernel
theorem dJ9_max_f86c9_3 : decode cJ9_max_f86c9 3 = .ok (.ifCond .lt 7, 3) := by decide +kernel
theorem dJ9_max_f86c9_6 : decode cJ9_max_f86c9 6 = .ok (.lload_n 0, 1) := by decide +kernel
theorem dJ9_max_f86c9_7 : decode cJ9_max_f86c9 7 = .ok (.goto 4, 3) := by decide +kernel
theorem dJ9_max_f86c9_10 : decode cJ9_max_f86c9 10 = .ok (.lload_n 2, 1) := by decide +kernel
theorem dJ9_max_f86c9_11 : decode cJ9_max_f86c9 11 = .ok (.lreturn, 1) := by decide +kernel
theorem dJ9_min_7cf53_0 : decode cJ9_min_7cf53 0 = .ok (.iload_n 0, 1) := by decide +kernel
theorem dJ9_min_7cf53_1 : decode cJ9_min_7cf53 1 = .ok (.iload_n 1, 1) := by decide +kernel
theorem dJ9_min_7cf53_2 : decode cJ9_min_7cf53 2 = .ok (.if_icmp .gt 7, 3) := by decide +kernel
theorem dJ9_min_7cf53_5 : decode cJ9_min_7cf53 5 = .ok (.iload_n 0, 1) := by decide +kernel
theorem dJ9_min_7cf53_6 : decode cJ9_min_7cf53 6 = .ok (.goto 4, 3) := by decide +kernel
theorem dJ9_min_7cf53_9 : decode cJ9_min_7cf53 9 = .ok (.iload_n 1, 1) := by decide +kernel
theorem dJ9_min_7cf53_10 : decode cJ9_min_7cf53 10 = .ok (.ireturn, 1) := by decide +kernel
theorem dJ0_length_8abf5_0 : decode cJ0_length_8abf5 0 = .ok (.aload_n 0, 1) := by decide +kernel
theorem dJ0_length_8abf5_1 : decode cJ0_length_8abf5 1 = .ok (.getfield 9, 3) := by decide +kernel
theorem dJ0_length_8abf5_4 : decode cJ0_length_8abf5 4 = .ok (.arraylength, 1) := by decide +kernel
theorem dJ0_length_8abf5_5 : decode cJ0_length_8abf5 5 = .ok (.aload_n 0, 1) := by decide +kernel
theorem dJ0_length_8abf5_6 : decode cJ0_length_8abf5 6 = .ok (.invokevirtual 335, 3) := by decide +kernel
theorem dJ0_length_8abf5_9 : decode cJ0_length_8abf5 9 = .ok (.ishr, 1) := by decide +kernel
theorem dJ0_length_8abf5_10 : decode cJ0_length_8abf5 10 = .ok (.ireturn, 1) := by decide +kernel
theorem dJ0_charAt_5068e_0 : decode cJ0_charAt_5068e 0 = .ok (.aload_n 0, 1) := by decide +kernel
theorem dJ0_charAt_5068e_1 : decode cJ0_charAt_5068e 1 = .ok (.invokevirtual 492, 3) := by decide +kernel
theorem dJ0_charAt_5068e_4 : decode cJ0_charAt_5068e 4 = .ok (.ifCond .eq 12, 3) := by decide +kernel
theorem dJ0_charAt_5068e_7 : decode cJ0_charAt_5068e 7 = .ok (.aload_n 0, 1) := by decide +kernel
theorem dJ0_charAt_5068e_8 : decode cJ0_charAt_5068e 8 = .ok (.getfield 9, 3) := by decide +kernel
theorem dJ0_charAt_5068e_11 : decode cJ0_charAt_5068e 11 = .ok (.iload_n 1, 1) := by decide +kernel
theorem dJ0_charAt_5068e_12 : decode cJ0_charAt_5068e 12 = .ok (.invokestatic 495, 3) := by decide +kernel
theorem dJ0_charAt_5068e_15 : decode cJ0_charAt_5068e 15 = .ok (.ireturn, 1) := by decide +kernel
theorem dJ0_charAt_5068e_16 : decode cJ0_charAt_5068e 16 = .ok (.aload_n 0, 1) := by decide +kernel
theorem dJ0_charAt_5068e_17 : decode cJ0_charAt_5068e 17 = .ok (.getfield 9, 3) := by decide +kernel
theorem dJ0_charAt_5068e_20 : decode cJ0_charAt_5068e 20 = .ok (.iload_n 1, 1) := by decide +kernel
theorem dJ0_charAt_5068e_21 : decode cJ0_charAt_5068e 21 = .ok (.invokestatic 498, 3) := by decide +kernel
theorem dJ0_charAt_5068e_24 : decode cJ0_charAt_5068e 24 = .ok (.ireturn, 1) := by decide +kernel
theorem dJ0_coder_7d493_0 : decode cJ0_coder_7d493 0 = .ok (.getstatic 38, 3) := by decide +kernel
theorem dJ0_coder_7d493_3 : decode cJ0_coder_7d493 3 = .ok (.ifCond .eq 10, 3) := by decide +kernel
theorem dJ0_coder_7d493_6 : decode cJ0_coder_7d493 6 = .ok (.aload_n 0, 1) := by decide +kernel
theorem dJ0_coder_7d493_7 : decode cJ0_coder_7d493 7 = .ok (.getfield 15, 3) := by decide +kernel
theorem dJ0_coder_7d493_10 : decode cJ0_coder_7d493 10 = .ok (.goto 4, 3) := by decide +kernel
theorem dJ0_coder_7d493_13 : decode cJ0_coder_7d493 13 = .ok (.iconst 1, 1) := by decide +kernel
theorem dJ0_coder_7d493_14 : decode cJ0_coder_7d493 14 = .ok (.ireturn, 1) := by decide +kernel
theorem dJ0_isLatin1_aae02_0 : decode cJ0_isLatin1_aae02 0 = .ok (.getstatic 38, 3) := by decide +kernel
theorem dJ0_isLatin1_aae02_3 : decode cJ0_isLatin1_aae02 3 = .ok (.ifCond .eq 14, 3) := by decide +kernel
theorem dJ0_isLatin1_aae02_6 : decode cJ0_isLatin1_aae02 6 = .ok (.aload_n 0, 1) := by decide +kernel
theorem dJ0_isLatin1_aae02_7 : decode cJ0_isLatin1_aae02 7 = .ok (.getfield 15, 3) := by decide +kernel
theorem dJ0_isLatin1_aae02_10 : decode cJ0_isLatin1_aae02 10 = .ok (.ifCond .ne 7, 3) := by decide +kernel
theorem dJ0_isLatin1_aae02_13 : decode cJ0_isLatin1_aae02 13 = .ok (.iconst 1, 1) := by decide +kernel
theorem dJ0_isLatin1_aae02_14 : decode cJ0_isLatin1_aae02 14 = .ok (.goto 4, 3) := by decide +kernel
theorem dJ0_isLatin1_aae02_17 : decode cJ0_isLatin1_aae02 17 = .ok (.iconst 0, 1) := by decide +kernel
theorem dJ0_isLatin1_aae02_18 : decode cJ0_isLatin1_aae02 18 = .ok (.ireturn, 1) := by decide +kernel
theorem dJ0_checkIndex_df160_0 : decode cJ0_checkIndex_df160 0 = .ok (.iload_n 0, 1) := by decide +kernel
theorem dJ0_checkIndex_df160_1 : decode cJ0_checkIndex_df160 1 = .ok (.iload_n 1, 1) := by decide +kernel
theorem dJ0_checkIndex_df160_2 : decode cJ0_checkIndex_df160 2 = .ok (.getstatic 1053, 3) := by decide +kernel
theorem dJ0_checkIndex_df160_5 : decode cJ0_checkIndex_df160 5 = .ok (.invokestatic 1059, 3) := by decide +kernel
theorem dJ0_checkIndex_df160_8 : decode cJ0_checkIndex_df160 8 = .ok (.pop, 1) := by decide +kernel
theorem dJ0_checkIndex_df160_9 : decode cJ0_checkIndex_df160 9 = .ok (.return_, 1) := by decide +kernel
theorem dJ1_charAt_3b067_0 : decode cJ1_charAt_3b067 0 = .ok (.iload_n 1, 1) := by decide +kernel
theorem dJ1_charAt_3b067_1 : decode cJ1_charAt_3b067 1 = .ok (.aload_n 0, 1) := by decide +kernel
theorem dJ1_charAt_3b067_2 : decode cJ1_charAt_3b067 2 = .ok (.arraylength, 1) := by decide +kernel
theorem dJ1_charAt_3b067_3 : decode cJ1_charAt_3b067 3 = .ok (.invokestatic 9, 3) := by decide +kernel
theorem dJ1_charAt_3b067_6 : decode cJ1_charAt_3b067 6 = .ok (.aload_n 0, 1) := by decide +kernel
theorem dJ1_charAt_3b067_7 : decode cJ1_charAt_3b067 7 = .ok (.iload_n 1, 1) := by decide +kernel
theorem dJ1_charAt_3b067_8 : decode cJ1_charAt_3b067 8 = .ok (.baload, 1) := by decide +kernel
theorem dJ1_charAt_3b067_9 : decode cJ1_charAt_3b067 9 = .ok (.sipush 255, 3) := by decide +kernel
theorem dJ1_charAt_3b067_12 : decode cJ1_charAt_3b067 12 = .ok (.iand, 1) := by decide +kernel
theorem dJ1_charAt_3b067_13 : decode cJ1_charAt_3b067 13 = .ok (.i2c, 1) := by decide +kernel
theorem dJ1_charAt_3b067_14 : decode cJ1_charAt_3b067 14 = .ok (.ireturn, 1) := by decide +kernel
theorem dJ2_getChar_3b067_0 : decode cJ2_getChar_3b067 0 = .ok (.getstatic 44, 3) := by decide +kernel
theorem dJ2_getChar_3b067_3 : decode cJ2_getChar_3b067 3 = .ok (.ifCond .ne 25, 3) := by decide +kernel
theorem dJ2_getChar_3b067_6 : decode cJ2_getChar_3b067 6 = .ok (.iload_n 1, 1) := by decide +kernel
theorem dJ2_getChar_3b067_7 : decode cJ2_getChar_3b067 7 = .ok (.ifCond .lt 11, 3) := by decide +kernel
theorem dJ2_getChar_3b067_10 : decode cJ2_getChar_3b067 10 = .ok (.iload_n 1, 1) := by decide +kernel
theorem dJ2_getChar_3b067_11 : decode cJ2_getChar_3b067 11 = .ok (.aload_n 0, 1) := by decide +kernel
theorem dJ2_getChar_3b067_12 : decode cJ2_getChar_3b067 12 = .ok (.invokestatic 48, 3) := by decide +kernel
theorem dJ2_getChar_3b067_15 : decode cJ2_getChar_3b067 15 = .ok (.if_icmp .lt 13, 3) := by decide +kernel
theorem dJ2_getChar_3b067_18 : decode cJ2_getChar_3b067 18 = .ok (.new 52, 3) := by decide +kernel
theorem dJ2_getChar_3b067_21 : decode cJ2_getChar_3b067 21 = .ok (.dup, 1) := by decide +kernel
theorem dJ2_getChar_3b067_22 : decode cJ2_getChar_3b067 22 = .ok (.ldc 54, 2) := by decide +kernel
theorem dJ2_getChar_3b067_24 : decode cJ2_getChar_3b067 24 = .ok (.invokespecial 56, 3) := by decide +kernel
theorem dJ2_getChar_3b067_27 : decode cJ2_getChar_3b067 27 = .ok (.athrow, 1) := by decide +kernel
theorem dJ2_getChar_3b067_28 : decode cJ2_getChar_3b067 28 = .ok (.iload_n 1, 1) := by decide +kernel
theorem dJ2_getChar_3b067_29 : decode cJ2_getChar_3b067 29 = .ok (.iconst 1, 1) := by decide +kernel
theorem dJ2_getChar_3b067_30 : decode cJ2_getChar_3b067 30 = .ok (.ishl, 1) := by decide +kernel
theorem dJ2_getChar_3b067_31 : decode cJ2_getChar_3b067 31 = .ok (.istore_n 1, 1) := by decide +kernel
theorem dJ2_getChar_3b067_32 : decode cJ2_getChar_3b067 32 = .ok (.aload_n 0, 1) := by decide +kernel
theorem dJ2_getChar_3b067_33 : decode cJ2_getChar_3b067 33 = .ok (.iload_n 1, 1) := by decide +kernel
theorem dJ2_getChar_3b067_34 : decode cJ2_getChar_3b067 34 = .ok (.iinc 1 1, 3) := by decide +kernel
theorem dJ2_getChar_3b067_37 : decode cJ2_getChar_3b067 37 = .ok (.baload, 1) := by decide +kernel
theorem dJ2_getChar_3b067_38 : decode cJ2_getChar_3b067 38 = .ok (.sipush 255, 3) := by decide +kernel
theorem dJ2_getChar_3b067_41 : decode cJ2_getChar_3b067 41 = .ok (.iand, 1) := by decide +kernel
theorem dJ2_getChar_3b067_42 : decode cJ2_getChar_3b067 42 = .ok (.getstatic 59, 3) := by decide +kernel
theorem dJ2_getChar_3b067_45 : decode cJ2_getChar_3b067 45 = .ok (.ishl, 1) := by decide +kernel
theorem dJ2_getChar_3b067_46 : decode cJ2_getChar_3b067 46 = .ok (.aload_n 0, 1) := by decide +kernel
theorem dJ2_getChar_3b067_47 : decode cJ2_getChar_3b067 47 = .ok (.iload_n 1, 1) := by decide +kernel
theorem dJ2_getChar_3b067_48 : decode cJ2_getChar_3b067 48 = .ok (.baload, 1) := by decide +kernel
theorem dJ2_getChar_3b067_49 : decode cJ2_getChar_3b067 49 = .ok (.sipush 255, 3) := by decide +kernel
theorem dJ2_getChar_3b067_52 : decode cJ2_getChar_3b067 52 = .ok (.iand, 1) := by decide +kernel
theorem dJ2_getChar_3b067_53 : decode cJ2_getChar_3b067 53 = .ok (.getstatic 63, 3) := by decide +kernel
theorem dJ2_getChar_3b067_56 : decode cJ2_getChar_3b067 56 = .ok (.ishl, 1) := by decide +kernel
theorem dJ2_getChar_3b067_57 : decode cJ2_getChar_3b067 57 = .ok (.ior, 1) := by decide +kernel
theorem dJ2_getChar_3b067_58 : decode cJ2_getChar_3b067 58 = .ok (.i2c, 1) := by decide +kernel
theorem dJ2_getChar_3b067_59 : decode cJ2_getChar_3b067 59 = .ok (.ireturn, 1) := by decide +kernel
theorem dJ2_length_9d52b_0 : decode cJ2_length_9d52b 0 = .ok (.aload_n 0, 1) := by decide +kernel
theorem dJ2_length_9d52b_1 : decode cJ2_length_9d52b 1 = .ok (.arraylength, 1) := by decide +kernel
theorem dJ2_length_9d52b_2 : decode cJ2_length_9d52b 2 = .ok (.iconst 1, 1) := by decide +kernel
theorem dJ2_length_9d52b_3 : decode cJ2_length_9d52b 3 = .ok (.ishr, 1) := by decide +kernel
theorem dJ2_length_9d52b_4 : decode cJ2_length_9d52b 4 = .ok (.ireturn, 1) := by decide +kernel
theorem dJ2_charAt_3b067_0 : decode cJ2_charAt_3b067 0 = .ok (.iload_n 1, 1) := by decide +kernel
theorem dJ2_charAt_3b067_1 : decode cJ2_charAt_3b067 1 = .ok (.aload_n 0, 1) := by decide +kernel
theorem dJ2_charAt_3b067_2 : decode cJ2_charAt_3b067 2 = .ok (.invokestatic 67, 3) := by decide +kernel
theorem dJ2_charAt_3b067_5 : decode cJ2_charAt_3b067 5 = .ok (.aload_n 0, 1) := by decide +kernel
theorem dJ2_charAt_3b067_6 : decode cJ2_charAt_3b067 6 = .ok (.iload_n 1, 1) := by decide +kernel
theorem dJ2_charAt_3b067_7 : decode cJ2_charAt_3b067 7 = .ok (.invokestatic 71, 3) := by decide +kernel
theorem dJ2_charAt_3b067_10 : decode cJ2_charAt_3b067 10 = .ok (.ireturn, 1) := by decide +kernel
theorem dJ2_checkIndex_2214a_0 : decode cJ2_checkIndex_2214a 0 = .ok (.iload_n 0, 1) := by decide +kernel
theorem dJ2_checkIndex_2214a_1 : decode cJ2_checkIndex_2214a 1 = .ok (.aload_n 1, 1) := by decide +kernel
theorem dJ2_checkIndex_2214a_2 : decode cJ2_checkIndex_2214a 2 = .ok (.invokestatic 48, 3) := by decide +kernel
theorem dJ2_checkIndex_2214a_5 : decode cJ2_checkIndex_2214a 5 = .ok (.invokestatic 414, 3) := by decide +kernel
theorem dJ2_checkIndex_2214a_8 : decode cJ2_checkIndex_2214a 8 = .ok (.return_, 1) := by decide +kernel
theorem dJ7_fill_d0a16_0 : decode cJ7_fill_d0a16 0 = .ok (.iconst 0, 1) := by decide +kernel
theorem dJ7_fill_d0a16_1 : decode cJ7_fill_d0a16 1 = .ok (.istore_n 3, 1) := by decide +kernel
theorem dJ7_fill_d0a16_2 : decode cJ7_fill_d0a16 2 = .ok (.aload_n 0, 1) := by decide +kernel
theorem dJ7_fill_d0a16_3 : decode cJ7_fill_d0a16 3 = .ok (.arraylength, 1) := by decide +kernel
theorem dJ7_fill_d0a16_4 : decode cJ7_fill_d0a16 4 = .ok (.istore 4, 2) := by decide +kernel
theorem dJ7_fill_d0a16_6 : decode cJ7_fill_d0a16 6 = .ok (.iload_n 3, 1) := by decide +kernel
theorem dJ7_fill_d0a16_7 : decode cJ7_fill_d0a16 7 = .ok (.iload 4, 2) := by decide +kernel
theorem dJ7_fill_d0a16_9 : decode cJ7_fill_d0a16 9 = .ok (.if_icmp .ge 13, 3) := by decide +kernel
theorem dJ7_fill_d0a16_12 : decode cJ7_fill_d0a16 12 = .ok (.aload_n 0, 1) := by decide +kernel
theorem dJ7_fill_d0a16_13 : decode cJ7_fill_d0a16 13 = .ok (.iload_n 3, 1) := by decide +kernel
theorem dJ7_fill_d0a16_14 : decode cJ7_fill_d0a16 14 = .ok (.lload_n 1, 1) := by decide +kernel
theorem dJ7_fill_d0a16_15 : decode cJ7_fill_d0a16 15 = .ok (.lastore, 1) := by decide +kernel
theorem dJ7_fill_d0a16_16 : decode cJ7_fill_d0a16 16 = .ok (.iinc 3 1, 3) := by decide +kernel
theorem dJ7_fill_d0a16_19 : decode cJ7_fill_d0a16 19 = .ok (.goto (-13), 3) := by decide +kernel
theorem dJ7_fill_d0a16_22 : decode cJ7_fill_d0a16 22 = .ok (.return_, 1) := by decide +kernel
theorem dJ7_fill_53178_0 : decode cJ7_fill_53178 0 = .ok (.iconst 0, 1) := by decide +kernel
theorem dJ7_fill_53178_1 : decode cJ7_fill_53178 1 = .ok (.istore_n 2, 1) := by decide +kernel
theorem dJ7_fill_53178_2 : decode cJ7_fill_53178 2 = .ok (.aload_n 0, 1) := by decide +kernel
theorem dJ7_fill_53178_3 : decode cJ7_fill_53178 3 = .ok (.arraylength, 1) := by decide +kernel
theorem dJ7_fill_53178_4 : decode cJ7_fill_53178 4 = .ok (.istore_n 3, 1) := by decide +kernel
theorem dJ7_fill_53178_5 : decode cJ7_fill_53178 5 = .ok (.iload_n 2, 1) := by decide +kernel
theorem dJ7_fill_53178_6 : decode cJ7_fill_53178 6 = .ok (.iload_n 3, 1) := by decide +kernel
theorem dJ7_fill_53178_7 : decode cJ7_fill_53178 7 = .ok (.if_icmp .ge 13, 3) := by decide +kernel
theorem dJ7_fill_53178_10 : decode cJ7_fill_53178 10 = .ok (.aload_n 0, 1) := by decide +kernel
theorem dJ7_fill_53178_11 : decode cJ7_fill_53178 11 = .ok (.iload_n 2, 1) := by decide +kernel
theorem dJ7_fill_53178_12 : decode cJ7_fill_53178 12 = .ok (.iload_n 1, 1) := by decide +kernel
theorem dJ7_fill_53178_13 : decode cJ7_fill_53178 13 = .ok (.iastore, 1) := by decide +kernel
theorem dJ7_fill_53178_14 : decode cJ7_fill_53178 14 = .ok (.iinc 2 1, 3) := by decide +kernel
theorem dJ7_fill_53178_17 : decode cJ7_fill_53178 17 = .ok (.goto (-12), 3) := by decide +kernel
theorem dJ7_fill_53178_20 : decode cJ7_fill_53178 20 = .ok (.return_, 1) := by decide +kernel
theorem dJ3_checkIndex_8e157_0 : decode cJ3_checkIndex_8e157 0 = .ok (.iload_n 0, 1) := by decide +kernel
theorem dJ3_checkIndex_8e157_1 : decode cJ3_checkIndex_8e157 1 = .ok (.ifCond .lt 8, 3) := by decide +kernel
theorem dJ3_checkIndex_8e157_4 : decode cJ3_checkIndex_8e157 4 = .ok (.iload_n 0, 1) := by decide +kernel
theorem dJ3_checkIndex_8e157_5 : decode cJ3_checkIndex_8e157 5 = .ok (.iload_n 1, 1) := by decide +kernel
theorem dJ3_checkIndex_8e157_6 : decode cJ3_checkIndex_8e157 6 = .ok (.if_icmp .lt 10, 3) := by decide +kernel
theorem dJ3_checkIndex_8e157_9 : decode cJ3_checkIndex_8e157 9 = .ok (.aload_n 2, 1) := by decide +kernel
theorem dJ3_checkIndex_8e157_10 : decode cJ3_checkIndex_8e157 10 = .ok (.iload_n 0, 1) := by decide +kernel
theorem dJ3_checkIndex_8e157_11 : decode cJ3_checkIndex_8e157 11 = .ok (.iload_n 1, 1) := by decide +kernel
theorem dJ3_checkIndex_8e157_12 : decode cJ3_checkIndex_8e157 12 = .ok (.invokestatic 95, 3) := by decide +kernel
theorem dJ3_checkIndex_8e157_15 : decode cJ3_checkIndex_8e157 15 = .ok (.athrow, 1) := by decide +kernel
theorem dJ3_checkIndex_8e157_16 : decode cJ3_checkIndex_8e157 16 = .ok (.iload_n 0, 1) := by decide +kernel
theorem dJ3_checkIndex_8e157_17 : decode cJ3_checkIndex_8e157 17 = .ok (.ireturn, 1) := by decide +kernel
