theorem dX7_cord_67 : decode cX7_cord 67 = .ok (.ireturn, 1) := by decide +kernel
theorem dX7_cord_68 : decode cX7_cord 68 = .ok (.iload_n 2, 1) := by decide +kernel
theorem dX7_cord_69 : decode cX7_cord 69 = .ok (.aload_n 0, 1) := by decide +kernel
theorem dX7_cord_70 : decode cX7_cord 70 = .ok (.getfield 29, 3) := by decide +kernel
theorem dX7_cord_73 : decode cX7_cord 73 = .ok (.bipush 8, 2) := by decide +kernel
theorem dX7_cord_75 : decode cX7_cord 75 = .ok (.iload_n 1, 1) := by decide +kernel
theorem dX7_cord_76 : decode cX7_cord 76 = .ok (.iadd, 1) := by decide +kernel
theorem dX7_cord_77 : decode cX7_cord 77 = .ok (.iaload, 1) := by decide +kernel
theorem dX7_cord_78 : decode cX7_cord 78 = .ok (.invokestatic 197, 3) := by decide +kernel
theorem dX7_cord_81 : decode cX7_cord 81 = .ok (.istore_n 3, 1) := by decide +kernel
theorem dX7_cord_82 : decode cX7_cord 82 = .ok (.aload_n 0, 1) := by decide +kernel
theorem dX7_cord_83 : decode cX7_cord 83 = .ok (.getfield 29, 3) := by decide +kernel
theorem dX7_cord_86 : decode cX7_cord 86 = .ok (.bipush 8, 2) := by decide +kernel
theorem dX7_cord_88 : decode cX7_cord 88 = .ok (.iload_n 1, 1) := by decide +kernel
theorem dX7_cord_89 : decode cX7_cord 89 = .ok (.iadd, 1) := by decide +kernel
theorem dX7_cord_90 : decode cX7_cord 90 = .ok (.iload_n 2, 1) := by decide +kernel
theorem dX7_cord_91 : decode cX7_cord 91 = .ok (.iastore, 1) := by decide +kernel
theorem dX7_cord_92 : decode cX7_cord 92 = .ok (.aload_n 0, 1) := by decide +kernel
theorem dX7_cord_93 : decode cX7_cord 93 = .ok (.getfield 29, 3) := by decide +kernel
theorem dX7_cord_96 : decode cX7_cord 96 = .ok (.bipush 12, 2) := by decide +kernel
theorem dX7_cord_98 : decode cX7_cord 98 = .ok (.iload_n 1, 1) := by decide +kernel
theorem dX7_cord_99 : decode cX7_cord 99 = .ok (.iadd, 1) := by decide +kernel
theorem dX7_cord_100 : decode cX7_cord 100 = .ok (.dup2, 1) := by decide +kernel
theorem dX7_cord_101 : decode cX7_cord 101 = .ok (.iaload, 1) := by decide +kernel
theorem dX7_cord_102 : decode cX7_cord 102 = .ok (.iload_n 3, 1) := by decide +kernel
theorem dX7_cord_103 : decode cX7_cord 103 = .ok (.iadd, 1) := by decide +kernel
theorem dX7_cord_104 : decode cX7_cord 104 = .ok (.iastore, 1) := by decide +kernel
theorem dX7_cord_105 : decode cX7_cord 105 = .ok (.iload_n 3, 1) := by decide +kernel
theorem dX7_cord_106 : decode cX7_cord 106 = .ok (.ireturn, 1) := by decide +kernel
theorem dX7_go_0 : decode cX7_go 0 = .ok (.iload_n 1, 1) := by decide +kernel
theorem dX7_go_1 : decode cX7_go 1 = .ok (.iconst 1, 1) := by decide +kernel
theorem dX7_go_2 : decode cX7_go 2 = .ok (.bipush 24, 2) := by decide +kernel
theorem dX7_go_4 : decode cX7_go 4 = .ok (.invokestatic 61, 3) := by decide +kernel
theorem dX7_go_7 : decode cX7_go 7 = .ok (.ifCond .ne 6, 3) := by decide +kernel
theorem dX7_go_10 : decode cX7_go 10 = .ok (.bipush (-3), 2) := by decide +kernel
theorem dX7_go_12 : decode cX7_go 12 = .ok (.ireturn, 1) := by decide +kernel
theorem dX7_go_13 : decode cX7_go 13 = .ok (.iconst 0, 1) := by decide +kernel
theorem dX7_go_14 : decode cX7_go 14 = .ok (.istore_n 2, 1) := by decide +kernel
theorem dX7_go_15 : decode cX7_go 15 = .ok (.iload_n 2, 1) := by decide +kernel
theorem dX7_go_16 : decode cX7_go 16 = .ok (.iload_n 1, 1) := by decide +kernel
theorem dX7_go_17 : decode cX7_go 17 = .ok (.if_icmp .ge 147, 3) := by decide +kernel
theorem dX7_go_20 : decode cX7_go 20 = .ok (.aload_n 0, 1) := by decide +kernel
theorem dX7_go_21 : decode cX7_go 21 = .ok (.getfield 29, 3) := by decide +kernel
theorem dX7_go_24 : decode cX7_go 24 = .ok (.bipush 20, 2) := by decide +kernel
theorem dX7_go_26 : decode cX7_go 26 = .ok (.iaload, 1) := by decide +kernel
theorem dX7_go_27 : decode cX7_go 27 = .ok (.bipush 24, 2) := by decide +kernel
theorem dX7_go_29 : decode cX7_go 29 = .ok (.if_icmp .ge 135, 3) := by decide +kernel
theorem dX7_go_32 : decode cX7_go 32 = .ok (.iconst 0, 1) := by decide +kernel
theorem dX7_go_33 : decode cX7_go 33 = .ok (.istore_n 3, 1) := by decide +kernel
theorem dX7_go_34 : decode cX7_go 34 = .ok (.iload_n 3, 1) := by decide +kernel
theorem dX7_go_35 : decode cX7_go 35 = .ok (.iconst 4, 1) := by decide +kernel
theorem dX7_go_36 : decode cX7_go 36 = .ok (.if_icmp .ge 111, 3) := by decide +kernel
theorem dX7_go_39 : decode cX7_go 39 = .ok (.aload_n 0, 1) := by decide +kernel
theorem dX7_go_40 : decode cX7_go 40 = .ok (.getfield 65, 3) := by decide +kernel
theorem dX7_go_43 : decode cX7_go 43 = .ok (.iload_n 3, 1) := by decide +kernel
theorem dX7_go_44 : decode cX7_go 44 = .ok (.invokestatic 68, 3) := by decide +kernel
theorem dX7_go_47 : decode cX7_go 47 = .ok (.ifCond .eq 94, 3) := by decide +kernel
theorem dX7_go_50 : decode cX7_go 50 = .ok (.aload_n 0, 1) := by decide +kernel
theorem dX7_go_51 : decode cX7_go 51 = .ok (.getfield 29, 3) := by decide +kernel
theorem dX7_go_54 : decode cX7_go 54 = .ok (.iload_n 3, 1) := by decide +kernel
theorem dX7_go_55 : decode cX7_go 55 = .ok (.iaload, 1) := by decide +kernel
theorem dX7_go_56 : decode cX7_go 56 = .ok (.sipush 160, 3) := by decide +kernel
theorem dX7_go_59 : decode cX7_go 59 = .ok (.if_icmp .eq 82, 3) := by decide +kernel
theorem dX7_go_62 : decode cX7_go 62 = .ok (.aload_n 0, 1) := by decide +kernel
theorem dX7_go_63 : decode cX7_go 63 = .ok (.getfield 29, 3) := by decide +kernel
theorem dX7_go_66 : decode cX7_go 66 = .ok (.bipush 8, 2) := by decide +kernel
theorem dX7_go_68 : decode cX7_go 68 = .ok (.iload_n 3, 1) := by decide +kernel
theorem dX7_go_69 : decode cX7_go 69 = .ok (.iadd, 1) := by decide +kernel
theorem dX7_go_70 : decode cX7_go 70 = .ok (.iaload, 1) := by decide +kernel
theorem dX7_go_71 : decode cX7_go 71 = .ok (.istore 4, 2) := by decide +kernel
theorem dX7_go_73 : decode cX7_go 73 = .ok (.aload_n 0, 1) := by decide +kernel
theorem dX7_go_74 : decode cX7_go 74 = .ok (.iload_n 3, 1) := by decide +kernel
theorem dX7_go_75 : decode cX7_go 75 = .ok (.aload_n 0, 1) := by decide +kernel
theorem dX7_go_76 : decode cX7_go 76 = .ok (.getfield 29, 3) := by decide +kernel
theorem dX7_go_79 : decode cX7_go 79 = .ok (.iload_n 3, 1) := by decide +kernel
theorem dX7_go_80 : decode cX7_go 80 = .ok (.iaload, 1) := by decide +kernel
theorem dX7_go_81 : decode cX7_go 81 = .ok (.iload 4, 2) := by decide +kernel
theorem dX7_go_83 : decode cX7_go 83 = .ok (.aload_n 0, 1) := by decide +kernel
theorem dX7_go_84 : decode cX7_go 84 = .ok (.getfield 29, 3) := by decide +kernel
theorem dX7_go_87 : decode cX7_go 87 = .ok (.bipush 20, 2) := by decide +kernel
theorem dX7_go_89 : decode cX7_go 89 = .ok (.iaload, 1) := by decide +kernel
theorem dX7_go_90 : decode cX7_go 90 = .ok (.invokevirtual 205, 3) := by decide +kernel
theorem dX7_go_93 : decode cX7_go 93 = .ok (.istore 5, 2) := by decide +kernel
theorem dX7_go_95 : decode cX7_go 95 = .ok (.aload_n 0, 1) := by decide +kernel
theorem dX7_go_96 : decode cX7_go 96 = .ok (.getfield 29, 3) := by decide +kernel
theorem dX7_go_99 : decode cX7_go 99 = .ok (.iconst 4, 1) := by decide +kernel
theorem dX7_go_100 : decode cX7_go 100 = .ok (.iload_n 3, 1) := by decide +kernel
theorem dX7_go_101 : decode cX7_go 101 = .ok (.iadd, 1) := by decide +kernel
theorem dX7_go_102 : decode cX7_go 102 = .ok (.iload 4, 2) := by decide +kernel
theorem dX7_go_104 : decode cX7_go 104 = .ok (.iastore, 1) := by decide +kernel
theorem dX7_go_105 : decode cX7_go 105 = .ok (.aload_n 0, 1) := by decide +kernel
theorem dX7_go_106 : decode cX7_go 106 = .ok (.getfield 29, 3) := by decide +kernel
theorem dX7_go_109 : decode cX7_go 109 = .ok (.bipush 16, 2) := by decide +kernel
theorem dX7_go_111 : decode cX7_go 111 = .ok (.iload_n 3, 1) := by decide +kernel
theorem dX7_go_112 : decode cX7_go 112 = .ok (.iadd, 1) := by decide +kernel
theorem dX7_go_113 : decode cX7_go 113 = .ok (.dup2, 1) := by decide +kernel
theorem dX7_go_114 : decode cX7_go 114 = .ok (.iaload, 1) := by decide +kernel
theorem dX7_go_115 : decode cX7_go 115 = .ok (.iload 5, 2) := by decide +kernel
theorem dX7_go_117 : decode cX7_go 117 = .ok (.aload_n 0, 1) := by decide +kernel
theorem dX7_go_118 : decode cX7_go 118 = .ok (.getfield 29, 3) := by decide +kernel
theorem dX7_go_121 : decode cX7_go 121 = .ok (.iload_n 3, 1) := by decide +kernel
theorem dX7_go_122 : decode cX7_go 122 = .ok (.iaload, 1) := by decide +kernel
theorem dX7_go_123 : decode cX7_go 123 = .ok (.if_icmp .ne 7, 3) := by decide +kernel
theorem dX7_go_126 : decode cX7_go 126 = .ok (.iconst 1, 1) := by decide +kernel
theorem dX7_go_127 : decode cX7_go 127 = .ok (.goto 4, 3) := by decide +kernel
theorem dX7_go_130 : decode cX7_go 130 = .ok (.iconst 0, 1) := by decide +kernel
theorem dX7_go_131 : decode cX7_go 131 = .ok (.iadd, 1) := by decide +kernel
theorem dX7_go_132 : decode cX7_go 132 = .ok (.iastore, 1) := by decide +kernel
theorem dX7_go_133 : decode cX7_go 133 = .ok (.aload_n 0, 1) := by decide +kernel
theorem dX7_go_134 : decode cX7_go 134 = .ok (.getfield 29, 3) := by decide +kernel
theorem dX7_go_137 : decode cX7_go 137 = .ok (.iload_n 3, 1) := by decide +kernel
theorem dX7_go_138 : decode cX7_go 138 = .ok (.iload 5, 2) := by decide +kernel
theorem dX7_go_140 : decode cX7_go 140 = .ok (.iastore, 1) := by decide +kernel
theorem dX7_go_141 : decode cX7_go 141 = .ok (.iinc 3 1, 3) := by decide +kernel
theorem dX7_go_144 : decode cX7_go 144 = .ok (.goto (-110), 3) := by decide +kernel
theorem dX7_go_147 : decode cX7_go 147 = .ok (.aload_n 0, 1) := by decide +kernel
theorem dX7_go_148 : decode cX7_go 148 = .ok (.getfield 29, 3) := by decide +kernel
theorem dX7_go_151 : decode cX7_go 151 = .ok (.bipush 20, 2) := by decide +kernel
theorem dX7_go_153 : decode cX7_go 153 = .ok (.dup2, 1) := by decide +kernel
theorem dX7_go_154 : decode cX7_go 154 = .ok (.iaload, 1) := by decide +kernel
theorem dX7_go_155 : decode cX7_go 155 = .ok (.iconst 1, 1) := by decide +kernel
theorem dX7_go_156 : decode cX7_go 156 = .ok (.iadd, 1) := by decide +kernel
theorem dX7_go_157 : decode cX7_go 157 = .ok (.iastore, 1) := by decide +kernel
theorem dX7_go_158 : decode cX7_go 158 = .ok (.iinc 2 1, 3) := by decide +kernel
theorem dX7_go_161 : decode cX7_go 161 = .ok (.goto (-146), 3) := by decide +kernel
theorem dX7_go_164 : decode cX7_go 164 = .ok (.aload_n 0, 1) := by decide +kernel
theorem dX7_go_165 : decode cX7_go 165 = .ok (.getfield 29, 3) := by decide +kernel
theorem dX7_go_168 : decode cX7_go 168 = .ok (.bipush 20, 2) := by decide +kernel
theorem dX7_go_170 : decode cX7_go 170 = .ok (.iaload, 1) := by decide +kernel
theorem dX7_go_171 : decode cX7_go 171 = .ok (.ireturn, 1) := by decide +kernel
theorem dX7_at_0 : decode cX7_at 0 = .ok (.aload_n 0, 1) := by decide +kernel
theorem dX7_at_1 : decode cX7_at 1 = .ok (.iload_n 1, 1) := by decide +kernel
theorem dX7_at_2 : decode cX7_at 2 = .ok (.invokevirtual 186, 3) := by decide +kernel
theorem dX7_at_5 : decode cX7_at 5 = .ok (.ifCond .ne 6, 3) := by decide +kernel
theorem dX7_at_8 : decode cX7_at 8 = .ok (.bipush (-2), 2) := by decide +kernel
theorem dX7_at_10 : decode cX7_at 10 = .ok (.ireturn, 1) := by decide +kernel
theorem dX7_at_11 : decode cX7_at 11 = .ok (.iload_n 2, 1) := by decide +kernel
theorem dX7_at_12 : decode cX7_at 12 = .ok (.tableswitch 118 0 4 #[36, 62, 88, 98, 108], 36) := by decide +kernel
theorem dX7_at_48 : decode cX7_at 48 = .ok (.aload_n 0, 1) := by decide +kernel
theorem dX7_at_49 : decode cX7_at 49 = .ok (.getfield 29, 3) := by decide +kernel
theorem dX7_at_52 : decode cX7_at 52 = .ok (.iload_n 1, 1) := by decide +kernel
theorem dX7_at_53 : decode cX7_at 53 = .ok (.iaload, 1) := by decide +kernel
theorem dX7_at_54 : decode cX7_at 54 = .ok (.sipush 160, 3) := by decide +kernel
theorem dX7_at_57 : decode cX7_at 57 = .ok (.if_icmp .ne 7, 3) := by decide +kernel
theorem dX7_at_60 : decode cX7_at 60 = .ok (.iconst (-1), 1) := by decide +kernel
theorem dX7_at_61 : decode cX7_at 61 = .ok (.goto 12, 3) := by decide +kernel
theorem dX7_at_64 : decode cX7_at 64 = .ok (.aload_n 0, 1) := by decide +kernel
theorem dX7_at_65 : decode cX7_at 65 = .ok (.getfield 29, 3) := by decide +kernel
theorem dX7_at_68 : decode cX7_at 68 = .ok (.iload_n 1, 1) := by decide +kernel
theorem dX7_at_69 : decode cX7_at 69 = .ok (.iaload, 1) := by decide +kernel
theorem dX7_at_70 : decode cX7_at 70 = .ok (.bipush 20, 2) := by decide +kernel
theorem dX7_at_72 : decode cX7_at 72 = .ok (.idiv, 1) := by decide +kernel
theorem dX7_at_73 : decode cX7_at 73 = .ok (.ireturn, 1) := by decide +kernel
theorem dX7_at_74 : decode cX7_at 74 = .ok (.aload_n 0, 1) := by decide +kernel
theorem dX7_at_75 : decode cX7_at 75 = .ok (.getfield 29, 3) := by decide +kernel
theorem dX7_at_78 : decode cX7_at 78 = .ok (.iload_n 1, 1) := by decide +kernel
theorem dX7_at_79 : decode cX7_at 79 = .ok (.iaload, 1) := by decide +kernel
theorem dX7_at_80 : decode cX7_at 80 = .ok (.sipush 160, 3) := by decide +kernel
theorem dX7_at_83 : decode cX7_at 83 = .ok (.if_icmp .ne 7, 3) := by decide +kernel
theorem dX7_at_86 : decode cX7_at 86 = .ok (.iconst 0, 1) := by decide +kernel
theorem dX7_at_87 : decode cX7_at 87 = .ok (.goto 12, 3) := by decide +kernel
theorem dX7_at_90 : decode cX7_at 90 = .ok (.aload_n 0, 1) := by decide +kernel
theorem dX7_at_91 : decode cX7_at 91 = .ok (.getfield 29, 3) := by decide +kernel
theorem dX7_at_94 : decode cX7_at 94 = .ok (.iload_n 1, 1) := by decide +kernel
theorem dX7_at_95 : decode cX7_at 95 = .ok (.iaload, 1) := by decide +kernel
theorem dX7_at_96 : decode cX7_at 96 = .ok (.bipush 20, 2) := by decide +kernel
theorem dX7_at_98 : decode cX7_at 98 = .ok (.irem, 1) := by decide +kernel
theorem dX7_at_99 : decode cX7_at 99 = .ok (.ireturn, 1) := by decide +kernel
theorem dX7_at_100 : decode cX7_at 100 = .ok (.aload_n 0, 1) := by decide +kernel
theorem dX7_at_101 : decode cX7_at 101 = .ok (.getfield 29, 3) := by decide +kernel
theorem dX7_at_104 : decode cX7_at 104 = .ok (.bipush 8, 2) := by decide +kernel
theorem dX7_at_106 : decode cX7_at 106 = .ok (.iload_n 1, 1) := by decide +kernel
theorem dX7_at_107 : decode cX7_at 107 = .ok (.iadd, 1) := by decide +kernel
theorem dX7_at_108 : decode cX7_at 108 = .ok (.iaload, 1) := by decide +kernel
theorem dX7_at_109 : decode cX7_at 109 = .ok (.ireturn, 1) := by decide +kernel
theorem dX7_at_110 : decode cX7_at 110 = .ok (.aload_n 0, 1) := by decide +kernel
theorem dX7_at_111 : decode cX7_at 111 = .ok (.getfield 29, 3) := by decide +kernel
theorem dX7_at_114 : decode cX7_at 114 = .ok (.bipush 12, 2) := by decide +kernel
theorem dX7_at_116 : decode cX7_at 116 = .ok (.iload_n 1, 1) := by decide +kernel
theorem dX7_at_117 : decode cX7_at 117 = .ok (.iadd, 1) := by decide +kernel
theorem dX7_at_118 : decode cX7_at 118 = .ok (.iaload, 1) := by decide +kernel
theorem dX7_at_119 : decode cX7_at 119 = .ok (.ireturn, 1) := by decide +kernel
theorem dX7_at_120 : decode cX7_at 120 = .ok (.aload_n 0, 1) := by decide +kernel
theorem dX7_at_121 : decode cX7_at 121 = .ok (.getfield 29, 3) := by decide +kernel
theorem dX7_at_124 : decode cX7_at 124 = .ok (.bipush 16, 2) := by decide +kernel
theorem dX7_at_126 : decode cX7_at 126 = .ok (.iload_n 1, 1) := by decide +kernel
theorem dX7_at_127 : decode cX7_at 127 = .ok (.iadd, 1) := by decide +kernel
theorem dX7_at_128 : decode cX7_at 128 = .ok (.iaload, 1) := by decide +kernel
theorem dX7_at_129 : decode cX7_at 129 = .ok (.ireturn, 1) := by decide +kernel
theorem dX7_at_130 : decode cX7_at 130 = .ok (.bipush (-3), 2) := by decide +kernel
theorem dX7_at_132 : decode cX7_at 132 = .ok (.ireturn, 1) := by decide +kernel
theorem dX7_isKnot_0 : decode cX7_isKnot 0 = .ok (.iload_n 0, 1) := by decide +kernel
theorem dX7_isKnot_1 : decode cX7_isKnot 1 = .ok (.sipush 160, 3) := by decide +kernel
theorem dX7_isKnot_4 : decode cX7_isKnot 4 = .ok (.if_icmp .eq 39, 3) := by decide +kernel
theorem dX7_isKnot_7 : decode cX7_isKnot 7 = .ok (.iload_n 2, 1) := by decide +kernel
theorem dX7_isKnot_8 : decode cX7_isKnot 8 = .ok (.sipush 160, 3) := by decide +kernel
theorem dX7_isKnot_11 : decode cX7_isKnot 11 = .ok (.if_icmp .eq 32, 3) := by decide +kernel
theorem dX7_isKnot_14 : decode cX7_isKnot 14 = .ok (.iload_n 0, 1) := by decide +kernel
theorem dX7_isKnot_15 : decode cX7_isKnot 15 = .ok (.bipush 20, 2) := by decide +kernel
theorem dX7_isKnot_17 : decode cX7_isKnot 17 = .ok (.idiv, 1) := by decide +kernel
theorem dX7_isKnot_18 : decode cX7_isKnot 18 = .ok (.iload_n 2, 1) := by decide +kernel
theorem dX7_isKnot_19 : decode cX7_isKnot 19 = .ok (.bipush 20, 2) := by decide +kernel
theorem dX7_isKnot_21 : decode cX7_isKnot 21 = .ok (.idiv, 1) := by decide +kernel
theorem dX7_isKnot_22 : decode cX7_isKnot 22 = .ok (.if_icmp .ne 21, 3) := by decide +kernel
theorem dX7_isKnot_25 : decode cX7_isKnot 25 = .ok (.iload_n 1, 1) := by decide +kernel
theorem dX7_isKnot_26 : decode cX7_isKnot 26 = .ok (.iload_n 3, 1) := by decide +kernel
theorem dX7_isKnot_27 : decode cX7_isKnot 27 = .ok (.if_icmp .ne 16, 3) := by decide +kernel
theorem dX7_isKnot_30 : decode cX7_isKnot 30 = .ok (.iload_n 0, 1) := by decide +kernel
theorem dX7_isKnot_31 : decode cX7_isKnot 31 = .ok (.iload_n 2, 1) := by decide +kernel
theorem dX7_isKnot_32 : decode cX7_isKnot 32 = .ok (.invokestatic 197, 3) := by decide +kernel
theorem dX7_isKnot_35 : decode cX7_isKnot 35 = .ok (.iconst 2, 1) := by decide +kernel
theorem dX7_isKnot_36 : decode cX7_isKnot 36 = .ok (.if_icmp .ge 7, 3) := by decide +kernel
theorem dX7_isKnot_39 : decode cX7_isKnot 39 = .ok (.iconst 1, 1) := by decide +kernel
theorem dX7_isKnot_40 : decode cX7_isKnot 40 = .ok (.goto 4, 3) := by decide +kernel
theorem dX7_isKnot_43 : decode cX7_isKnot 43 = .ok (.iconst 0, 1) := by decide +kernel
theorem dX7_isKnot_44 : decode cX7_isKnot 44 = .ok (.ireturn, 1) := by decide +kernel
theorem dX7_knots_0 : decode cX7_knots 0 = .ok (.aload_n 0, 1) := by decide +kernel
theorem dX7_knots_1 : decode cX7_knots 1 = .ok (.iload_n 1, 1) := by decide +kernel
theorem dX7_knots_2 : decode cX7_knots 2 = .ok (.invokevirtual 186, 3) := by decide +kernel
theorem dX7_knots_5 : decode cX7_knots 5 = .ok (.ifCond .ne 6, 3) := by decide +kernel
theorem dX7_knots_8 : decode cX7_knots 8 = .ok (.bipush (-2), 2) := by decide +kernel
theorem dX7_knots_10 : decode cX7_knots 10 = .ok (.ireturn, 1) := by decide +kernel
theorem dX7_knots_11 : decode cX7_knots 11 = .ok (.iconst 0, 1) := by decide +kernel
theorem dX7_knots_12 : decode cX7_knots 12 = .ok (.istore_n 2, 1) := by decide +kernel
theorem dX7_knots_13 : decode cX7_knots 13 = .ok (.iconst 0, 1) := by decide +kernel
theorem dX7_knots_14 : decode cX7_knots 14 = .ok (.istore_n 3, 1) := by decide +kernel
theorem dX7_knots_15 : decode cX7_knots 15 = .ok (.iload_n 3, 1) := by decide +kernel
theorem dX7_knots_16 : decode cX7_knots 16 = .ok (.iconst 4, 1) := by decide +kernel
theorem dX7_knots_17 : decode cX7_knots 17 = .ok (.if_icmp .ge 71, 3) := by decide +kernel
theorem dX7_knots_20 : decode cX7_knots 20 = .ok (.iload_n 2, 1) := by decide +kernel
theorem dX7_knots_21 : decode cX7_knots 21 = .ok (.iload_n 3, 1) := by decide +kernel
theorem dX7_knots_22 : decode cX7_knots 22 = .ok (.iload_n 1, 1) := by decide +kernel
theorem dX7_knots_23 : decode cX7_knots 23 = .ok (.if_icmp .eq 56, 3) := by decide +kernel
theorem dX7_knots_26 : decode cX7_knots 26 = .ok (.aload_n 0, 1) := by decide +kernel
theorem dX7_knots_27 : decode cX7_knots 27 = .ok (.getfield 65, 3) := by decide +kernel
theorem dX7_knots_30 : decode cX7_knots 30 = .ok (.iload_n 3, 1) := by decide +kernel
theorem dX7_knots_31 : decode cX7_knots 31 = .ok (.invokestatic 68, 3) := by decide +kernel
theorem dX7_knots_34 : decode cX7_knots 34 = .ok (.ifCond .eq 45, 3) := by decide +kernel
theorem dX7_knots_37 : decode cX7_knots 37 = .ok (.aload_n 0, 1) := by decide +kernel
theorem dX7_knots_38 : decode cX7_knots 38 = .ok (.getfield 29, 3) := by decide +kernel
theorem dX7_knots_41 : decode cX7_knots 41 = .ok (.iload_n 1, 1) := by decide +kernel
theorem dX7_knots_42 : decode cX7_knots 42 = .ok (.iaload, 1) := by decide +kernel
theorem dX7_knots_43 : decode cX7_knots 43 = .ok (.aload_n 0, 1) := by decide +kernel
theorem dX7_knots_44 : decode cX7_knots 44 = .ok (.getfield 29, 3) := by decide +kernel
theorem dX7_knots_47 : decode cX7_knots 47 = .ok (.bipush 8, 2) := by decide +kernel
theorem dX7_knots_49 : decode cX7_knots 49 = .ok (.iload_n 1, 1) := by decide +kernel
theorem dX7_knots_50 : decode cX7_knots 50 = .ok (.iadd, 1) := by decide +kernel
theorem dX7_knots_51 : decode cX7_knots 51 = .ok (.iaload, 1) := by decide +kernel
theorem dX7_knots_52 : decode cX7_knots 52 = .ok (.aload_n 0, 1) := by decide +kernel
theorem dX7_knots_53 : decode cX7_knots 53 = .ok (.getfield 29, 3) := by decide +kernel
theorem dX7_knots_56 : decode cX7_knots 56 = .ok (.iload_n 3, 1) := by decide +kernel
theorem dX7_knots_57 : decode cX7_knots 57 = .ok (.iaload, 1) := by decide +kernel
theorem dX7_knots_58 : decode cX7_knots 58 = .ok (.aload_n 0, 1) := by decide +kernel
theorem dX7_knots_59 : decode cX7_knots 59 = .ok (.getfield 29, 3) := by decide +kernel
theorem dX7_knots_62 : decode cX7_knots 62 = .ok (.bipush 8, 2) := by decide +kernel
theorem dX7_knots_64 : decode cX7_knots 64 = .ok (.iload_n 3, 1) := by decide +kernel
theorem dX7_knots_65 : decode cX7_knots 65 = .ok (.iadd, 1) := by decide +kernel
theorem dX7_knots_66 : decode cX7_knots 66 = .ok (.iaload, 1) := by decide +kernel
theorem dX7_knots_67 : decode cX7_knots 67 = .ok (.invokestatic 208, 3) := by decide +kernel
theorem dX7_knots_70 : decode cX7_knots 70 = .ok (.ifCond .eq 9, 3) := by decide +kernel
theorem dX7_knots_73 : decode cX7_knots 73 = .ok (.iconst 1, 1) := by decide +kernel
theorem dX7_knots_74 : decode cX7_knots 74 = .ok (.iload_n 3, 1) := by decide +kernel
theorem dX7_knots_75 : decode cX7_knots 75 = .ok (.ishl, 1) := by decide +kernel
theorem dX7_knots_76 : decode cX7_knots 76 = .ok (.goto 4, 3) := by decide +kernel
theorem dX7_knots_79 : decode cX7_knots 79 = .ok (.iconst 0, 1) := by decide +kernel
theorem dX7_knots_80 : decode cX7_knots 80 = .ok (.ior, 1) := by decide +kernel
theorem dX7_knots_81 : decode cX7_knots 81 = .ok (.istore_n 2, 1) := by decide +kernel
theorem dX7_knots_82 : decode cX7_knots 82 = .ok (.iinc 3 1, 3) := by decide +kernel
theorem dX7_knots_85 : decode cX7_knots 85 = .ok (.goto (-70), 3) := by decide +kernel
theorem dX7_knots_88 : decode cX7_knots 88 = .ok (.iload_n 2, 1) := by decide +kernel
theorem dX7_knots_89 : decode cX7_knots 89 = .ok (.ireturn, 1) := by decide +kernel
theorem dX7_keep_0 : decode cX7_keep 0 = .ok (.iload_n 1, 1) := by decide +kernel
theorem dX7_keep_1 : decode cX7_keep 1 = .ok (.iconst 0, 1) := by decide +kernel
theorem dX7_keep_2 : decode cX7_keep 2 = .ok (.iconst 1, 1) := by decide +kernel
theorem dX7_keep_3 : decode cX7_keep 3 = .ok (.invokestatic 61, 3) := by decide +kernel
theorem dX7_keep_6 : decode cX7_keep 6 = .ok (.ifCond .ne 6, 3) := by decide +kernel
theorem dX7_keep_9 : decode cX7_keep 9 = .ok (.bipush (-2), 2) := by decide +kernel
theorem dX7_keep_11 : decode cX7_keep 11 = .ok (.ireturn, 1) := by decide +kernel
theorem dX7_keep_12 : decode cX7_keep 12 = .ok (.iconst 0, 1) := by decide +kernel
theorem dX7_keep_13 : decode cX7_keep 13 = .ok (.istore_n 2, 1) := by decide +kernel
theorem dX7_keep_14 : decode cX7_keep 14 = .ok (.iload_n 2, 1) := by decide +kernel
theorem dX7_keep_15 : decode cX7_keep 15 = .ok (.bipush 21, 2) := by decide +kernel
theorem dX7_keep_17 : decode cX7_keep 17 = .ok (.if_icmp .ge 26, 3) := by decide +kernel
theorem dX7_keep_20 : decode cX7_keep 20 = .ok (.aload_n 0, 1) := by decide +kernel
theorem dX7_keep_21 : decode cX7_keep 21 = .ok (.getfield 32, 3) := by decide +kernel
theorem dX7_keep_24 : decode cX7_keep 24 = .ok (.bipush 21, 2) := by decide +kernel
theorem dX7_keep_26 : decode cX7_keep 26 = .ok (.iload_n 1, 1) := by decide +kernel
theorem dX7_keep_27 : decode cX7_keep 27 = .ok (.imul, 1) := by decide +kernel
theorem dX7_keep_28 : decode cX7_keep 28 = .ok (.iload_n 2, 1) := by decide +kernel
theorem dX7_keep_29 : decode cX7_keep 29 = .ok (.iadd, 1) := by decide +kernel
theorem dX7_keep_30 : decode cX7_keep 30 = .ok (.aload_n 0, 1) := by decide +kernel
theorem dX7_keep_31 : decode cX7_keep 31 = .ok (.getfield 29, 3) := by decide +kernel
theorem dX7_keep_34 : decode cX7_keep 34 = .ok (.iload_n 2, 1) := by decide +kernel
theorem dX7_keep_35 : decode cX7_keep 35 = .ok (.iaload, 1) := by decide +kernel
theorem dX7_keep_36 : decode cX7_keep 36 = .ok (.iastore, 1) := by decide +kernel
theorem dX7_keep_37 : decode cX7_keep 37 = .ok (.iinc 2 1, 3) := by decide +kernel
theorem dX7_keep_40 : decode cX7_keep 40 = .ok (.goto (-26), 3) := by decide +kernel
theorem dX7_keep_43 : decode cX7_keep 43 = .ok (.aload_n 0, 1) := by decide +kernel
theorem dX7_keep_44 : decode cX7_keep 44 = .ok (.getfield 35, 3) := by decide +kernel
theorem dX7_keep_47 : decode cX7_keep 47 = .ok (.iload_n 1, 1) := by decide +kernel
theorem dX7_keep_48 : decode cX7_keep 48 = .ok (.iconst 1, 1) := by decide +kernel
theorem dX7_keep_49 : decode cX7_keep 49 = .ok (.bastore, 1) := by decide +kernel
theorem dX7_keep_50 : decode cX7_keep 50 = .ok (.aload_n 0, 1) := by decide +kernel
theorem dX7_keep_51 : decode cX7_keep 51 = .ok (.getfield 29, 3) := by decide +kernel
theorem dX7_keep_54 : decode cX7_keep 54 = .ok (.bipush 20, 2) := by decide +kernel
theorem dX7_keep_56 : decode cX7_keep 56 = .ok (.iaload, 1) := by decide +kernel
theorem dX7_keep_57 : decode cX7_keep 57 = .ok (.ireturn, 1) := by decide +kernel
theorem dX7_back_0 : decode cX7_back 0 = .ok (.iload_n 1, 1) := by decide +kernel
theorem dX7_back_1 : decode cX7_back 1 = .ok (.iconst 0, 1) := by decide +kernel
theorem dX7_back_2 : decode cX7_back 2 = .ok (.iconst 1, 1) := by decide +kernel
theorem dX7_back_3 : decode cX7_back 3 = .ok (.invokestatic 61, 3) := by decide +kernel
theorem dX7_back_6 : decode cX7_back 6 = .ok (.ifCond .ne 6, 3) := by decide +kernel
theorem dX7_back_9 : decode cX7_back 9 = .ok (.bipush (-2), 2) := by decide +kernel
theorem dX7_back_11 : decode cX7_back 11 = .ok (.ireturn, 1) := by decide +kernel
theorem dX7_back_12 : decode cX7_back 12 = .ok (.aload_n 0, 1) := by decide +kernel
theorem dX7_back_13 : decode cX7_back 13 = .ok (.getfield 35, 3) := by decide +kernel
theorem dX7_back_16 : decode cX7_back 16 = .ok (.iload_n 1, 1) := by decide +kernel
theorem dX7_back_17 : decode cX7_back 17 = .ok (.baload, 1) := by decide +kernel
theorem dX7_back_18 : decode cX7_back 18 = .ok (.ifCond .ne 6, 3) := by decide +kernel
theorem dX7_back_21 : decode cX7_back 21 = .ok (.bipush (-4), 2) := by decide +kernel
theorem dX7_back_23 : decode cX7_back 23 = .ok (.ireturn, 1) := by decide +kernel
theorem dX7_back_24 : decode cX7_back 24 = .ok (.iconst 0, 1) := by decide +kernel
theorem dX7_back_25 : decode cX7_back 25 = .ok (.istore_n 2, 1) := by decide +kernel
theorem dX7_back_26 : decode cX7_back 26 = .ok (.iload_n 2, 1) := by decide +kernel
theorem dX7_back_27 : decode cX7_back 27 = .ok (.bipush 21, 2) := by decide +kernel
theorem dX7_back_29 : decode cX7_back 29 = .ok (.if_icmp .ge 26, 3) := by decide +kernel
theorem dX7_back_32 : decode cX7_back 32 = .ok (.aload_n 0, 1) := by decide +kernel
theorem dX7_back_33 : decode cX7_back 33 = .ok (.getfield 29, 3) := by decide +kernel
theorem dX7_back_36 : decode cX7_back 36 = .ok (.iload_n 2, 1) := by decide +kernel
theorem dX7_back_37 : decode cX7_back 37 = .ok (.aload_n 0, 1) := by decide +kernel
theorem dX7_back_38 : decode cX7_back 38 = .ok (.getfield 32, 3) := by decide +kernel
theorem dX7_back_41 : decode cX7_back 41 = .ok (.bipush 21, 2) := by decide +kernel
theorem dX7_back_43 : decode cX7_back 43 = .ok (.iload_n 1, 1) := by decide +kernel
theorem dX7_back_44 : decode cX7_back 44 = .ok (.imul, 1) := by decide +kernel
theorem dX7_back_45 : decode cX7_back 45 = .ok (.iload_n 2, 1) := by decide +kernel
theorem dX7_back_46 : decode cX7_back 46 = .ok (.iadd, 1) := by decide +kernel
theorem dX7_back_47 : decode cX7_back 47 = .ok (.iaload, 1) := by decide +kernel
theorem dX7_back_48 : decode cX7_back 48 = .ok (.iastore, 1) := by decide +kernel
theorem dX7_back_49 : decode cX7_back 49 = .ok (.iinc 2 1, 3) := by decide +kernel
theorem dX7_back_52 : decode cX7_back 52 = .ok (.goto (-26), 3) := by decide +kernel
theorem dX7_back_55 : decode cX7_back 55 = .ok (.aload_n 0, 1) := by decide +kernel
theorem dX7_back_56 : decode cX7_back 56 = .ok (.getfield 29, 3) := by decide +kernel
theorem dX7_back_59 : decode cX7_back 59 = .ok (.bipush 20, 2) := by decide +kernel
theorem dX7_back_61 : decode cX7_back 61 = .ok (.iaload, 1) := by decide +kernel
theorem dX7_back_62 : decode cX7_back 62 = .ok (.ireturn, 1) := by decide +kernel
theorem dX7_isPlace_0 : decode cX7_isPlace 0 = .ok (.iload_n 1, 1) := by decide +kernel
theorem dX7_isPlace_1 : decode cX7_isPlace 1 = .ok (.sipush 160, 3) := by decide +kernel
theorem dX7_isPlace_4 : decode cX7_isPlace 4 = .ok (.if_icmp .eq 34, 3) := by decide +kernel
theorem dX7_isPlace_7 : decode cX7_isPlace 7 = .ok (.iload_n 1, 1) := by decide +kernel
theorem dX7_isPlace_8 : decode cX7_isPlace 8 = .ok (.bipush 20, 2) := by decide +kernel
theorem dX7_isPlace_10 : decode cX7_isPlace 10 = .ok (.idiv, 1) := by decide +kernel
theorem dX7_isPlace_11 : decode cX7_isPlace 11 = .ok (.aload_n 0, 1) := by decide +kernel
theorem dX7_isPlace_12 : decode cX7_isPlace 12 = .ok (.getfield 160, 3) := by decide +kernel
theorem dX7_isPlace_15 : decode cX7_isPlace 15 = .ok (.if_icmp .ge 27, 3) := by decide +kernel
theorem dX7_isPlace_18 : decode cX7_isPlace 18 = .ok (.iload_n 1, 1) := by decide +kernel
theorem dX7_isPlace_19 : decode cX7_isPlace 19 = .ok (.bipush 20, 2) := by decide +kernel
theorem dX7_isPlace_21 : decode cX7_isPlace 21 = .ok (.irem, 1) := by decide +kernel
theorem dX7_isPlace_22 : decode cX7_isPlace 22 = .ok (.aload_n 0, 1) := by decide +kernel
theorem dX7_isPlace_23 : decode cX7_isPlace 23 = .ok (.getfield 7, 3) := by decide +kernel
theorem dX7_isPlace_26 : decode cX7_isPlace 26 = .ok (.iconst 3, 1) := by decide +kernel
theorem dX7_isPlace_27 : decode cX7_isPlace 27 = .ok (.iload_n 1, 1) := by decide +kernel
theorem dX7_isPlace_28 : decode cX7_isPlace 28 = .ok (.bipush 20, 2) := by decide +kernel
theorem dX7_isPlace_30 : decode cX7_isPlace 30 = .ok (.idiv, 1) := by decide +kernel
theorem dX7_isPlace_31 : decode cX7_isPlace 31 = .ok (.imul, 1) := by decide +kernel
theorem dX7_isPlace_32 : decode cX7_isPlace 32 = .ok (.iconst 1, 1) := by decide +kernel
theorem dX7_isPlace_33 : decode cX7_isPlace 33 = .ok (.iadd, 1) := by decide +kernel
theorem dX7_isPlace_34 : decode cX7_isPlace 34 = .ok (.iaload, 1) := by decide +kernel
theorem dX7_isPlace_35 : decode cX7_isPlace 35 = .ok (.if_icmp .ge 7, 3) := by decide +kernel
theorem dX7_isPlace_38 : decode cX7_isPlace 38 = .ok (.iconst 1, 1) := by decide +kernel
theorem dX7_isPlace_39 : decode cX7_isPlace 39 = .ok (.goto 4, 3) := by decide +kernel
theorem dX7_isPlace_42 : decode cX7_isPlace 42 = .ok (.iconst 0, 1) := by decide +kernel
theorem dX7_isPlace_43 : decode cX7_isPlace 43 = .ok (.ireturn, 1) := by decide +kernel
theorem dX7_through_0 : decode cX7_through 0 = .ok (.aload_n 0, 1) := by decide +kernel
theorem dX7_through_1 : decode cX7_through 1 = .ok (.iload_n 1, 1) := by decide +kernel
theorem dX7_through_2 : decode cX7_through 2 = .ok (.iload_n 2, 1) := by decide +kernel
theorem dX7_through_3 : decode cX7_through 3 = .ok (.iload 4, 2) := by decide +kernel
theorem dX7_through_5 : decode cX7_through 5 = .ok (.iload 5, 2) := by decide +kernel
theorem dX7_through_7 : decode cX7_through 7 = .ok (.invokevirtual 205, 3) := by decide +kernel
theorem dX7_through_10 : decode cX7_through 10 = .ok (.istore 6, 2) := by decide +kernel
theorem dX7_through_12 : decode cX7_through 12 = .ok (.iload_n 3, 1) := by decide +kernel
theorem dX7_through_13 : decode cX7_through 13 = .ok (.iload 4, 2) := by decide +kernel
theorem dX7_through_15 : decode cX7_through 15 = .ok (.invokestatic 197, 3) := by decide +kernel
theorem dX7_through_18 : decode cX7_through 18 = .ok (.aload_n 0, 1) := by decide +kernel
theorem dX7_through_19 : decode cX7_through 19 = .ok (.iload_n 1, 1) := by decide +kernel
theorem dX7_through_20 : decode cX7_through 20 = .ok (.invokevirtual 189, 3) := by decide +kernel
theorem dX7_through_23 : decode cX7_through 23 = .ok (.if_icmp .gt 27, 3) := by decide +kernel
theorem dX7_through_26 : decode cX7_through 26 = .ok (.iload 6, 2) := by decide +kernel
theorem dX7_through_28 : decode cX7_through 28 = .ok (.iload 4, 2) := by decide +kernel
theorem dX7_through_30 : decode cX7_through 30 = .ok (.aload_n 0, 1) := by decide +kernel
theorem dX7_through_31 : decode cX7_through 31 = .ok (.getfield 48, 3) := by decide +kernel
theorem dX7_through_34 : decode cX7_through 34 = .ok (.iload 5, 2) := by decide +kernel
theorem dX7_through_36 : decode cX7_through 36 = .ok (.iaload, 1) := by decide +kernel
theorem dX7_through_37 : decode cX7_through 37 = .ok (.aload_n 0, 1) := by decide +kernel
theorem dX7_through_38 : decode cX7_through 38 = .ok (.getfield 51, 3) := by decide +kernel
theorem dX7_through_41 : decode cX7_through 41 = .ok (.iload 5, 2) := by decide +kernel
theorem dX7_through_43 : decode cX7_through 43 = .ok (.iaload, 1) := by decide +kernel
theorem dX7_through_44 : decode cX7_through 44 = .ok (.invokestatic 208, 3) := by decide +kernel
theorem dX7_through_47 : decode cX7_through 47 = .ok (.ifCond .eq 6, 3) := by decide +kernel
theorem dX7_through_50 : decode cX7_through 50 = .ok (.ldc 212, 2) := by decide +kernel
theorem dX7_through_52 : decode cX7_through 52 = .ok (.ireturn, 1) := by decide +kernel
theorem dX7_through_53 : decode cX7_through 53 = .ok (.aload_n 0, 1) := by decide +kernel
theorem dX7_through_54 : decode cX7_through 54 = .ok (.getfield 39, 3) := by decide +kernel
theorem dX7_through_57 : decode cX7_through 57 = .ok (.sipush 966, 3) := by decide +kernel
theorem dX7_through_60 : decode cX7_through 60 = .ok (.iload 5, 2) := by decide +kernel
theorem dX7_through_62 : decode cX7_through 62 = .ok (.iconst 1, 1) := by decide +kernel
theorem dX7_through_63 : decode cX7_through 63 = .ok (.iadd, 1) := by decide +kernel
theorem dX7_through_64 : decode cX7_through 64 = .ok (.imul, 1) := by decide +kernel
theorem dX7_through_65 : decode cX7_through 65 = .ok (.bipush 6, 2) := by decide +kernel
theorem dX7_through_67 : decode cX7_through 67 = .ok (.iload 6, 2) := by decide +kernel
theorem dX7_through_69 : decode cX7_through 69 = .ok (.imul, 1) := by decide +kernel
theorem dX7_through_70 : decode cX7_through 70 = .ok (.iadd, 1) := by decide +kernel
theorem dX7_through_71 : decode cX7_through 71 = .ok (.iload 4, 2) := by decide +kernel
theorem dX7_through_73 : decode cX7_through 73 = .ok (.iadd, 1) := by decide +kernel
theorem dX7_through_74 : decode cX7_through 74 = .ok (.iaload, 1) := by decide +kernel
theorem dX7_through_75 : decode cX7_through 75 = .ok (.istore 7, 2) := by decide +kernel
theorem dX7_through_77 : decode cX7_through 77 = .ok (.iload 7, 2) := by decide +kernel
theorem dX7_through_79 : decode cX7_through 79 = .ok (.ldc 212, 2) := by decide +kernel
theorem dX7_through_81 : decode cX7_through 81 = .ok (.if_icmp .lt 8, 3) := by decide +kernel
theorem dX7_through_84 : decode cX7_through 84 = .ok (.ldc 212, 2) := by decide +kernel
theorem dX7_through_86 : decode cX7_through 86 = .ok (.goto 16, 3) := by decide +kernel
theorem dX7_through_89 : decode cX7_through 89 = .ok (.iload 7, 2) := by decide +kernel
theorem dX7_through_91 : decode cX7_through 91 = .ok (.sipush 1000, 3) := by decide +kernel
theorem dX7_through_94 : decode cX7_through 94 = .ok (.iadd, 1) := by decide +kernel
theorem dX7_through_95 : decode cX7_through 95 = .ok (.iload_n 3, 1) := by decide +kernel
theorem dX7_through_96 : decode cX7_through 96 = .ok (.iload 4, 2) := by decide +kernel
theorem dX7_through_98 : decode cX7_through 98 = .ok (.invokestatic 197, 3) := by decide +kernel
theorem dX7_through_101 : decode cX7_through 101 = .ok (.iadd, 1) := by decide +kernel
theorem dX7_through_102 : decode cX7_through 102 = .ok (.ireturn, 1) := by decide +kernel
theorem dX7_layLeft_0 : decode cX7_layLeft 0 = .ok (.bipush 24, 2) := by decide +kernel
theorem dX7_layLeft_2 : decode cX7_layLeft 2 = .ok (.istore_n 3, 1) := by decide +kernel
theorem dX7_layLeft_3 : decode cX7_layLeft 3 = .ok (.iload_n 3, 1) := by decide +kernel
theorem dX7_layLeft_4 : decode cX7_layLeft 4 = .ok (.iload_n 2, 1) := by decide +kernel
theorem dX7_layLeft_5 : decode cX7_layLeft 5 = .ok (.if_icmp .lt 136, 3) := by decide +kernel
theorem dX7_layLeft_8 : decode cX7_layLeft 8 = .ok (.iconst 0, 1) := by decide +kernel
theorem dX7_layLeft_9 : decode cX7_layLeft 9 = .ok (.istore 4, 2) := by decide +kernel
theorem dX7_layLeft_11 : decode cX7_layLeft 11 = .ok (.iload 4, 2) := by decide +kernel
theorem dX7_layLeft_13 : decode cX7_layLeft 13 = .ok (.sipush 966, 3) := by decide +kernel
theorem dX7_layLeft_16 : decode cX7_layLeft 16 = .ok (.if_icmp .ge 119, 3) := by decide +kernel
theorem dX7_layLeft_19 : decode cX7_layLeft 19 = .ok (.iload 4, 2) := by decide +kernel
theorem dX7_layLeft_21 : decode cX7_layLeft 21 = .ok (.bipush 6, 2) := by decide +kernel
theorem dX7_layLeft_23 : decode cX7_layLeft 23 = .ok (.idiv, 1) := by decide +kernel
theorem dX7_layLeft_24 : decode cX7_layLeft 24 = .ok (.istore 5, 2) := by decide +kernel
theorem dX7_layLeft_26 : decode cX7_layLeft 26 = .ok (.iload 5, 2) := by decide +kernel
theorem dX7_layLeft_28 : decode cX7_layLeft 28 = .ok (.sipush 160, 3) := by decide +kernel
theorem dX7_layLeft_31 : decode cX7_layLeft 31 = .ok (.if_icmp .ne 7, 3) := by decide +kernel
theorem dX7_layLeft_34 : decode cX7_layLeft 34 = .ok (.iconst 0, 1) := by decide +kernel
theorem dX7_layLeft_35 : decode cX7_layLeft 35 = .ok (.goto 5, 3) := by decide +kernel
theorem dX7_layLeft_38 : decode cX7_layLeft 38 = .ok (.ldc 212, 2) := by decide +kernel
theorem dX7_layLeft_40 : decode cX7_layLeft 40 = .ok (.istore 6, 2) := by decide +kernel
theorem dX7_layLeft_42 : decode cX7_layLeft 42 = .ok (.iconst 0, 1) := by decide +kernel
theorem dX7_layLeft_43 : decode cX7_layLeft 43 = .ok (.istore 7, 2) := by decide +kernel
theorem dX7_layLeft_45 : decode cX7_layLeft 45 = .ok (.iload 7, 2) := by decide +kernel
theorem dX7_layLeft_47 : decode cX7_layLeft 47 = .ok (.bipush 6, 2) := by decide +kernel
theorem dX7_layLeft_49 : decode cX7_layLeft 49 = .ok (.if_icmp .ge 65, 3) := by decide +kernel
theorem dX7_layLeft_52 : decode cX7_layLeft 52 = .ok (.iload_n 3, 1) := by decide +kernel
theorem dX7_layLeft_53 : decode cX7_layLeft 53 = .ok (.bipush 24, 2) := by decide +kernel
theorem dX7_layLeft_55 : decode cX7_layLeft 55 = .ok (.if_icmp .ge 59, 3) := by decide +kernel
theorem dX7_layLeft_58 : decode cX7_layLeft 58 = .ok (.iload 5, 2) := by decide +kernel
theorem dX7_layLeft_60 : decode cX7_layLeft 60 = .ok (.sipush 160, 3) := by decide +kernel
theorem dX7_layLeft_63 : decode cX7_layLeft 63 = .ok (.if_icmp .ge 51, 3) := by decide +kernel
theorem dX7_layLeft_66 : decode cX7_layLeft 66 = .ok (.aload_n 0, 1) := by decide +kernel
theorem dX7_layLeft_67 : decode cX7_layLeft 67 = .ok (.iload 5, 2) := by decide +kernel
theorem dX7_layLeft_69 : decode cX7_layLeft 69 = .ok (.invokevirtual 213, 3) := by decide +kernel
theorem dX7_layLeft_72 : decode cX7_layLeft 72 = .ok (.ifCond .eq 42, 3) := by decide +kernel
theorem dX7_layLeft_75 : decode cX7_layLeft 75 = .ok (.aload_n 0, 1) := by decide +kernel
theorem dX7_layLeft_76 : decode cX7_layLeft 76 = .ok (.iload_n 1, 1) := by decide +kernel
theorem dX7_layLeft_77 : decode cX7_layLeft 77 = .ok (.iload 5, 2) := by decide +kernel
theorem dX7_layLeft_79 : decode cX7_layLeft 79 = .ok (.iload 4, 2) := by decide +kernel
theorem dX7_layLeft_81 : decode cX7_layLeft 81 = .ok (.bipush 6, 2) := by decide +kernel
theorem dX7_layLeft_83 : decode cX7_layLeft 83 = .ok (.irem, 1) := by decide +kernel
theorem dX7_layLeft_84 : decode cX7_layLeft 84 = .ok (.iload 7, 2) := by decide +kernel
theorem dX7_layLeft_86 : decode cX7_layLeft 86 = .ok (.iload_n 3, 1) := by decide +kernel
theorem dX7_layLeft_87 : decode cX7_layLeft 87 = .ok (.invokevirtual 216, 3) := by decide +kernel
theorem dX7_layLeft_90 : decode cX7_layLeft 90 = .ok (.istore 8, 2) := by decide +kernel
theorem dX7_layLeft_92 : decode cX7_layLeft 92 = .ok (.iload 8, 2) := by decide +kernel
theorem dX7_layLeft_94 : decode cX7_layLeft 94 = .ok (.iload 6, 2) := by decide +kernel
theorem dX7_layLeft_96 : decode cX7_layLeft 96 = .ok (.if_icmp .ge 8, 3) := by decide +kernel
theorem dX7_layLeft_99 : decode cX7_layLeft 99 = .ok (.iload 8, 2) := by decide +kernel
theorem dX7_layLeft_101 : decode cX7_layLeft 101 = .ok (.goto 5, 3) := by decide +kernel
theorem dX7_layLeft_104 : decode cX7_layLeft 104 = .ok (.iload 6, 2) := by decide +kernel
theorem dX7_layLeft_106 : decode cX7_layLeft 106 = .ok (.istore 6, 2) := by decide +kernel
theorem dX7_layLeft_108 : decode cX7_layLeft 108 = .ok (.iinc 7 1, 3) := by decide +kernel
theorem dX7_layLeft_111 : decode cX7_layLeft 111 = .ok (.goto (-66), 3) := by decide +kernel
theorem dX7_layLeft_114 : decode cX7_layLeft 114 = .ok (.aload_n 0, 1) := by decide +kernel
theorem dX7_layLeft_115 : decode cX7_layLeft 115 = .ok (.getfield 39, 3) := by decide +kernel
theorem dX7_layLeft_118 : decode cX7_layLeft 118 = .ok (.sipush 966, 3) := by decide +kernel
theorem dX7_layLeft_121 : decode cX7_layLeft 121 = .ok (.iload_n 3, 1) := by decide +kernel
theorem dX7_layLeft_122 : decode cX7_layLeft 122 = .ok (.imul, 1) := by decide +kernel
theorem dX7_layLeft_123 : decode cX7_layLeft 123 = .ok (.iload 4, 2) := by decide +kernel
theorem dX7_layLeft_125 : decode cX7_layLeft 125 = .ok (.iadd, 1) := by decide +kernel
theorem dX7_layLeft_126 : decode cX7_layLeft 126 = .ok (.iload 6, 2) := by decide +kernel
theorem dX7_layLeft_128 : decode cX7_layLeft 128 = .ok (.iastore, 1) := by decide +kernel
theorem dX7_layLeft_129 : decode cX7_layLeft 129 = .ok (.iinc 4 1, 3) := by decide +kernel
theorem dX7_layLeft_132 : decode cX7_layLeft 132 = .ok (.goto (-121), 3) := by decide +kernel
theorem dX7_layLeft_135 : decode cX7_layLeft 135 = .ok (.iinc 3 (-1), 3) := by decide +kernel
theorem dX7_layLeft_138 : decode cX7_layLeft 138 = .ok (.goto (-135), 3) := by decide +kernel
theorem dX7_layLeft_141 : decode cX7_layLeft 141 = .ok (.return_, 1) := by decide +kernel
theorem dX7_noOther_0 : decode cX7_noOther 0 = .ok (.iconst 0, 1) := by decide +kernel
theorem dX7_noOther_1 : decode cX7_noOther 1 = .ok (.istore_n 1, 1) := by decide +kernel
theorem dX7_noOther_2 : decode cX7_noOther 2 = .ok (.iload_n 1, 1) := by decide +kernel
theorem dX7_noOther_3 : decode cX7_noOther 3 = .ok (.bipush 24, 2) := by decide +kernel
theorem dX7_noOther_5 : decode cX7_noOther 5 = .ok (.if_icmp .ge 25, 3) := by decide +kernel
theorem dX7_noOther_8 : decode cX7_noOther 8 = .ok (.aload_n 0, 1) := by decide +kernel
theorem dX7_noOther_9 : decode cX7_noOther 9 = .ok (.getfield 48, 3) := by decide +kernel
theorem dX7_noOther_12 : decode cX7_noOther 12 = .ok (.iload_n 1, 1) := by decide +kernel
theorem dX7_noOther_13 : decode cX7_noOther 13 = .ok (.sipush 160, 3) := by decide +kernel
theorem dX7_noOther_16 : decode cX7_noOther 16 = .ok (.iastore, 1) := by decide +kernel
theorem dX7_noOther_17 : decode cX7_noOther 17 = .ok (.aload_n 0, 1) := by decide +kernel
theorem dX7_noOther_18 : decode cX7_noOther 18 = .ok (.getfield 51, 3) := by decide +kernel
theorem dX7_noOther_21 : decode cX7_noOther 21 = .ok (.iload_n 1, 1) := by decide +kernel
theorem dX7_noOther_22 : decode cX7_noOther 22 = .ok (.iconst 0, 1) := by decide +kernel
theorem dX7_noOther_23 : decode cX7_noOther 23 = .ok (.iastore, 1) := by decide +kernel
theorem dX7_noOther_24 : decode cX7_noOther 24 = .ok (.iinc 1 1, 3) := by decide +kernel
theorem dX7_noOther_27 : decode cX7_noOther 27 = .ok (.goto (-25), 3) := by decide +kernel
theorem dX7_noOther_30 : decode cX7_noOther 30 = .ok (.return_, 1) := by decide +kernel
theorem dX7_findPlan_0 : decode cX7_findPlan 0 = .ok (.aload_n 0, 1) := by decide +kernel
theorem dX7_findPlan_1 : decode cX7_findPlan 1 = .ok (.iload_n 1, 1) := by decide +kernel
theorem dX7_findPlan_2 : decode cX7_findPlan 2 = .ok (.iload_n 2, 1) := by decide +kernel
theorem dX7_findPlan_3 : decode cX7_findPlan 3 = .ok (.invokevirtual 220, 3) := by decide +kernel
theorem dX7_findPlan_6 : decode cX7_findPlan 6 = .ok (.aload_n 0, 1) := by decide +kernel
theorem dX7_findPlan_7 : decode cX7_findPlan 7 = .ok (.invokevirtual 169, 3) := by decide +kernel
theorem dX7_findPlan_10 : decode cX7_findPlan 10 = .ok (.istore_n 3, 1) := by decide +kernel
theorem dX7_findPlan_11 : decode cX7_findPlan 11 = .ok (.iconst 0, 1) := by decide +kernel
theorem dX7_findPlan_12 : decode cX7_findPlan 12 = .ok (.istore 4, 2) := by decide +kernel
theorem dX7_findPlan_14 : decode cX7_findPlan 14 = .ok (.aload_n 0, 1) := by decide +kernel
theorem dX7_findPlan_15 : decode cX7_findPlan 15 = .ok (.getfield 39, 3) := by decide +kernel
theorem dX7_findPlan_18 : decode cX7_findPlan 18 = .ok (.sipush 966, 3) := by decide +kernel
theorem dX7_findPlan_21 : decode cX7_findPlan 21 = .ok (.iload_n 2, 1) := by decide +kernel
theorem dX7_findPlan_22 : decode cX7_findPlan 22 = .ok (.imul, 1) := by decide +kernel
theorem dX7_findPlan_23 : decode cX7_findPlan 23 = .ok (.bipush 6, 2) := by decide +kernel
theorem dX7_findPlan_25 : decode cX7_findPlan 25 = .ok (.iload_n 3, 1) := by decide +kernel
theorem dX7_findPlan_26 : decode cX7_findPlan 26 = .ok (.imul, 1) := by decide +kernel
theorem dX7_findPlan_27 : decode cX7_findPlan 27 = .ok (.iadd, 1) := by decide +kernel
theorem dX7_findPlan_28 : decode cX7_findPlan 28 = .ok (.iaload, 1) := by decide +kernel
theorem dX7_findPlan_29 : decode cX7_findPlan 29 = .ok (.istore 5, 2) := by decide +kernel
theorem dX7_findPlan_31 : decode cX7_findPlan 31 = .ok (.iload 5, 2) := by decide +kernel
theorem dX7_findPlan_33 : decode cX7_findPlan 33 = .ok (.ldc 212, 2) := by decide +kernel
theorem dX7_findPlan_35 : decode cX7_findPlan 35 = .ok (.if_icmp .lt 5, 3) := by decide +kernel
theorem dX7_findPlan_38 : decode cX7_findPlan 38 = .ok (.iconst 0, 1) := by decide +kernel
theorem dX7_findPlan_39 : decode cX7_findPlan 39 = .ok (.ireturn, 1) := by decide +kernel
theorem dX7_findPlan_40 : decode cX7_findPlan 40 = .ok (.aload_n 0, 1) := by decide +kernel
theorem dX7_findPlan_41 : decode cX7_findPlan 41 = .ok (.iload 5, 2) := by decide +kernel
theorem dX7_findPlan_43 : decode cX7_findPlan 43 = .ok (.sipush 1000, 3) := by decide +kernel
theorem dX7_findPlan_46 : decode cX7_findPlan 46 = .ok (.idiv, 1) := by decide +kernel
theorem dX7_findPlan_47 : decode cX7_findPlan 47 = .ok (.putfield 224, 3) := by decide +kernel
theorem dX7_findPlan_50 : decode cX7_findPlan 50 = .ok (.aload_n 0, 1) := by decide +kernel
theorem dX7_findPlan_51 : decode cX7_findPlan 51 = .ok (.iload 5, 2) := by decide +kernel
theorem dX7_findPlan_53 : decode cX7_findPlan 53 = .ok (.sipush 1000, 3) := by decide +kernel
theorem dX7_findPlan_56 : decode cX7_findPlan 56 = .ok (.irem, 1) := by decide +kernel
theorem dX7_findPlan_57 : decode cX7_findPlan 57 = .ok (.putfield 227, 3) := by decide +kernel
theorem dX7_findPlan_60 : decode cX7_findPlan 60 = .ok (.iconst 0, 1) := by decide +kernel
theorem dX7_findPlan_61 : decode cX7_findPlan 61 = .ok (.istore 6, 2) := by decide +kernel
theorem dX7_findPlan_63 : decode cX7_findPlan 63 = .ok (.iload 6, 2) := by decide +kernel
theorem dX7_findPlan_65 : decode cX7_findPlan 65 = .ok (.aload_n 0, 1) := by decide +kernel
theorem dX7_findPlan_66 : decode cX7_findPlan 66 = .ok (.getfield 224, 3) := by decide +kernel
theorem dX7_findPlan_69 : decode cX7_findPlan 69 = .ok (.if_icmp .ge 90, 3) := by decide +kernel
theorem dX7_findPlan_72 : decode cX7_findPlan 72 = .ok (.iload_n 2, 1) := by decide +kernel
theorem dX7_findPlan_73 : decode cX7_findPlan 73 = .ok (.iload 6, 2) := by decide +kernel
theorem dX7_findPlan_75 : decode cX7_findPlan 75 = .ok (.iadd, 1) := by decide +kernel
theorem dX7_findPlan_76 : decode cX7_findPlan 76 = .ok (.istore 7, 2) := by decide +kernel
theorem dX7_findPlan_78 : decode cX7_findPlan 78 = .ok (.iconst 0, 1) := by decide +kernel
theorem dX7_findPlan_79 : decode cX7_findPlan 79 = .ok (.istore 8, 2) := by decide +kernel
theorem dX7_findPlan_81 : decode cX7_findPlan 81 = .ok (.aload_n 0, 1) := by decide +kernel
theorem dX7_findPlan_82 : decode cX7_findPlan 82 = .ok (.iload_n 1, 1) := by decide +kernel
theorem dX7_findPlan_83 : decode cX7_findPlan 83 = .ok (.iload_n 3, 1) := by decide +kernel
theorem dX7_findPlan_84 : decode cX7_findPlan 84 = .ok (.iload 4, 2) := by decide +kernel
theorem dX7_findPlan_86 : decode cX7_findPlan 86 = .ok (.iload 8, 2) := by decide +kernel
theorem dX7_findPlan_88 : decode cX7_findPlan 88 = .ok (.iload 7, 2) := by decide +kernel
theorem dX7_findPlan_90 : decode cX7_findPlan 90 = .ok (.invokevirtual 216, 3) := by decide +kernel
theorem dX7_findPlan_93 : decode cX7_findPlan 93 = .ok (.aload_n 0, 1) := by decide +kernel
theorem dX7_findPlan_94 : decode cX7_findPlan 94 = .ok (.getfield 39, 3) := by decide +kernel
theorem dX7_findPlan_97 : decode cX7_findPlan 97 = .ok (.sipush 966, 3) := by decide +kernel
theorem dX7_findPlan_100 : decode cX7_findPlan 100 = .ok (.iload 7, 2) := by decide +kernel
theorem dX7_findPlan_102 : decode cX7_findPlan 102 = .ok (.imul, 1) := by decide +kernel
theorem dX7_findPlan_103 : decode cX7_findPlan 103 = .ok (.bipush 6, 2) := by decide +kernel
theorem dX7_findPlan_105 : decode cX7_findPlan 105 = .ok (.iload_n 3, 1) := by decide +kernel
theorem dX7_findPlan_106 : decode cX7_findPlan 106 = .ok (.imul, 1) := by decide +kernel
theorem dX7_findPlan_107 : decode cX7_findPlan 107 = .ok (.iadd, 1) := by decide +kernel
theorem dX7_findPlan_108 : decode cX7_findPlan 108 = .ok (.iload 4, 2) := by decide +kernel
theorem dX7_findPlan_110 : decode cX7_findPlan 110 = .ok (.iadd, 1) := by decide +kernel
theorem dX7_findPlan_111 : decode cX7_findPlan 111 = .ok (.iaload, 1) := by decide +kernel
theorem dX7_findPlan_112 : decode cX7_findPlan 112 = .ok (.if_icmp .eq 9, 3) := by decide +kernel
theorem dX7_findPlan_115 : decode cX7_findPlan 115 = .ok (.iinc 8 1, 3) := by decide +kernel
theorem dX7_findPlan_118 : decode cX7_findPlan 118 = .ok (.goto (-37), 3) := by decide +kernel
theorem dX7_findPlan_121 : decode cX7_findPlan 121 = .ok (.aload_n 0, 1) := by decide +kernel
theorem dX7_findPlan_122 : decode cX7_findPlan 122 = .ok (.iload_n 1, 1) := by decide +kernel
theorem dX7_findPlan_123 : decode cX7_findPlan 123 = .ok (.iload_n 3, 1) := by decide +kernel
theorem dX7_findPlan_124 : decode cX7_findPlan 124 = .ok (.iload 8, 2) := by decide +kernel
theorem dX7_findPlan_126 : decode cX7_findPlan 126 = .ok (.iload 7, 2) := by decide +kernel
theorem dX7_findPlan_128 : decode cX7_findPlan 128 = .ok (.invokevirtual 205, 3) := by decide +kernel
theorem dX7_findPlan_131 : decode cX7_findPlan 131 = .ok (.istore_n 3, 1) := by decide +kernel
theorem dX7_findPlan_132 : decode cX7_findPlan 132 = .ok (.iload 8, 2) := by decide +kernel
theorem dX7_findPlan_134 : decode cX7_findPlan 134 = .ok (.istore 4, 2) := by decide +kernel
theorem dX7_findPlan_136 : decode cX7_findPlan 136 = .ok (.aload_n 0, 1) := by decide +kernel
theorem dX7_findPlan_137 : decode cX7_findPlan 137 = .ok (.getfield 42, 3) := by decide +kernel
theorem dX7_findPlan_140 : decode cX7_findPlan 140 = .ok (.iload 6, 2) := by decide +kernel
theorem dX7_findPlan_142 : decode cX7_findPlan 142 = .ok (.iload 8, 2) := by decide +kernel
theorem dX7_findPlan_144 : decode cX7_findPlan 144 = .ok (.iastore, 1) := by decide +kernel
theorem dX7_findPlan_145 : decode cX7_findPlan 145 = .ok (.aload_n 0, 1) := by decide +kernel
theorem dX7_findPlan_146 : decode cX7_findPlan 146 = .ok (.getfield 45, 3) := by decide +kernel
theorem dX7_findPlan_149 : decode cX7_findPlan 149 = .ok (.iload 6, 2) := by decide +kernel
theorem dX7_findPlan_151 : decode cX7_findPlan 151 = .ok (.iload_n 3, 1) := by decide +kernel
theorem dX7_findPlan_152 : decode cX7_findPlan 152 = .ok (.iastore, 1) := by decide +kernel
theorem dX7_findPlan_153 : decode cX7_findPlan 153 = .ok (.iinc 6 1, 3) := by decide +kernel
theorem dX7_findPlan_156 : decode cX7_findPlan 156 = .ok (.goto (-93), 3) := by decide +kernel
theorem dX7_findPlan_159 : decode cX7_findPlan 159 = .ok (.iconst 1, 1) := by decide +kernel
theorem dX7_findPlan_160 : decode cX7_findPlan 160 = .ok (.ireturn, 1) := by decide +kernel
theorem dX7_isSoonest_0 : decode cX7_isSoonest 0 = .ok (.aload_n 0, 1) := by decide +kernel
theorem dX7_isSoonest_1 : decode cX7_isSoonest 1 = .ok (.invokevirtual 230, 3) := by decide +kernel
theorem dX7_isSoonest_4 : decode cX7_isSoonest 4 = .ok (.aload_n 0, 1) := by decide +kernel
theorem dX7_isSoonest_5 : decode cX7_isSoonest 5 = .ok (.iload_n 1, 1) := by decide +kernel
theorem dX7_isSoonest_6 : decode cX7_isSoonest 6 = .ok (.iload_n 2, 1) := by decide +kernel
theorem dX7_isSoonest_7 : decode cX7_isSoonest 7 = .ok (.invokevirtual 233, 3) := by decide +kernel
theorem dX7_isSoonest_10 : decode cX7_isSoonest 10 = .ok (.ireturn, 1) := by decide +kernel
theorem dX7_tell_0 : decode cX7_tell 0 = .ok (.iload_n 1, 1) := by decide +kernel
theorem dX7_tell_1 : decode cX7_tell 1 = .ok (.ifCond .ne 5, 3) := by decide +kernel
theorem dX7_tell_4 : decode cX7_tell 4 = .ok (.iconst (-1), 1) := by decide +kernel
theorem dX7_tell_5 : decode cX7_tell 5 = .ok (.ireturn, 1) := by decide +kernel
theorem dX7_tell_6 : decode cX7_tell 6 = .ok (.iload_n 2, 1) := by decide +kernel
theorem dX7_tell_7 : decode cX7_tell 7 = .ok (.bipush (-2), 2) := by decide +kernel
theorem dX7_tell_9 : decode cX7_tell 9 = .ok (.if_icmp .ne 10, 3) := by decide +kernel
theorem dX7_tell_12 : decode cX7_tell 12 = .ok (.aload_n 0, 1) := by decide +kernel
theorem dX7_tell_13 : decode cX7_tell 13 = .ok (.getfield 224, 3) := by decide +kernel
theorem dX7_tell_16 : decode cX7_tell 16 = .ok (.goto 33, 3) := by decide +kernel
theorem dX7_tell_19 : decode cX7_tell 19 = .ok (.iload_n 2, 1) := by decide +kernel
theorem dX7_tell_20 : decode cX7_tell 20 = .ok (.iconst (-1), 1) := by decide +kernel
theorem dX7_tell_21 : decode cX7_tell 21 = .ok (.if_icmp .ne 10, 3) := by decide +kernel
theorem dX7_tell_24 : decode cX7_tell 24 = .ok (.aload_n 0, 1) := by decide +kernel
theorem dX7_tell_25 : decode cX7_tell 25 = .ok (.getfield 227, 3) := by decide +kernel
theorem dX7_tell_28 : decode cX7_tell 28 = .ok (.goto 21, 3) := by decide +kernel
theorem dX7_tell_31 : decode cX7_tell 31 = .ok (.iload_n 2, 1) := by decide +kernel
theorem dX7_tell_32 : decode cX7_tell 32 = .ok (.aload_n 0, 1) := by decide +kernel
theorem dX7_tell_33 : decode cX7_tell 33 = .ok (.getfield 224, 3) := by decide +kernel
theorem dX7_tell_36 : decode cX7_tell 36 = .ok (.if_icmp .ge 12, 3) := by decide +kernel
theorem dX7_tell_39 : decode cX7_tell 39 = .ok (.aload_n 0, 1) := by decide +kernel
theorem dX7_tell_40 : decode cX7_tell 40 = .ok (.getfield 42, 3) := by decide +kernel
theorem dX7_tell_43 : decode cX7_tell 43 = .ok (.iload_n 2, 1) := by decide +kernel
theorem dX7_tell_44 : decode cX7_tell 44 = .ok (.iaload, 1) := by decide +kernel
theorem dX7_tell_45 : decode cX7_tell 45 = .ok (.goto 4, 3) := by decide +kernel
theorem dX7_tell_48 : decode cX7_tell 48 = .ok (.iconst (-1), 1) := by decide +kernel
theorem dX7_tell_49 : decode cX7_tell 49 = .ok (.ireturn, 1) := by decide +kernel
theorem dX7_soonest_0 : decode cX7_soonest 0 = .ok (.aload_n 0, 1) := by decide +kernel
theorem dX7_soonest_1 : decode cX7_soonest 1 = .ok (.iload_n 1, 1) := by decide +kernel
theorem dX7_soonest_2 : decode cX7_soonest 2 = .ok (.invokevirtual 186, 3) := by decide +kernel
theorem dX7_soonest_5 : decode cX7_soonest 5 = .ok (.ifCond .eq 10, 3) := by decide +kernel
theorem dX7_soonest_8 : decode cX7_soonest 8 = .ok (.iload_n 2, 1) := by decide +kernel
theorem dX7_soonest_9 : decode cX7_soonest 9 = .ok (.invokestatic 183, 3) := by decide +kernel
theorem dX7_soonest_12 : decode cX7_soonest 12 = .ok (.ifCond .ne 6, 3) := by decide +kernel
theorem dX7_soonest_15 : decode cX7_soonest 15 = .ok (.bipush (-2), 2) := by decide +kernel
theorem dX7_soonest_17 : decode cX7_soonest 17 = .ok (.ireturn, 1) := by decide +kernel
theorem dX7_soonest_18 : decode cX7_soonest 18 = .ok (.iload_n 3, 1) := by decide +kernel
theorem dX7_soonest_19 : decode cX7_soonest 19 = .ok (.bipush (-2), 2) := by decide +kernel
theorem dX7_soonest_21 : decode cX7_soonest 21 = .ok (.if_icmp .ge 8, 3) := by decide +kernel
theorem dX7_soonest_24 : decode cX7_soonest 24 = .ok (.bipush (-3), 2) := by decide +kernel
theorem dX7_soonest_26 : decode cX7_soonest 26 = .ok (.goto 14, 3) := by decide +kernel
theorem dX7_soonest_29 : decode cX7_soonest 29 = .ok (.aload_n 0, 1) := by decide +kernel
theorem dX7_soonest_30 : decode cX7_soonest 30 = .ok (.aload_n 0, 1) := by decide +kernel
theorem dX7_soonest_31 : decode cX7_soonest 31 = .ok (.iload_n 1, 1) := by decide +kernel
theorem dX7_soonest_32 : decode cX7_soonest 32 = .ok (.iload_n 2, 1) := by decide +kernel
theorem dX7_soonest_33 : decode cX7_soonest 33 = .ok (.invokevirtual 236, 3) := by decide +kernel
theorem dX7_soonest_36 : decode cX7_soonest 36 = .ok (.iload_n 3, 1) := by decide +kernel
theorem dX7_soonest_37 : decode cX7_soonest 37 = .ok (.invokevirtual 239, 3) := by decide +kernel
theorem dX7_soonest_40 : decode cX7_soonest 40 = .ok (.ireturn, 1) := by decide +kernel
theorem dX7_clear_0 : decode cX7_clear 0 = .ok (.aload_n 0, 1) := by decide +kernel
theorem dX7_clear_1 : decode cX7_clear 1 = .ok (.iload_n 1, 1) := by decide +kernel
theorem dX7_clear_2 : decode cX7_clear 2 = .ok (.invokevirtual 186, 3) := by decide +kernel
theorem dX7_clear_5 : decode cX7_clear 5 = .ok (.ifCond .eq 11, 3) := by decide +kernel
theorem dX7_clear_8 : decode cX7_clear 8 = .ok (.aload_n 0, 1) := by decide +kernel
theorem dX7_clear_9 : decode cX7_clear 9 = .ok (.iload_n 2, 1) := by decide +kernel
theorem dX7_clear_10 : decode cX7_clear 10 = .ok (.invokevirtual 186, 3) := by decide +kernel
theorem dX7_clear_13 : decode cX7_clear 13 = .ok (.ifCond .ne 6, 3) := by decide +kernel
theorem dX7_clear_16 : decode cX7_clear 16 = .ok (.bipush (-2), 2) := by decide +kernel
theorem dX7_clear_18 : decode cX7_clear 18 = .ok (.ireturn, 1) := by decide +kernel
theorem dX7_clear_19 : decode cX7_clear 19 = .ok (.iload_n 1, 1) := by decide +kernel
theorem dX7_clear_20 : decode cX7_clear 20 = .ok (.iload_n 2, 1) := by decide +kernel
theorem dX7_clear_21 : decode cX7_clear 21 = .ok (.if_icmp .eq 9, 3) := by decide +kernel
theorem dX7_clear_24 : decode cX7_clear 24 = .ok (.iload_n 3, 1) := by decide +kernel
theorem dX7_clear_25 : decode cX7_clear 25 = .ok (.bipush (-2), 2) := by decide +kernel
theorem dX7_clear_27 : decode cX7_clear 27 = .ok (.if_icmp .ge 6, 3) := by decide +kernel
theorem dX7_clear_30 : decode cX7_clear 30 = .ok (.bipush (-3), 2) := by decide +kernel
theorem dX7_clear_32 : decode cX7_clear 32 = .ok (.ireturn, 1) := by decide +kernel
theorem dX7_clear_33 : decode cX7_clear 33 = .ok (.aload_n 0, 1) := by decide +kernel
theorem dX7_clear_34 : decode cX7_clear 34 = .ok (.iload_n 2, 1) := by decide +kernel
theorem dX7_clear_35 : decode cX7_clear 35 = .ok (.iconst 0, 1) := by decide +kernel
theorem dX7_clear_36 : decode cX7_clear 36 = .ok (.invokevirtual 236, 3) := by decide +kernel
theorem dX7_clear_39 : decode cX7_clear 39 = .ok (.ifCond .ne 6, 3) := by decide +kernel
theorem dX7_clear_42 : decode cX7_clear 42 = .ok (.bipush (-4), 2) := by decide +kernel
theorem dX7_clear_44 : decode cX7_clear 44 = .ok (.ireturn, 1) := by decide +kernel
theorem dX7_clear_45 : decode cX7_clear 45 = .ok (.iconst 0, 1) := by decide +kernel
theorem dX7_clear_46 : decode cX7_clear 46 = .ok (.istore 4, 2) := by decide +kernel
theorem dX7_clear_48 : decode cX7_clear 48 = .ok (.iload 4, 2) := by decide +kernel
theorem dX7_clear_50 : decode cX7_clear 50 = .ok (.aload_n 0, 1) := by decide +kernel
theorem dX7_clear_51 : decode cX7_clear 51 = .ok (.getfield 224, 3) := by decide +kernel
theorem dX7_clear_54 : decode cX7_clear 54 = .ok (.if_icmp .ge 37, 3) := by decide +kernel
theorem dX7_clear_57 : decode cX7_clear 57 = .ok (.aload_n 0, 1) := by decide +kernel
theorem dX7_clear_58 : decode cX7_clear 58 = .ok (.getfield 48, 3) := by decide +kernel
theorem dX7_clear_61 : decode cX7_clear 61 = .ok (.iload 4, 2) := by decide +kernel
theorem dX7_clear_63 : decode cX7_clear 63 = .ok (.aload_n 0, 1) := by decide +kernel
theorem dX7_clear_64 : decode cX7_clear 64 = .ok (.getfield 45, 3) := by decide +kernel
theorem dX7_clear_67 : decode cX7_clear 67 = .ok (.iload 4, 2) := by decide +kernel
theorem dX7_clear_69 : decode cX7_clear 69 = .ok (.iaload, 1) := by decide +kernel
theorem dX7_clear_70 : decode cX7_clear 70 = .ok (.iastore, 1) := by decide +kernel
theorem dX7_clear_71 : decode cX7_clear 71 = .ok (.aload_n 0, 1) := by decide +kernel
theorem dX7_clear_72 : decode cX7_clear 72 = .ok (.getfield 51, 3) := by decide +kernel
theorem dX7_clear_75 : decode cX7_clear 75 = .ok (.iload 4, 2) := by decide +kernel
theorem dX7_clear_77 : decode cX7_clear 77 = .ok (.aload_n 0, 1) := by decide +kernel
theorem dX7_clear_78 : decode cX7_clear 78 = .ok (.getfield 42, 3) := by decide +kernel
theorem dX7_clear_81 : decode cX7_clear 81 = .ok (.iload 4, 2) := by decide +kernel
theorem dX7_clear_83 : decode cX7_clear 83 = .ok (.iaload, 1) := by decide +kernel
theorem dX7_clear_84 : decode cX7_clear 84 = .ok (.iastore, 1) := by decide +kernel
theorem dX7_clear_85 : decode cX7_clear 85 = .ok (.iinc 4 1, 3) := by decide +kernel
theorem dX7_clear_88 : decode cX7_clear 88 = .ok (.goto (-40), 3) := by decide +kernel
theorem dX7_clear_91 : decode cX7_clear 91 = .ok (.aload_n 0, 1) := by decide +kernel
theorem dX7_clear_92 : decode cX7_clear 92 = .ok (.aload_n 0, 1) := by decide +kernel
theorem dX7_clear_93 : decode cX7_clear 93 = .ok (.iload_n 1, 1) := by decide +kernel
theorem dX7_clear_94 : decode cX7_clear 94 = .ok (.iconst 1, 1) := by decide +kernel
theorem dX7_clear_95 : decode cX7_clear 95 = .ok (.invokevirtual 233, 3) := by decide +kernel
theorem dX7_clear_98 : decode cX7_clear 98 = .ok (.iload_n 3, 1) := by decide +kernel
theorem dX7_clear_99 : decode cX7_clear 99 = .ok (.invokevirtual 239, 3) := by decide +kernel
theorem dX7_clear_102 : decode cX7_clear 102 = .ok (.ireturn, 1) := by decide +kernel
theorem dX7_power_0 : decode cX7_power 0 = .ok (.lconst 1, 1) := by decide +kernel
theorem dX7_power_1 : decode cX7_power 1 = .ok (.lstore_n 2, 1) := by decide +kernel
theorem dX7_power_2 : decode cX7_power 2 = .ok (.iconst 0, 1) := by decide +kernel
theorem dX7_power_3 : decode cX7_power 3 = .ok (.istore 4, 2) := by decide +kernel
theorem dX7_power_5 : decode cX7_power 5 = .ok (.iload 4, 2) := by decide +kernel
theorem dX7_power_7 : decode cX7_power 7 = .ok (.iload_n 1, 1) := by decide +kernel
theorem dX7_power_8 : decode cX7_power 8 = .ok (.if_icmp .ge 14, 3) := by decide +kernel
theorem dX7_power_11 : decode cX7_power 11 = .ok (.lload_n 2, 1) := by decide +kernel
theorem dX7_power_12 : decode cX7_power 12 = .ok (.iload_n 0, 1) := by decide +kernel
theorem dX7_power_13 : decode cX7_power 13 = .ok (.i2l, 1) := by decide +kernel
theorem dX7_power_14 : decode cX7_power 14 = .ok (.lmul, 1) := by decide +kernel
theorem dX7_power_15 : decode cX7_power 15 = .ok (.lstore_n 2, 1) := by decide +kernel
theorem dX7_power_16 : decode cX7_power 16 = .ok (.iinc 4 1, 3) := by decide +kernel
theorem dX7_power_19 : decode cX7_power 19 = .ok (.goto (-14), 3) := by decide +kernel
theorem dX7_power_22 : decode cX7_power 22 = .ok (.lload_n 2, 1) := by decide +kernel
theorem dX7_power_23 : decode cX7_power 23 = .ok (.lreturn, 1) := by decide +kernel
theorem dX7_part_0 : decode cX7_part 0 = .ok (.lload_n 0, 1) := by decide +kernel
theorem dX7_part_1 : decode cX7_part 1 = .ok (.lstore 5, 2) := by decide +kernel
theorem dX7_part_3 : decode cX7_part 3 = .ok (.lload_n 2, 1) := by decide +kernel
theorem dX7_part_4 : decode cX7_part 4 = .ok (.lstore 7, 2) := by decide +kernel
theorem dX7_part_6 : decode cX7_part 6 = .ok (.lload 7, 2) := by decide +kernel
theorem dX7_part_8 : decode cX7_part 8 = .ok (.lconst 0, 1) := by decide +kernel
theorem dX7_part_9 : decode cX7_part 9 = .ok (.lcmp, 1) := by decide +kernel
theorem dX7_part_10 : decode cX7_part 10 = .ok (.ifCond .eq 21, 3) := by decide +kernel
theorem dX7_part_13 : decode cX7_part 13 = .ok (.lload 5, 2) := by decide +kernel
theorem dX7_part_15 : decode cX7_part 15 = .ok (.lload 7, 2) := by decide +kernel
theorem dX7_part_17 : decode cX7_part 17 = .ok (.lrem, 1) := by decide +kernel
theorem dX7_part_18 : decode cX7_part 18 = .ok (.lstore 9, 2) := by decide +kernel
theorem dX7_part_20 : decode cX7_part 20 = .ok (.lload 7, 2) := by decide +kernel
theorem dX7_part_22 : decode cX7_part 22 = .ok (.lstore 5, 2) := by decide +kernel
theorem dX7_part_24 : decode cX7_part 24 = .ok (.lload 9, 2) := by decide +kernel
theorem dX7_part_26 : decode cX7_part 26 = .ok (.lstore 7, 2) := by decide +kernel
theorem dX7_part_28 : decode cX7_part 28 = .ok (.goto (-22), 3) := by decide +kernel
theorem dX7_part_31 : decode cX7_part 31 = .ok (.iload 4, 2) := by decide +kernel
theorem dX7_part_33 : decode cX7_part 33 = .ok (.ifCond .ne 7, 3) := by decide +kernel
theorem dX7_part_36 : decode cX7_part 36 = .ok (.lload_n 0, 1) := by decide +kernel
theorem dX7_part_37 : decode cX7_part 37 = .ok (.goto 4, 3) := by decide +kernel
theorem dX7_part_40 : decode cX7_part 40 = .ok (.lload_n 2, 1) := by decide +kernel
theorem dX7_part_41 : decode cX7_part 41 = .ok (.lload 5, 2) := by decide +kernel
theorem dX7_part_43 : decode cX7_part 43 = .ok (.ldiv, 1) := by decide +kernel
theorem dX7_part_44 : decode cX7_part 44 = .ok (.lreturn, 1) := by decide +kernel
theorem dX7_areOdds_0 : decode cX7_areOdds 0 = .ok (.iload_n 0, 1) := by decide +kernel
theorem dX7_areOdds_1 : decode cX7_areOdds 1 = .ok (.iconst 0, 1) := by decide +kernel
theorem dX7_areOdds_2 : decode cX7_areOdds 2 = .ok (.iload_n 1, 1) := by decide +kernel
theorem dX7_areOdds_3 : decode cX7_areOdds 3 = .ok (.invokestatic 61, 3) := by decide +kernel
theorem dX7_areOdds_6 : decode cX7_areOdds 6 = .ok (.ifCond .eq 26, 3) := by decide +kernel
theorem dX7_areOdds_9 : decode cX7_areOdds 9 = .ok (.iload_n 2, 1) := by decide +kernel
theorem dX7_areOdds_10 : decode cX7_areOdds 10 = .ok (.iconst 0, 1) := by decide +kernel
theorem dX7_areOdds_11 : decode cX7_areOdds 11 = .ok (.bipush 10, 2) := by decide +kernel
theorem dX7_areOdds_13 : decode cX7_areOdds 13 = .ok (.invokestatic 61, 3) := by decide +kernel
theorem dX7_areOdds_16 : decode cX7_areOdds 16 = .ok (.ifCond .eq 16, 3) := by decide +kernel
theorem dX7_areOdds_19 : decode cX7_areOdds 19 = .ok (.iload_n 3, 1) := by decide +kernel
theorem dX7_areOdds_20 : decode cX7_areOdds 20 = .ok (.iconst 0, 1) := by decide +kernel
theorem dX7_areOdds_21 : decode cX7_areOdds 21 = .ok (.iconst 1, 1) := by decide +kernel
theorem dX7_areOdds_22 : decode cX7_areOdds 22 = .ok (.invokestatic 61, 3) := by decide +kernel
theorem dX7_areOdds_25 : decode cX7_areOdds 25 = .ok (.ifCond .eq 7, 3) := by decide +kernel
theorem dX7_areOdds_28 : decode cX7_areOdds 28 = .ok (.iconst 1, 1) := by decide +kernel
theorem dX7_areOdds_29 : decode cX7_areOdds 29 = .ok (.goto 4, 3) := by decide +kernel
theorem dX7_areOdds_32 : decode cX7_areOdds 32 = .ok (.iconst 0, 1) := by decide +kernel
theorem dX7_areOdds_33 : decode cX7_areOdds 33 = .ok (.ireturn, 1) := by decide +kernel
theorem dX7_byRow_0 : decode cX7_byRow 0 = .ok (.lconst 0, 1) := by decide +kernel
theorem dX7_byRow_1 : decode cX7_byRow 1 = .ok (.lstore 5, 2) := by decide +kernel
theorem dX7_byRow_3 : decode cX7_byRow 3 = .ok (.iconst 0, 1) := by decide +kernel
theorem dX7_byRow_4 : decode cX7_byRow 4 = .ok (.istore 7, 2) := by decide +kernel
theorem dX7_byRow_6 : decode cX7_byRow 6 = .ok (.iload 7, 2) := by decide +kernel
theorem dX7_byRow_8 : decode cX7_byRow 8 = .ok (.iconst 1, 1) := by decide +kernel
theorem dX7_byRow_9 : decode cX7_byRow 9 = .ok (.iload_n 2, 1) := by decide +kernel
theorem dX7_byRow_10 : decode cX7_byRow 10 = .ok (.ishl, 1) := by decide +kernel
theorem dX7_byRow_11 : decode cX7_byRow 11 = .ok (.if_icmp .ge 136, 3) := by decide +kernel
theorem dX7_byRow_14 : decode cX7_byRow 14 = .ok (.aload_n 0, 1) := by decide +kernel
theorem dX7_byRow_15 : decode cX7_byRow 15 = .ok (.invokevirtual 169, 3) := by decide +kernel
theorem dX7_byRow_18 : decode cX7_byRow 18 = .ok (.istore 8, 2) := by decide +kernel
theorem dX7_byRow_20 : decode cX7_byRow 20 = .ok (.lconst 1, 1) := by decide +kernel
theorem dX7_byRow_21 : decode cX7_byRow 21 = .ok (.lstore 9, 2) := by decide +kernel
theorem dX7_byRow_23 : decode cX7_byRow 23 = .ok (.iconst 0, 1) := by decide +kernel
theorem dX7_byRow_24 : decode cX7_byRow 24 = .ok (.istore 11, 2) := by decide +kernel
theorem dX7_byRow_26 : decode cX7_byRow 26 = .ok (.iload 11, 2) := by decide +kernel
theorem dX7_byRow_28 : decode cX7_byRow 28 = .ok (.iload_n 2, 1) := by decide +kernel
theorem dX7_byRow_29 : decode cX7_byRow 29 = .ok (.if_icmp .ge 93, 3) := by decide +kernel
theorem dX7_byRow_32 : decode cX7_byRow 32 = .ok (.iload 7, 2) := by decide +kernel
theorem dX7_byRow_34 : decode cX7_byRow 34 = .ok (.iload 11, 2) := by decide +kernel
theorem dX7_byRow_36 : decode cX7_byRow 36 = .ok (.invokestatic 68, 3) := by decide +kernel
theorem dX7_byRow_39 : decode cX7_byRow 39 = .ok (.istore 12, 2) := by decide +kernel
theorem dX7_byRow_41 : decode cX7_byRow 41 = .ok (.lload 9, 2) := by decide +kernel
theorem dX7_byRow_43 : decode cX7_byRow 43 = .ok (.iload 12, 2) := by decide +kernel
theorem dX7_byRow_45 : decode cX7_byRow 45 = .ok (.ifCond .eq 8, 3) := by decide +kernel
theorem dX7_byRow_48 : decode cX7_byRow 48 = .ok (.iload_n 3, 1) := by decide +kernel
theorem dX7_byRow_49 : decode cX7_byRow 49 = .ok (.i2l, 1) := by decide +kernel
theorem dX7_byRow_50 : decode cX7_byRow 50 = .ok (.goto 8, 3) := by decide +kernel
theorem dX7_byRow_53 : decode cX7_byRow 53 = .ok (.bipush 10, 2) := by decide +kernel
theorem dX7_byRow_55 : decode cX7_byRow 55 = .ok (.iload_n 3, 1) := by decide +kernel
theorem dX7_byRow_56 : decode cX7_byRow 56 = .ok (.isub, 1) := by decide +kernel
theorem dX7_byRow_57 : decode cX7_byRow 57 = .ok (.i2l, 1) := by decide +kernel
theorem dX7_byRow_58 : decode cX7_byRow 58 = .ok (.lmul, 1) := by decide +kernel
theorem dX7_byRow_59 : decode cX7_byRow 59 = .ok (.lstore 9, 2) := by decide +kernel
theorem dX7_byRow_61 : decode cX7_byRow 61 = .ok (.iload 4, 2) := by decide +kernel
theorem dX7_byRow_63 : decode cX7_byRow 63 = .ok (.ifCond .ne 7, 3) := by decide +kernel
theorem dX7_byRow_66 : decode cX7_byRow 66 = .ok (.iconst 0, 1) := by decide +kernel
theorem dX7_byRow_67 : decode cX7_byRow 67 = .ok (.goto 24, 3) := by decide +kernel
theorem dX7_byRow_70 : decode cX7_byRow 70 = .ok (.aload_n 0, 1) := by decide +kernel
theorem dX7_byRow_71 : decode cX7_byRow 71 = .ok (.getfield 42, 3) := by decide +kernel
theorem dX7_byRow_74 : decode cX7_byRow 74 = .ok (.iload 11, 2) := by decide +kernel
theorem dX7_byRow_76 : decode cX7_byRow 76 = .ok (.iload 4, 2) := by decide +kernel
theorem dX7_byRow_78 : decode cX7_byRow 78 = .ok (.if_icmp .ge 8, 3) := by decide +kernel
theorem dX7_byRow_81 : decode cX7_byRow 81 = .ok (.iload 11, 2) := by decide +kernel
theorem dX7_byRow_83 : decode cX7_byRow 83 = .ok (.goto 7, 3) := by decide +kernel
theorem dX7_byRow_86 : decode cX7_byRow 86 = .ok (.iload 4, 2) := by decide +kernel
theorem dX7_byRow_88 : decode cX7_byRow 88 = .ok (.iconst 1, 1) := by decide +kernel
theorem dX7_byRow_89 : decode cX7_byRow 89 = .ok (.isub, 1) := by decide +kernel
theorem dX7_byRow_90 : decode cX7_byRow 90 = .ok (.iaload, 1) := by decide +kernel
theorem dX7_byRow_91 : decode cX7_byRow 91 = .ok (.istore 13, 2) := by decide +kernel
theorem dX7_byRow_93 : decode cX7_byRow 93 = .ok (.iload 12, 2) := by decide +kernel
theorem dX7_byRow_95 : decode cX7_byRow 95 = .ok (.ifCond .eq 8, 3) := by decide +kernel
theorem dX7_byRow_98 : decode cX7_byRow 98 = .ok (.iload 8, 2) := by decide +kernel
theorem dX7_byRow_100 : decode cX7_byRow 100 = .ok (.goto 14, 3) := by decide +kernel
theorem dX7_byRow_103 : decode cX7_byRow 103 = .ok (.aload_n 0, 1) := by decide +kernel
theorem dX7_byRow_104 : decode cX7_byRow 104 = .ok (.iload_n 1, 1) := by decide +kernel
theorem dX7_byRow_105 : decode cX7_byRow 105 = .ok (.iload 8, 2) := by decide +kernel
theorem dX7_byRow_107 : decode cX7_byRow 107 = .ok (.iload 13, 2) := by decide +kernel
theorem dX7_byRow_109 : decode cX7_byRow 109 = .ok (.iload 11, 2) := by decide +kernel
theorem dX7_byRow_111 : decode cX7_byRow 111 = .ok (.invokevirtual 205, 3) := by decide +kernel
theorem dX7_byRow_114 : decode cX7_byRow 114 = .ok (.istore 8, 2) := by decide +kernel
theorem dX7_byRow_116 : decode cX7_byRow 116 = .ok (.iinc 11 1, 3) := by decide +kernel
theorem dX7_byRow_119 : decode cX7_byRow 119 = .ok (.goto (-93), 3) := by decide +kernel
theorem dX7_byRow_122 : decode cX7_byRow 122 = .ok (.lload 5, 2) := by decide +kernel
theorem dX7_byRow_124 : decode cX7_byRow 124 = .ok (.iload 8, 2) := by decide +kernel
theorem dX7_byRow_126 : decode cX7_byRow 126 = .ok (.sipush 160, 3) := by decide +kernel
theorem dX7_byRow_129 : decode cX7_byRow 129 = .ok (.if_icmp .ne 8, 3) := by decide +kernel
theorem dX7_byRow_132 : decode cX7_byRow 132 = .ok (.lload 9, 2) := by decide +kernel
theorem dX7_byRow_134 : decode cX7_byRow 134 = .ok (.goto 4, 3) := by decide +kernel
theorem dX7_byRow_137 : decode cX7_byRow 137 = .ok (.lconst 0, 1) := by decide +kernel
theorem dX7_byRow_138 : decode cX7_byRow 138 = .ok (.ladd, 1) := by decide +kernel
theorem dX7_byRow_139 : decode cX7_byRow 139 = .ok (.lstore 5, 2) := by decide +kernel
theorem dX7_byRow_141 : decode cX7_byRow 141 = .ok (.iinc 7 1, 3) := by decide +kernel
theorem dX7_byRow_144 : decode cX7_byRow 144 = .ok (.goto (-138), 3) := by decide +kernel
theorem dX7_byRow_147 : decode cX7_byRow 147 = .ok (.lload 5, 2) := by decide +kernel
theorem dX7_byRow_149 : decode cX7_byRow 149 = .ok (.lreturn, 1) := by decide +kernel
theorem dX7_odds_0 : decode cX7_odds 0 = .ok (.aload_n 0, 1) := by decide +kernel
theorem dX7_odds_1 : decode cX7_odds 1 = .ok (.iload_n 1, 1) := by decide +kernel
theorem dX7_odds_2 : decode cX7_odds 2 = .ok (.invokevirtual 186, 3) := by decide +kernel
theorem dX7_odds_5 : decode cX7_odds 5 = .ok (.ifCond .ne 7, 3) := by decide +kernel
theorem dX7_odds_8 : decode cX7_odds 8 = .ok (.ldc2_w 89, 3) := by decide +kernel
theorem dX7_odds_11 : decode cX7_odds 11 = .ok (.lreturn, 1) := by decide +kernel
theorem dX7_odds_12 : decode cX7_odds 12 = .ok (.iload_n 2, 1) := by decide +kernel
theorem dX7_odds_13 : decode cX7_odds 13 = .ok (.bipush 8, 2) := by decide +kernel
theorem dX7_odds_15 : decode cX7_odds 15 = .ok (.iload_n 3, 1) := by decide +kernel
theorem dX7_odds_16 : decode cX7_odds 16 = .ok (.iload 4, 2) := by decide +kernel
theorem dX7_odds_18 : decode cX7_odds 18 = .ok (.invokestatic 243, 3) := by decide +kernel
theorem dX7_odds_21 : decode cX7_odds 21 = .ok (.ifCond .ne 7, 3) := by decide +kernel
theorem dX7_odds_24 : decode cX7_odds 24 = .ok (.ldc2_w 103, 3) := by decide +kernel
theorem dX7_odds_27 : decode cX7_odds 27 = .ok (.lreturn, 1) := by decide +kernel
theorem dX7_odds_28 : decode cX7_odds 28 = .ok (.aload_n 0, 1) := by decide +kernel
theorem dX7_odds_29 : decode cX7_odds 29 = .ok (.iload_n 1, 1) := by decide +kernel
theorem dX7_odds_30 : decode cX7_odds 30 = .ok (.iconst 0, 1) := by decide +kernel
theorem dX7_odds_31 : decode cX7_odds 31 = .ok (.invokevirtual 236, 3) := by decide +kernel
theorem dX7_odds_34 : decode cX7_odds 34 = .ok (.ifCond .ne 7, 3) := by decide +kernel
theorem dX7_odds_37 : decode cX7_odds 37 = .ok (.ldc2_w 99, 3) := by decide +kernel
theorem dX7_odds_40 : decode cX7_odds 40 = .ok (.lreturn, 1) := by decide +kernel
theorem dX7_odds_41 : decode cX7_odds 41 = .ok (.aload_n 0, 1) := by decide +kernel
theorem dX7_odds_42 : decode cX7_odds 42 = .ok (.iload_n 1, 1) := by decide +kernel
theorem dX7_odds_43 : decode cX7_odds 43 = .ok (.iload_n 2, 1) := by decide +kernel
theorem dX7_odds_44 : decode cX7_odds 44 = .ok (.iload_n 3, 1) := by decide +kernel
theorem dX7_odds_45 : decode cX7_odds 45 = .ok (.aload_n 0, 1) := by decide +kernel
theorem dX7_odds_46 : decode cX7_odds 46 = .ok (.getfield 224, 3) := by decide +kernel
theorem dX7_odds_49 : decode cX7_odds 49 = .ok (.invokevirtual 246, 3) := by decide +kernel
theorem dX7_odds_52 : decode cX7_odds 52 = .ok (.bipush 10, 2) := by decide +kernel
theorem dX7_odds_54 : decode cX7_odds 54 = .ok (.iload_n 2, 1) := by decide +kernel
theorem dX7_odds_55 : decode cX7_odds 55 = .ok (.invokestatic 250, 3) := by decide +kernel
theorem dX7_odds_58 : decode cX7_odds 58 = .ok (.iload 4, 2) := by decide +kernel
theorem dX7_odds_60 : decode cX7_odds 60 = .ok (.invokestatic 254, 3) := by decide +kernel
theorem dX7_odds_63 : decode cX7_odds 63 = .ok (.lreturn, 1) := by decide +kernel
theorem dX7_sightOf_0 : decode cX7_sightOf 0 = .ok (.iconst 0, 1) := by decide +kernel
theorem dX7_sightOf_1 : decode cX7_sightOf 1 = .ok (.istore 4, 2) := by decide +kernel
theorem dX7_sightOf_3 : decode cX7_sightOf 3 = .ok (.iload 4, 2) := by decide +kernel
theorem dX7_sightOf_5 : decode cX7_sightOf 5 = .ok (.sipush 966, 3) := by decide +kernel
theorem dX7_sightOf_8 : decode cX7_sightOf 8 = .ok (.if_icmp .ge 38, 3) := by decide +kernel
theorem dX7_sightOf_11 : decode cX7_sightOf 11 = .ok (.aload_n 0, 1) := by decide +kernel
theorem dX7_sightOf_12 : decode cX7_sightOf 12 = .ok (.getfield 54, 3) := by decide +kernel
theorem dX7_sightOf_15 : decode cX7_sightOf 15 = .ok (.sipush 966, 3) := by decide +kernel
theorem dX7_sightOf_18 : decode cX7_sightOf 18 = .ok (.iload_n 2, 1) := by decide +kernel
theorem dX7_sightOf_19 : decode cX7_sightOf 19 = .ok (.imul, 1) := by decide +kernel
theorem dX7_sightOf_20 : decode cX7_sightOf 20 = .ok (.iload 4, 2) := by decide +kernel
theorem dX7_sightOf_22 : decode cX7_sightOf 22 = .ok (.iadd, 1) := by decide +kernel
theorem dX7_sightOf_23 : decode cX7_sightOf 23 = .ok (.iload 4, 2) := by decide +kernel
theorem dX7_sightOf_25 : decode cX7_sightOf 25 = .ok (.bipush 6, 2) := by decide +kernel
theorem dX7_sightOf_27 : decode cX7_sightOf 27 = .ok (.idiv, 1) := by decide +kernel
theorem dX7_sightOf_28 : decode cX7_sightOf 28 = .ok (.sipush 160, 3) := by decide +kernel
theorem dX7_sightOf_31 : decode cX7_sightOf 31 = .ok (.if_icmp .ne 7, 3) := by decide +kernel
theorem dX7_sightOf_34 : decode cX7_sightOf 34 = .ok (.lconst 1, 1) := by decide +kernel
theorem dX7_sightOf_35 : decode cX7_sightOf 35 = .ok (.goto 4, 3) := by decide +kernel
theorem dX7_sightOf_38 : decode cX7_sightOf 38 = .ok (.lconst 0, 1) := by decide +kernel
theorem dX7_sightOf_39 : decode cX7_sightOf 39 = .ok (.lastore, 1) := by decide +kernel
theorem dX7_sightOf_40 : decode cX7_sightOf 40 = .ok (.iinc 4 1, 3) := by decide +kernel
theorem dX7_sightOf_43 : decode cX7_sightOf 43 = .ok (.goto (-40), 3) := by decide +kernel
theorem dX7_sightOf_46 : decode cX7_sightOf 46 = .ok (.iload_n 2, 1) := by decide +kernel
theorem dX7_sightOf_47 : decode cX7_sightOf 47 = .ok (.iconst 1, 1) := by decide +kernel
theorem dX7_sightOf_48 : decode cX7_sightOf 48 = .ok (.isub, 1) := by decide +kernel
theorem dX7_sightOf_49 : decode cX7_sightOf 49 = .ok (.istore 4, 2) := by decide +kernel
theorem dX7_sightOf_51 : decode cX7_sightOf 51 = .ok (.iload 4, 2) := by decide +kernel
theorem dX7_sightOf_53 : decode cX7_sightOf 53 = .ok (.ifCond .lt 201, 3) := by decide +kernel
theorem dX7_sightOf_56 : decode cX7_sightOf 56 = .ok (.iconst 0, 1) := by decide +kernel
theorem dX7_sightOf_57 : decode cX7_sightOf 57 = .ok (.istore 5, 2) := by decide +kernel
theorem dX7_sightOf_59 : decode cX7_sightOf 59 = .ok (.iload 5, 2) := by decide +kernel
theorem dX7_sightOf_61 : decode cX7_sightOf 61 = .ok (.sipush 966, 3) := by decide +kernel
theorem dX7_sightOf_64 : decode cX7_sightOf 64 = .ok (.if_icmp .ge 184, 3) := by decide +kernel
theorem dX7_sightOf_67 : decode cX7_sightOf 67 = .ok (.iload 5, 2) := by decide +kernel
theorem dX7_sightOf_69 : decode cX7_sightOf 69 = .ok (.bipush 6, 2) := by decide +kernel
theorem dX7_sightOf_71 : decode cX7_sightOf 71 = .ok (.idiv, 1) := by decide +kernel
theorem dX7_sightOf_72 : decode cX7_sightOf 72 = .ok (.istore 6, 2) := by decide +kernel
theorem dX7_sightOf_74 : decode cX7_sightOf 74 = .ok (.lconst 0, 1) := by decide +kernel
theorem dX7_sightOf_75 : decode cX7_sightOf 75 = .ok (.lstore 7, 2) := by decide +kernel
theorem dX7_sightOf_77 : decode cX7_sightOf 77 = .ok (.lconst 0, 1) := by decide +kernel
theorem dX7_sightOf_78 : decode cX7_sightOf 78 = .ok (.lstore 9, 2) := by decide +kernel
theorem dX7_sightOf_80 : decode cX7_sightOf 80 = .ok (.iconst 0, 1) := by decide +kernel
theorem dX7_sightOf_81 : decode cX7_sightOf 81 = .ok (.istore 11, 2) := by decide +kernel
theorem dX7_sightOf_83 : decode cX7_sightOf 83 = .ok (.iload 11, 2) := by decide +kernel
theorem dX7_sightOf_85 : decode cX7_sightOf 85 = .ok (.bipush 6, 2) := by decide +kernel
theorem dX7_sightOf_87 : decode cX7_sightOf 87 = .ok (.if_icmp .ge 127, 3) := by decide +kernel
theorem dX7_sightOf_90 : decode cX7_sightOf 90 = .ok (.aload_n 0, 1) := by decide +kernel
theorem dX7_sightOf_91 : decode cX7_sightOf 91 = .ok (.iload 6, 2) := by decide +kernel
theorem dX7_sightOf_93 : decode cX7_sightOf 93 = .ok (.invokevirtual 213, 3) := by decide +kernel
theorem dX7_sightOf_96 : decode cX7_sightOf 96 = .ok (.ifCond .eq 118, 3) := by decide +kernel
theorem dX7_sightOf_99 : decode cX7_sightOf 99 = .ok (.iload 11, 2) := by decide +kernel
theorem dX7_sightOf_101 : decode cX7_sightOf 101 = .ok (.iload 5, 2) := by decide +kernel
theorem dX7_sightOf_103 : decode cX7_sightOf 103 = .ok (.bipush 6, 2) := by decide +kernel
theorem dX7_sightOf_105 : decode cX7_sightOf 105 = .ok (.irem, 1) := by decide +kernel
theorem dX7_sightOf_106 : decode cX7_sightOf 106 = .ok (.invokestatic 197, 3) := by decide +kernel
theorem dX7_sightOf_109 : decode cX7_sightOf 109 = .ok (.aload_n 0, 1) := by decide +kernel
theorem dX7_sightOf_110 : decode cX7_sightOf 110 = .ok (.iload_n 1, 1) := by decide +kernel
theorem dX7_sightOf_111 : decode cX7_sightOf 111 = .ok (.invokevirtual 189, 3) := by decide +kernel
theorem dX7_sightOf_114 : decode cX7_sightOf 114 = .ok (.if_icmp .gt 94, 3) := by decide +kernel
theorem dX7_sightOf_117 : decode cX7_sightOf 117 = .ok (.aload_n 0, 1) := by decide +kernel
theorem dX7_sightOf_118 : decode cX7_sightOf 118 = .ok (.getfield 54, 3) := by decide +kernel
theorem dX7_sightOf_121 : decode cX7_sightOf 121 = .ok (.sipush 966, 3) := by decide +kernel
theorem dX7_sightOf_124 : decode cX7_sightOf 124 = .ok (.iload 4, 2) := by decide +kernel
theorem dX7_sightOf_126 : decode cX7_sightOf 126 = .ok (.iconst 1, 1) := by decide +kernel
theorem dX7_sightOf_127 : decode cX7_sightOf 127 = .ok (.iadd, 1) := by decide +kernel
theorem dX7_sightOf_128 : decode cX7_sightOf 128 = .ok (.imul, 1) := by decide +kernel
theorem dX7_sightOf_129 : decode cX7_sightOf 129 = .ok (.bipush 6, 2) := by decide +kernel
theorem dX7_sightOf_131 : decode cX7_sightOf 131 = .ok (.iload 6, 2) := by decide +kernel
theorem dX7_sightOf_133 : decode cX7_sightOf 133 = .ok (.imul, 1) := by decide +kernel
theorem dX7_sightOf_134 : decode cX7_sightOf 134 = .ok (.iadd, 1) := by decide +kernel
theorem dX7_sightOf_135 : decode cX7_sightOf 135 = .ok (.iload 11, 2) := by decide +kernel
theorem dX7_sightOf_137 : decode cX7_sightOf 137 = .ok (.iadd, 1) := by decide +kernel
theorem dX7_sightOf_138 : decode cX7_sightOf 138 = .ok (.laload, 1) := by decide +kernel
theorem dX7_sightOf_139 : decode cX7_sightOf 139 = .ok (.lstore 12, 2) := by decide +kernel
theorem dX7_sightOf_141 : decode cX7_sightOf 141 = .ok (.aload_n 0, 1) := by decide +kernel
theorem dX7_sightOf_142 : decode cX7_sightOf 142 = .ok (.getfield 54, 3) := by decide +kernel
theorem dX7_sightOf_145 : decode cX7_sightOf 145 = .ok (.sipush 966, 3) := by decide +kernel
theorem dX7_sightOf_148 : decode cX7_sightOf 148 = .ok (.iload 4, 2) := by decide +kernel
theorem dX7_sightOf_150 : decode cX7_sightOf 150 = .ok (.iconst 1, 1) := by decide +kernel
theorem dX7_sightOf_151 : decode cX7_sightOf 151 = .ok (.iadd, 1) := by decide +kernel
theorem dX7_sightOf_152 : decode cX7_sightOf 152 = .ok (.imul, 1) := by decide +kernel
theorem dX7_sightOf_153 : decode cX7_sightOf 153 = .ok (.bipush 6, 2) := by decide +kernel
theorem dX7_sightOf_155 : decode cX7_sightOf 155 = .ok (.aload_n 0, 1) := by decide +kernel
theorem dX7_sightOf_156 : decode cX7_sightOf 156 = .ok (.iload_n 1, 1) := by decide +kernel
theorem dX7_sightOf_157 : decode cX7_sightOf 157 = .ok (.iload 6, 2) := by decide +kernel
theorem dX7_sightOf_159 : decode cX7_sightOf 159 = .ok (.iload 11, 2) := by decide +kernel
theorem dX7_sightOf_161 : decode cX7_sightOf 161 = .ok (.iload 4, 2) := by decide +kernel
theorem dX7_sightOf_163 : decode cX7_sightOf 163 = .ok (.invokevirtual 205, 3) := by decide +kernel
theorem dX7_sightOf_166 : decode cX7_sightOf 166 = .ok (.imul, 1) := by decide +kernel
theorem dX7_sightOf_167 : decode cX7_sightOf 167 = .ok (.iadd, 1) := by decide +kernel
theorem dX7_sightOf_168 : decode cX7_sightOf 168 = .ok (.iload 11, 2) := by decide +kernel
theorem dX7_sightOf_170 : decode cX7_sightOf 170 = .ok (.iadd, 1) := by decide +kernel
theorem dX7_sightOf_171 : decode cX7_sightOf 171 = .ok (.laload, 1) := by decide +kernel
theorem dX7_sightOf_172 : decode cX7_sightOf 172 = .ok (.lstore 14, 2) := by decide +kernel
theorem dX7_sightOf_174 : decode cX7_sightOf 174 = .ok (.lload 12, 2) := by decide +kernel
theorem dX7_sightOf_176 : decode cX7_sightOf 176 = .ok (.lload 7, 2) := by decide +kernel
theorem dX7_sightOf_178 : decode cX7_sightOf 178 = .ok (.lcmp, 1) := by decide +kernel
theorem dX7_sightOf_179 : decode cX7_sightOf 179 = .ok (.ifCond .le 8, 3) := by decide +kernel
theorem dX7_sightOf_182 : decode cX7_sightOf 182 = .ok (.lload 12, 2) := by decide +kernel
theorem dX7_sightOf_184 : decode cX7_sightOf 184 = .ok (.goto 5, 3) := by decide +kernel
theorem dX7_sightOf_187 : decode cX7_sightOf 187 = .ok (.lload 7, 2) := by decide +kernel
theorem dX7_sightOf_189 : decode cX7_sightOf 189 = .ok (.lstore 7, 2) := by decide +kernel
theorem dX7_sightOf_191 : decode cX7_sightOf 191 = .ok (.lload 14, 2) := by decide +kernel
theorem dX7_sightOf_193 : decode cX7_sightOf 193 = .ok (.lload 9, 2) := by decide +kernel
theorem dX7_sightOf_195 : decode cX7_sightOf 195 = .ok (.lcmp, 1) := by decide +kernel
theorem dX7_sightOf_196 : decode cX7_sightOf 196 = .ok (.ifCond .le 8, 3) := by decide +kernel
theorem dX7_sightOf_199 : decode cX7_sightOf 199 = .ok (.lload 14, 2) := by decide +kernel
theorem dX7_sightOf_201 : decode cX7_sightOf 201 = .ok (.goto 5, 3) := by decide +kernel
theorem dX7_sightOf_204 : decode cX7_sightOf 204 = .ok (.lload 9, 2) := by decide +kernel
theorem dX7_sightOf_206 : decode cX7_sightOf 206 = .ok (.lstore 9, 2) := by decide +kernel
theorem dX7_sightOf_208 : decode cX7_sightOf 208 = .ok (.iinc 11 1, 3) := by decide +kernel
theorem dX7_sightOf_211 : decode cX7_sightOf 211 = .ok (.goto (-128), 3) := by decide +kernel
theorem dX7_sightOf_214 : decode cX7_sightOf 214 = .ok (.aload_n 0, 1) := by decide +kernel
theorem dX7_sightOf_215 : decode cX7_sightOf 215 = .ok (.getfield 54, 3) := by decide +kernel
theorem dX7_sightOf_218 : decode cX7_sightOf 218 = .ok (.sipush 966, 3) := by decide +kernel
theorem dX7_sightOf_221 : decode cX7_sightOf 221 = .ok (.iload 4, 2) := by decide +kernel
theorem dX7_sightOf_223 : decode cX7_sightOf 223 = .ok (.imul, 1) := by decide +kernel
theorem dX7_sightOf_224 : decode cX7_sightOf 224 = .ok (.iload 5, 2) := by decide +kernel
theorem dX7_sightOf_226 : decode cX7_sightOf 226 = .ok (.iadd, 1) := by decide +kernel
theorem dX7_sightOf_227 : decode cX7_sightOf 227 = .ok (.iload_n 3, 1) := by decide +kernel
theorem dX7_sightOf_228 : decode cX7_sightOf 228 = .ok (.i2l, 1) := by decide +kernel
theorem dX7_sightOf_229 : decode cX7_sightOf 229 = .ok (.lload 7, 2) := by decide +kernel
theorem dX7_sightOf_231 : decode cX7_sightOf 231 = .ok (.lmul, 1) := by decide +kernel
theorem dX7_sightOf_232 : decode cX7_sightOf 232 = .ok (.bipush 10, 2) := by decide +kernel
theorem dX7_sightOf_234 : decode cX7_sightOf 234 = .ok (.iload_n 3, 1) := by decide +kernel
theorem dX7_sightOf_235 : decode cX7_sightOf 235 = .ok (.isub, 1) := by decide +kernel
theorem dX7_sightOf_236 : decode cX7_sightOf 236 = .ok (.i2l, 1) := by decide +kernel
theorem dX7_sightOf_237 : decode cX7_sightOf 237 = .ok (.lload 9, 2) := by decide +kernel
theorem dX7_sightOf_239 : decode cX7_sightOf 239 = .ok (.lmul, 1) := by decide +kernel
theorem dX7_sightOf_240 : decode cX7_sightOf 240 = .ok (.ladd, 1) := by decide +kernel
theorem dX7_sightOf_241 : decode cX7_sightOf 241 = .ok (.lastore, 1) := by decide +kernel
theorem dX7_sightOf_242 : decode cX7_sightOf 242 = .ok (.iinc 5 1, 3) := by decide +kernel
theorem dX7_sightOf_245 : decode cX7_sightOf 245 = .ok (.goto (-186), 3) := by decide +kernel
theorem dX7_sightOf_248 : decode cX7_sightOf 248 = .ok (.iinc 4 (-1), 3) := by decide +kernel
theorem dX7_sightOf_251 : decode cX7_sightOf 251 = .ok (.goto (-200), 3) := by decide +kernel
theorem dX7_sightOf_254 : decode cX7_sightOf 254 = .ok (.aload_n 0, 1) := by decide +kernel
theorem dX7_sightOf_255 : decode cX7_sightOf 255 = .ok (.getfield 54, 3) := by decide +kernel
theorem dX7_sightOf_258 : decode cX7_sightOf 258 = .ok (.bipush 6, 2) := by decide +kernel
theorem dX7_sightOf_260 : decode cX7_sightOf 260 = .ok (.aload_n 0, 1) := by decide +kernel
theorem dX7_sightOf_261 : decode cX7_sightOf 261 = .ok (.invokevirtual 169, 3) := by decide +kernel
theorem dX7_sightOf_264 : decode cX7_sightOf 264 = .ok (.imul, 1) := by decide +kernel
theorem dX7_sightOf_265 : decode cX7_sightOf 265 = .ok (.laload, 1) := by decide +kernel
theorem dX7_sightOf_266 : decode cX7_sightOf 266 = .ok (.lreturn, 1) := by decide +kernel
theorem dX7_sight_0 : decode cX7_sight 0 = .ok (.aload_n 0, 1) := by decide +kernel
theorem dX7_sight_1 : decode cX7_sight 1 = .ok (.iload_n 1, 1) := by decide +kernel
theorem dX7_sight_2 : decode cX7_sight 2 = .ok (.invokevirtual 186, 3) := by decide +kernel
theorem dX7_sight_5 : decode cX7_sight 5 = .ok (.ifCond .ne 7, 3) := by decide +kernel
theorem dX7_sight_8 : decode cX7_sight 8 = .ok (.ldc2_w 89, 3) := by decide +kernel
theorem dX7_sight_11 : decode cX7_sight 11 = .ok (.lreturn, 1) := by decide +kernel
theorem dX7_sight_12 : decode cX7_sight 12 = .ok (.iload_n 2, 1) := by decide +kernel
theorem dX7_sight_13 : decode cX7_sight 13 = .ok (.bipush 8, 2) := by decide +kernel
theorem dX7_sight_15 : decode cX7_sight 15 = .ok (.iload_n 3, 1) := by decide +kernel
theorem dX7_sight_16 : decode cX7_sight 16 = .ok (.iload 4, 2) := by decide +kernel
theorem dX7_sight_18 : decode cX7_sight 18 = .ok (.invokestatic 243, 3) := by decide +kernel
theorem dX7_sight_21 : decode cX7_sight 21 = .ok (.ifCond .eq 24, 3) := by decide +kernel
theorem dX7_sight_24 : decode cX7_sight 24 = .ok (.aload_n 0, 1) := by decide +kernel
theorem dX7_sight_25 : decode cX7_sight 25 = .ok (.iload_n 1, 1) := by decide +kernel
theorem dX7_sight_26 : decode cX7_sight 26 = .ok (.iload_n 2, 1) := by decide +kernel
theorem dX7_sight_27 : decode cX7_sight 27 = .ok (.iload_n 3, 1) := by decide +kernel
theorem dX7_sight_28 : decode cX7_sight 28 = .ok (.invokevirtual 258, 3) := by decide +kernel
theorem dX7_sight_31 : decode cX7_sight 31 = .ok (.bipush 10, 2) := by decide +kernel
theorem dX7_sight_33 : decode cX7_sight 33 = .ok (.iload_n 2, 1) := by decide +kernel
theorem dX7_sight_34 : decode cX7_sight 34 = .ok (.invokestatic 250, 3) := by decide +kernel
theorem dX7_sight_37 : decode cX7_sight 37 = .ok (.iload 4, 2) := by decide +kernel
theorem dX7_sight_39 : decode cX7_sight 39 = .ok (.invokestatic 254, 3) := by decide +kernel
theorem dX7_sight_42 : decode cX7_sight 42 = .ok (.goto 6, 3) := by decide +kernel
theorem dX7_sight_45 : decode cX7_sight 45 = .ok (.ldc2_w 103, 3) := by decide +kernel
theorem dX7_sight_48 : decode cX7_sight 48 = .ok (.lreturn, 1) := by decide +kernel
theorem dX7_blindOf_0 : decode cX7_blindOf 0 = .ok (.lconst 0, 1) := by decide +kernel
theorem dX7_blindOf_1 : decode cX7_blindOf 1 = .ok (.lstore 4, 2) := by decide +kernel
theorem dX7_blindOf_3 : decode cX7_blindOf 3 = .ok (.iconst 0, 1) := by decide +kernel
theorem dX7_blindOf_4 : decode cX7_blindOf 4 = .ok (.istore 6, 2) := by decide +kernel
theorem dX7_blindOf_6 : decode cX7_blindOf 6 = .ok (.iload 6, 2) := by decide +kernel
theorem dX7_blindOf_8 : decode cX7_blindOf 8 = .ok (.bipush 6, 2) := by decide +kernel
theorem dX7_blindOf_10 : decode cX7_blindOf 10 = .ok (.iload_n 2, 1) := by decide +kernel
theorem dX7_blindOf_11 : decode cX7_blindOf 11 = .ok (.invokestatic 250, 3) := by decide +kernel
theorem dX7_blindOf_14 : decode cX7_blindOf 14 = .ok (.l2i, 1) := by decide +kernel
theorem dX7_blindOf_15 : decode cX7_blindOf 15 = .ok (.if_icmp .ge 130, 3) := by decide +kernel
theorem dX7_blindOf_18 : decode cX7_blindOf 18 = .ok (.iload 6, 2) := by decide +kernel
theorem dX7_blindOf_20 : decode cX7_blindOf 20 = .ok (.istore 7, 2) := by decide +kernel
theorem dX7_blindOf_22 : decode cX7_blindOf 22 = .ok (.iconst 0, 1) := by decide +kernel
theorem dX7_blindOf_23 : decode cX7_blindOf 23 = .ok (.istore 8, 2) := by decide +kernel
theorem dX7_blindOf_25 : decode cX7_blindOf 25 = .ok (.iconst 1, 1) := by decide +kernel
theorem dX7_blindOf_26 : decode cX7_blindOf 26 = .ok (.istore 9, 2) := by decide +kernel
theorem dX7_blindOf_28 : decode cX7_blindOf 28 = .ok (.iconst 0, 1) := by decide +kernel
theorem dX7_blindOf_29 : decode cX7_blindOf 29 = .ok (.istore 10, 2) := by decide +kernel
theorem dX7_blindOf_31 : decode cX7_blindOf 31 = .ok (.iload 10, 2) := by decide +kernel
theorem dX7_blindOf_33 : decode cX7_blindOf 33 = .ok (.iload_n 2, 1) := by decide +kernel
theorem dX7_blindOf_34 : decode cX7_blindOf 34 = .ok (.if_icmp .ge 69, 3) := by decide +kernel
theorem dX7_blindOf_37 : decode cX7_blindOf 37 = .ok (.aload_n 0, 1) := by decide +kernel
theorem dX7_blindOf_38 : decode cX7_blindOf 38 = .ok (.getfield 42, 3) := by decide +kernel
theorem dX7_blindOf_41 : decode cX7_blindOf 41 = .ok (.iload 10, 2) := by decide +kernel
theorem dX7_blindOf_43 : decode cX7_blindOf 43 = .ok (.iload 7, 2) := by decide +kernel
theorem dX7_blindOf_45 : decode cX7_blindOf 45 = .ok (.bipush 6, 2) := by decide +kernel
theorem dX7_blindOf_47 : decode cX7_blindOf 47 = .ok (.irem, 1) := by decide +kernel
theorem dX7_blindOf_48 : decode cX7_blindOf 48 = .ok (.iastore, 1) := by decide +kernel
theorem dX7_blindOf_49 : decode cX7_blindOf 49 = .ok (.iload 7, 2) := by decide +kernel
theorem dX7_blindOf_51 : decode cX7_blindOf 51 = .ok (.bipush 6, 2) := by decide +kernel
theorem dX7_blindOf_53 : decode cX7_blindOf 53 = .ok (.idiv, 1) := by decide +kernel
theorem dX7_blindOf_54 : decode cX7_blindOf 54 = .ok (.istore 7, 2) := by decide +kernel
theorem dX7_blindOf_56 : decode cX7_blindOf 56 = .ok (.iload 9, 2) := by decide +kernel
theorem dX7_blindOf_58 : decode cX7_blindOf 58 = .ok (.ifCond .eq 27, 3) := by decide +kernel
theorem dX7_blindOf_61 : decode cX7_blindOf 61 = .ok (.iload 8, 2) := by decide +kernel
theorem dX7_blindOf_63 : decode cX7_blindOf 63 = .ok (.aload_n 0, 1) := by decide +kernel
theorem dX7_blindOf_64 : decode cX7_blindOf 64 = .ok (.getfield 42, 3) := by decide +kernel
theorem dX7_blindOf_67 : decode cX7_blindOf 67 = .ok (.iload 10, 2) := by decide +kernel
theorem dX7_blindOf_69 : decode cX7_blindOf 69 = .ok (.iaload, 1) := by decide +kernel
theorem dX7_blindOf_70 : decode cX7_blindOf 70 = .ok (.invokestatic 197, 3) := by decide +kernel
theorem dX7_blindOf_73 : decode cX7_blindOf 73 = .ok (.aload_n 0, 1) := by decide +kernel
theorem dX7_blindOf_74 : decode cX7_blindOf 74 = .ok (.iload_n 1, 1) := by decide +kernel
theorem dX7_blindOf_75 : decode cX7_blindOf 75 = .ok (.invokevirtual 189, 3) := by decide +kernel
theorem dX7_blindOf_78 : decode cX7_blindOf 78 = .ok (.if_icmp .gt 7, 3) := by decide +kernel
theorem dX7_blindOf_81 : decode cX7_blindOf 81 = .ok (.iconst 1, 1) := by decide +kernel
theorem dX7_blindOf_82 : decode cX7_blindOf 82 = .ok (.goto 4, 3) := by decide +kernel
theorem dX7_blindOf_85 : decode cX7_blindOf 85 = .ok (.iconst 0, 1) := by decide +kernel
theorem dX7_blindOf_86 : decode cX7_blindOf 86 = .ok (.istore 9, 2) := by decide +kernel
theorem dX7_blindOf_88 : decode cX7_blindOf 88 = .ok (.aload_n 0, 1) := by decide +kernel
theorem dX7_blindOf_89 : decode cX7_blindOf 89 = .ok (.getfield 42, 3) := by decide +kernel
theorem dX7_blindOf_92 : decode cX7_blindOf 92 = .ok (.iload 10, 2) := by decide +kernel
theorem dX7_blindOf_94 : decode cX7_blindOf 94 = .ok (.iaload, 1) := by decide +kernel
theorem dX7_blindOf_95 : decode cX7_blindOf 95 = .ok (.istore 8, 2) := by decide +kernel
theorem dX7_blindOf_97 : decode cX7_blindOf 97 = .ok (.iinc 10 1, 3) := by decide +kernel
theorem dX7_blindOf_100 : decode cX7_blindOf 100 = .ok (.goto (-69), 3) := by decide +kernel
theorem dX7_blindOf_103 : decode cX7_blindOf 103 = .ok (.iload 9, 2) := by decide +kernel
theorem dX7_blindOf_105 : decode cX7_blindOf 105 = .ok (.ifCond .eq 14, 3) := by decide +kernel
theorem dX7_blindOf_108 : decode cX7_blindOf 108 = .ok (.aload_n 0, 1) := by decide +kernel
theorem dX7_blindOf_109 : decode cX7_blindOf 109 = .ok (.iload_n 1, 1) := by decide +kernel
theorem dX7_blindOf_110 : decode cX7_blindOf 110 = .ok (.iload_n 2, 1) := by decide +kernel
theorem dX7_blindOf_111 : decode cX7_blindOf 111 = .ok (.iload_n 3, 1) := by decide +kernel
theorem dX7_blindOf_112 : decode cX7_blindOf 112 = .ok (.iload_n 2, 1) := by decide +kernel
theorem dX7_blindOf_113 : decode cX7_blindOf 113 = .ok (.invokevirtual 246, 3) := by decide +kernel
theorem dX7_blindOf_116 : decode cX7_blindOf 116 = .ok (.goto 4, 3) := by decide +kernel
theorem dX7_blindOf_119 : decode cX7_blindOf 119 = .ok (.lconst 0, 1) := by decide +kernel
theorem dX7_blindOf_120 : decode cX7_blindOf 120 = .ok (.lstore 10, 2) := by decide +kernel
theorem dX7_blindOf_122 : decode cX7_blindOf 122 = .ok (.lload 10, 2) := by decide +kernel
theorem dX7_blindOf_124 : decode cX7_blindOf 124 = .ok (.lload 4, 2) := by decide +kernel
theorem dX7_blindOf_126 : decode cX7_blindOf 126 = .ok (.lcmp, 1) := by decide +kernel
theorem dX7_blindOf_127 : decode cX7_blindOf 127 = .ok (.ifCond .le 8, 3) := by decide +kernel
theorem dX7_blindOf_130 : decode cX7_blindOf 130 = .ok (.lload 10, 2) := by decide +kernel
theorem dX7_blindOf_132 : decode cX7_blindOf 132 = .ok (.goto 5, 3) := by decide +kernel
theorem dX7_blindOf_135 : decode cX7_blindOf 135 = .ok (.lload 4, 2) := by decide +kernel
theorem dX7_blindOf_137 : decode cX7_blindOf 137 = .ok (.lstore 4, 2) := by decide +kernel
theorem dX7_blindOf_139 : decode cX7_blindOf 139 = .ok (.iinc 6 1, 3) := by decide +kernel
theorem dX7_blindOf_142 : decode cX7_blindOf 142 = .ok (.goto (-136), 3) := by decide +kernel
theorem dX7_blindOf_145 : decode cX7_blindOf 145 = .ok (.lload 4, 2) := by decide +kernel
theorem dX7_blindOf_147 : decode cX7_blindOf 147 = .ok (.lreturn, 1) := by decide +kernel
theorem dX7_blind_0 : decode cX7_blind 0 = .ok (.aload_n 0, 1) := by decide +kernel
theorem dX7_blind_1 : decode cX7_blind 1 = .ok (.iload_n 1, 1) := by decide +kernel
theorem dX7_blind_2 : decode cX7_blind 2 = .ok (.invokevirtual 186, 3) := by decide +kernel
theorem dX7_blind_5 : decode cX7_blind 5 = .ok (.ifCond .ne 7, 3) := by decide +kernel
theorem dX7_blind_8 : decode cX7_blind 8 = .ok (.ldc2_w 89, 3) := by decide +kernel
theorem dX7_blind_11 : decode cX7_blind 11 = .ok (.lreturn, 1) := by decide +kernel
theorem dX7_blind_12 : decode cX7_blind 12 = .ok (.iload_n 2, 1) := by decide +kernel
theorem dX7_blind_13 : decode cX7_blind 13 = .ok (.iconst 4, 1) := by decide +kernel
theorem dX7_blind_14 : decode cX7_blind 14 = .ok (.iload_n 3, 1) := by decide +kernel
theorem dX7_blind_15 : decode cX7_blind 15 = .ok (.iload 4, 2) := by decide +kernel
theorem dX7_blind_17 : decode cX7_blind 17 = .ok (.invokestatic 243, 3) := by decide +kernel
theorem dX7_blind_20 : decode cX7_blind 20 = .ok (.ifCond .eq 24, 3) := by decide +kernel
theorem dX7_blind_23 : decode cX7_blind 23 = .ok (.aload_n 0, 1) := by decide +kernel
theorem dX7_blind_24 : decode cX7_blind 24 = .ok (.iload_n 1, 1) := by decide +kernel
theorem dX7_blind_25 : decode cX7_blind 25 = .ok (.iload_n 2, 1) := by decide +kernel
theorem dX7_blind_26 : decode cX7_blind 26 = .ok (.iload_n 3, 1) := by decide +kernel
theorem dX7_blind_27 : decode cX7_blind 27 = .ok (.invokevirtual 262, 3) := by decide +kernel
theorem dX7_blind_30 : decode cX7_blind 30 = .ok (.bipush 10, 2) := by decide +kernel
theorem dX7_blind_32 : decode cX7_blind 32 = .ok (.iload_n 2, 1) := by decide +kernel
theorem dX7_blind_33 : decode cX7_blind 33 = .ok (.invokestatic 250, 3) := by decide +kernel
theorem dX7_blind_36 : decode cX7_blind 36 = .ok (.iload 4, 2) := by decide +kernel
theorem dX7_blind_38 : decode cX7_blind 38 = .ok (.invokestatic 254, 3) := by decide +kernel
theorem dX7_blind_41 : decode cX7_blind 41 = .ok (.goto 6, 3) := by decide +kernel
theorem dX7_blind_44 : decode cX7_blind 44 = .ok (.ldc2_w 103, 3) := by decide +kernel
theorem dX7_blind_47 : decode cX7_blind 47 = .ok (.lreturn, 1) := by decide +kernel
theorem dX7_worth_0 : decode cX7_worth 0 = .ok (.aload_n 0, 1) := by decide +kernel
theorem dX7_worth_1 : decode cX7_worth 1 = .ok (.iload_n 1, 1) := by decide +kernel
theorem dX7_worth_2 : decode cX7_worth 2 = .ok (.invokevirtual 186, 3) := by decide +kernel
theorem dX7_worth_5 : decode cX7_worth 5 = .ok (.ifCond .ne 7, 3) := by decide +kernel
theorem dX7_worth_8 : decode cX7_worth 8 = .ok (.ldc2_w 89, 3) := by decide +kernel
theorem dX7_worth_11 : decode cX7_worth 11 = .ok (.lreturn, 1) := by decide +kernel
theorem dX7_worth_12 : decode cX7_worth 12 = .ok (.iload_n 2, 1) := by decide +kernel
theorem dX7_worth_13 : decode cX7_worth 13 = .ok (.iconst 4, 1) := by decide +kernel
theorem dX7_worth_14 : decode cX7_worth 14 = .ok (.iload_n 3, 1) := by decide +kernel
theorem dX7_worth_15 : decode cX7_worth 15 = .ok (.iload 4, 2) := by decide +kernel
theorem dX7_worth_17 : decode cX7_worth 17 = .ok (.invokestatic 243, 3) := by decide +kernel
theorem dX7_worth_20 : decode cX7_worth 20 = .ok (.ifCond .eq 32, 3) := by decide +kernel
theorem dX7_worth_23 : decode cX7_worth 23 = .ok (.aload_n 0, 1) := by decide +kernel
theorem dX7_worth_24 : decode cX7_worth 24 = .ok (.iload_n 1, 1) := by decide +kernel
theorem dX7_worth_25 : decode cX7_worth 25 = .ok (.iload_n 2, 1) := by decide +kernel
theorem dX7_worth_26 : decode cX7_worth 26 = .ok (.iload_n 3, 1) := by decide +kernel
theorem dX7_worth_27 : decode cX7_worth 27 = .ok (.invokevirtual 258, 3) := by decide +kernel
theorem dX7_worth_30 : decode cX7_worth 30 = .ok (.aload_n 0, 1) := by decide +kernel
theorem dX7_worth_31 : decode cX7_worth 31 = .ok (.iload_n 1, 1) := by decide +kernel
theorem dX7_worth_32 : decode cX7_worth 32 = .ok (.iload_n 2, 1) := by decide +kernel
theorem dX7_worth_33 : decode cX7_worth 33 = .ok (.iload_n 3, 1) := by decide +kernel
theorem dX7_worth_34 : decode cX7_worth 34 = .ok (.invokevirtual 262, 3) := by decide +kernel
theorem dX7_worth_37 : decode cX7_worth 37 = .ok (.lsub, 1) := by decide +kernel
theorem dX7_worth_38 : decode cX7_worth 38 = .ok (.bipush 10, 2) := by decide +kernel
theorem dX7_worth_40 : decode cX7_worth 40 = .ok (.iload_n 2, 1) := by decide +kernel
theorem dX7_worth_41 : decode cX7_worth 41 = .ok (.invokestatic 250, 3) := by decide +kernel
theorem dX7_worth_44 : decode cX7_worth 44 = .ok (.iload 4, 2) := by decide +kernel
theorem dX7_worth_46 : decode cX7_worth 46 = .ok (.invokestatic 254, 3) := by decide +kernel
theorem dX7_worth_49 : decode cX7_worth 49 = .ok (.goto 6, 3) := by decide +kernel
theorem dX7_worth_52 : decode cX7_worth 52 = .ok (.ldc2_w 103, 3) := by decide +kernel
theorem dX7_worth_55 : decode cX7_worth 55 = .ok (.lreturn, 1) := by decide +kernel
theorem dX7_firstOf_0 : decode cX7_firstOf 0 = .ok (.aload_n 0, 1) := by decide +kernel
theorem dX7_firstOf_1 : decode cX7_firstOf 1 = .ok (.iload_n 1, 1) := by decide +kernel
theorem dX7_firstOf_2 : decode cX7_firstOf 2 = .ok (.iconst 0, 1) := by decide +kernel
theorem dX7_firstOf_3 : decode cX7_firstOf 3 = .ok (.invokevirtual 236, 3) := by decide +kernel
theorem dX7_firstOf_6 : decode cX7_firstOf 6 = .ok (.ifCond .ne 5, 3) := by decide +kernel
theorem dX7_firstOf_9 : decode cX7_firstOf 9 = .ok (.iconst (-1), 1) := by decide +kernel
theorem dX7_firstOf_10 : decode cX7_firstOf 10 = .ok (.ireturn, 1) := by decide +kernel
theorem dX7_firstOf_11 : decode cX7_firstOf 11 = .ok (.iconst 0, 1) := by decide +kernel
theorem dX7_firstOf_12 : decode cX7_firstOf 12 = .ok (.istore 4, 2) := by decide +kernel
theorem dX7_firstOf_14 : decode cX7_firstOf 14 = .ok (.iload 4, 2) := by decide +kernel
theorem dX7_firstOf_16 : decode cX7_firstOf 16 = .ok (.aload_n 0, 1) := by decide +kernel
theorem dX7_firstOf_17 : decode cX7_firstOf 17 = .ok (.getfield 224, 3) := by decide +kernel
theorem dX7_firstOf_20 : decode cX7_firstOf 20 = .ok (.if_icmp .ge 50, 3) := by decide +kernel
theorem dX7_firstOf_23 : decode cX7_firstOf 23 = .ok (.aload_n 0, 1) := by decide +kernel
theorem dX7_firstOf_24 : decode cX7_firstOf 24 = .ok (.getfield 45, 3) := by decide +kernel
theorem dX7_firstOf_27 : decode cX7_firstOf 27 = .ok (.iload 4, 2) := by decide +kernel
theorem dX7_firstOf_29 : decode cX7_firstOf 29 = .ok (.iaload, 1) := by decide +kernel
theorem dX7_firstOf_30 : decode cX7_firstOf 30 = .ok (.sipush 160, 3) := by decide +kernel
theorem dX7_firstOf_33 : decode cX7_firstOf 33 = .ok (.if_icmp .eq 31, 3) := by decide +kernel
theorem dX7_firstOf_36 : decode cX7_firstOf 36 = .ok (.aload_n 0, 1) := by decide +kernel
theorem dX7_firstOf_37 : decode cX7_firstOf 37 = .ok (.getfield 45, 3) := by decide +kernel
theorem dX7_firstOf_40 : decode cX7_firstOf 40 = .ok (.iload 4, 2) := by decide +kernel
theorem dX7_firstOf_42 : decode cX7_firstOf 42 = .ok (.iaload, 1) := by decide +kernel
theorem dX7_firstOf_43 : decode cX7_firstOf 43 = .ok (.bipush 20, 2) := by decide +kernel
theorem dX7_firstOf_45 : decode cX7_firstOf 45 = .ok (.idiv, 1) := by decide +kernel
theorem dX7_firstOf_46 : decode cX7_firstOf 46 = .ok (.iload_n 2, 1) := by decide +kernel
theorem dX7_firstOf_47 : decode cX7_firstOf 47 = .ok (.if_icmp .ne 17, 3) := by decide +kernel
theorem dX7_firstOf_50 : decode cX7_firstOf 50 = .ok (.aload_n 0, 1) := by decide +kernel
theorem dX7_firstOf_51 : decode cX7_firstOf 51 = .ok (.getfield 42, 3) := by decide +kernel
theorem dX7_firstOf_54 : decode cX7_firstOf 54 = .ok (.iload 4, 2) := by decide +kernel
theorem dX7_firstOf_56 : decode cX7_firstOf 56 = .ok (.iaload, 1) := by decide +kernel
theorem dX7_firstOf_57 : decode cX7_firstOf 57 = .ok (.iload_n 3, 1) := by decide +kernel
theorem dX7_firstOf_58 : decode cX7_firstOf 58 = .ok (.if_icmp .ne 6, 3) := by decide +kernel
theorem dX7_firstOf_61 : decode cX7_firstOf 61 = .ok (.iload 4, 2) := by decide +kernel
theorem dX7_firstOf_63 : decode cX7_firstOf 63 = .ok (.ireturn, 1) := by decide +kernel
theorem dX7_firstOf_64 : decode cX7_firstOf 64 = .ok (.iinc 4 1, 3) := by decide +kernel
theorem dX7_firstOf_67 : decode cX7_firstOf 67 = .ok (.goto (-53), 3) := by decide +kernel
theorem dX7_firstOf_70 : decode cX7_firstOf 70 = .ok (.iconst (-1), 1) := by decide +kernel
theorem dX7_firstOf_71 : decode cX7_firstOf 71 = .ok (.ireturn, 1) := by decide +kernel
theorem dX7_found_0 : decode cX7_found 0 = .ok (.aload_n 0, 1) := by decide +kernel
theorem dX7_found_1 : decode cX7_found 1 = .ok (.iload_n 1, 1) := by decide +kernel
theorem dX7_found_2 : decode cX7_found 2 = .ok (.invokevirtual 177, 3) := by decide +kernel
theorem dX7_found_5 : decode cX7_found 5 = .ok (.ifCond .eq 10, 3) := by decide +kernel
theorem dX7_found_8 : decode cX7_found 8 = .ok (.iload_n 2, 1) := by decide +kernel
theorem dX7_found_9 : decode cX7_found 9 = .ok (.invokestatic 180, 3) := by decide +kernel
theorem dX7_found_12 : decode cX7_found 12 = .ok (.ifCond .ne 6, 3) := by decide +kernel
theorem dX7_found_15 : decode cX7_found 15 = .ok (.bipush (-2), 2) := by decide +kernel
theorem dX7_found_17 : decode cX7_found 17 = .ok (.ireturn, 1) := by decide +kernel
theorem dX7_found_18 : decode cX7_found 18 = .ok (.iconst 0, 1) := by decide +kernel
theorem dX7_found_19 : decode cX7_found 19 = .ok (.istore_n 3, 1) := by decide +kernel
theorem dX7_found_20 : decode cX7_found 20 = .ok (.iconst 0, 1) := by decide +kernel
theorem dX7_found_21 : decode cX7_found 21 = .ok (.istore 4, 2) := by decide +kernel
theorem dX7_found_23 : decode cX7_found 23 = .ok (.iload 4, 2) := by decide +kernel
theorem dX7_found_25 : decode cX7_found 25 = .ok (.iconst 4, 1) := by decide +kernel
theorem dX7_found_26 : decode cX7_found 26 = .ok (.if_icmp .ge 44, 3) := by decide +kernel
theorem dX7_found_29 : decode cX7_found 29 = .ok (.iload_n 3, 1) := by decide +kernel
theorem dX7_found_30 : decode cX7_found 30 = .ok (.aload_n 0, 1) := by decide +kernel
theorem dX7_found_31 : decode cX7_found 31 = .ok (.getfield 65, 3) := by decide +kernel
theorem dX7_found_34 : decode cX7_found 34 = .ok (.iload 4, 2) := by decide +kernel
theorem dX7_found_36 : decode cX7_found 36 = .ok (.invokestatic 68, 3) := by decide +kernel
theorem dX7_found_39 : decode cX7_found 39 = .ok (.ifCond .eq 22, 3) := by decide +kernel
theorem dX7_found_42 : decode cX7_found 42 = .ok (.aload_n 0, 1) := by decide +kernel
theorem dX7_found_43 : decode cX7_found 43 = .ok (.iload 4, 2) := by decide +kernel
theorem dX7_found_45 : decode cX7_found 45 = .ok (.iload_n 1, 1) := by decide +kernel
theorem dX7_found_46 : decode cX7_found 46 = .ok (.iload_n 2, 1) := by decide +kernel
theorem dX7_found_47 : decode cX7_found 47 = .ok (.invokevirtual 265, 3) := by decide +kernel
theorem dX7_found_50 : decode cX7_found 50 = .ok (.iconst (-1), 1) := by decide +kernel
theorem dX7_found_51 : decode cX7_found 51 = .ok (.if_icmp .eq 10, 3) := by decide +kernel
theorem dX7_found_54 : decode cX7_found 54 = .ok (.iconst 1, 1) := by decide +kernel
theorem dX7_found_55 : decode cX7_found 55 = .ok (.iload 4, 2) := by decide +kernel
theorem dX7_found_57 : decode cX7_found 57 = .ok (.ishl, 1) := by decide +kernel
theorem dX7_found_58 : decode cX7_found 58 = .ok (.goto 4, 3) := by decide +kernel
theorem dX7_found_61 : decode cX7_found 61 = .ok (.iconst 0, 1) := by decide +kernel
theorem dX7_found_62 : decode cX7_found 62 = .ok (.ior, 1) := by decide +kernel
theorem dX7_found_63 : decode cX7_found 63 = .ok (.istore_n 3, 1) := by decide +kernel
theorem dX7_found_64 : decode cX7_found 64 = .ok (.iinc 4 1, 3) := by decide +kernel
theorem dX7_found_67 : decode cX7_found 67 = .ok (.goto (-44), 3) := by decide +kernel
theorem dX7_found_70 : decode cX7_found 70 = .ok (.iload_n 3, 1) := by decide +kernel
theorem dX7_found_71 : decode cX7_found 71 = .ok (.ireturn, 1) := by decide +kernel
theorem dX7_first_0 : decode cX7_first 0 = .ok (.aload_n 0, 1) := by decide +kernel
theorem dX7_first_1 : decode cX7_first 1 = .ok (.iload_n 1, 1) := by decide +kernel
theorem dX7_first_2 : decode cX7_first 2 = .ok (.invokevirtual 186, 3) := by decide +kernel
theorem dX7_first_5 : decode cX7_first 5 = .ok (.ifCond .eq 28, 3) := by decide +kernel
theorem dX7_first_8 : decode cX7_first 8 = .ok (.aload_n 0, 1) := by decide +kernel
theorem dX7_first_9 : decode cX7_first 9 = .ok (.iload_n 2, 1) := by decide +kernel
theorem dX7_first_10 : decode cX7_first 10 = .ok (.invokevirtual 177, 3) := by decide +kernel
theorem dX7_first_13 : decode cX7_first 13 = .ok (.ifCond .eq 20, 3) := by decide +kernel
theorem dX7_first_16 : decode cX7_first 16 = .ok (.iload_n 3, 1) := by decide +kernel
theorem dX7_first_17 : decode cX7_first 17 = .ok (.invokestatic 180, 3) := by decide +kernel
theorem dX7_first_20 : decode cX7_first 20 = .ok (.ifCond .eq 13, 3) := by decide +kernel
theorem dX7_first_23 : decode cX7_first 23 = .ok (.aload_n 0, 1) := by decide +kernel
theorem dX7_first_24 : decode cX7_first 24 = .ok (.iload_n 1, 1) := by decide +kernel
theorem dX7_first_25 : decode cX7_first 25 = .ok (.iload_n 2, 1) := by decide +kernel
theorem dX7_first_26 : decode cX7_first 26 = .ok (.iload_n 3, 1) := by decide +kernel
theorem dX7_first_27 : decode cX7_first 27 = .ok (.invokevirtual 265, 3) := by decide +kernel
theorem dX7_first_30 : decode cX7_first 30 = .ok (.goto 5, 3) := by decide +kernel
theorem dX7_first_33 : decode cX7_first 33 = .ok (.bipush (-2), 2) := by decide +kernel
theorem dX7_first_35 : decode cX7_first 35 = .ok (.ireturn, 1) := by decide +kernel
theorem dX7_books_0 : decode cX7_books 0 = .ok (.aload_n 0, 1) := by decide +kernel
theorem dX7_books_1 : decode cX7_books 1 = .ok (.iload_n 1, 1) := by decide +kernel
theorem dX7_books_2 : decode cX7_books 2 = .ok (.invokevirtual 186, 3) := by decide +kernel
theorem dX7_books_5 : decode cX7_books 5 = .ok (.ifCond .ne 6, 3) := by decide +kernel
theorem dX7_books_8 : decode cX7_books 8 = .ok (.bipush (-2), 2) := by decide +kernel
theorem dX7_books_10 : decode cX7_books 10 = .ok (.ireturn, 1) := by decide +kernel
theorem dX7_books_11 : decode cX7_books 11 = .ok (.iload_n 2, 1) := by decide +kernel
theorem dX7_books_12 : decode cX7_books 12 = .ok (.iconst 0, 1) := by decide +kernel
theorem dX7_books_13 : decode cX7_books 13 = .ok (.iconst 1, 1) := by decide +kernel
theorem dX7_books_14 : decode cX7_books 14 = .ok (.invokestatic 61, 3) := by decide +kernel
theorem dX7_books_17 : decode cX7_books 17 = .ok (.ifCond .ne 6, 3) := by decide +kernel
theorem dX7_books_20 : decode cX7_books 20 = .ok (.bipush (-3), 2) := by decide +kernel
theorem dX7_books_22 : decode cX7_books 22 = .ok (.ireturn, 1) := by decide +kernel
theorem dX7_books_23 : decode cX7_books 23 = .ok (.aload_n 0, 1) := by decide +kernel
theorem dX7_books_24 : decode cX7_books 24 = .ok (.getfield 160, 3) := by decide +kernel
theorem dX7_books_27 : decode cX7_books 27 = .ok (.ifCond .ne 6, 3) := by decide +kernel
theorem dX7_books_30 : decode cX7_books 30 = .ok (.bipush (-4), 2) := by decide +kernel
theorem dX7_books_32 : decode cX7_books 32 = .ok (.ireturn, 1) := by decide +kernel
theorem dX7_books_33 : decode cX7_books 33 = .ok (.iconst 0, 1) := by decide +kernel
theorem dX7_books_34 : decode cX7_books 34 = .ok (.istore_n 3, 1) := by decide +kernel
theorem dX7_books_35 : decode cX7_books 35 = .ok (.iconst 0, 1) := by decide +kernel
theorem dX7_books_36 : decode cX7_books 36 = .ok (.istore 4, 2) := by decide +kernel
theorem dX7_books_38 : decode cX7_books 38 = .ok (.iload 4, 2) := by decide +kernel
theorem dX7_books_40 : decode cX7_books 40 = .ok (.bipush 24, 2) := by decide +kernel
theorem dX7_books_42 : decode cX7_books 42 = .ok (.if_icmp .ge 28, 3) := by decide +kernel
theorem dX7_books_45 : decode cX7_books 45 = .ok (.aload_n 0, 1) := by decide +kernel
theorem dX7_books_46 : decode cX7_books 46 = .ok (.iload_n 1, 1) := by decide +kernel
theorem dX7_books_47 : decode cX7_books 47 = .ok (.iload 4, 2) := by decide +kernel
theorem dX7_books_49 : decode cX7_books 49 = .ok (.invokevirtual 236, 3) := by decide +kernel
theorem dX7_books_52 : decode cX7_books 52 = .ok (.ifCond .eq 18, 3) := by decide +kernel
theorem dX7_books_55 : decode cX7_books 55 = .ok (.iload 4, 2) := by decide +kernel
theorem dX7_books_57 : decode cX7_books 57 = .ok (.aload_n 0, 1) := by decide +kernel
theorem dX7_books_58 : decode cX7_books 58 = .ok (.getfield 224, 3) := by decide +kernel
theorem dX7_books_61 : decode cX7_books 61 = .ok (.iadd, 1) := by decide +kernel
theorem dX7_books_62 : decode cX7_books 62 = .ok (.istore 4, 2) := by decide +kernel
theorem dX7_books_64 : decode cX7_books 64 = .ok (.iinc 3 1, 3) := by decide +kernel
theorem dX7_books_67 : decode cX7_books 67 = .ok (.goto (-29), 3) := by decide +kernel
theorem dX7_books_70 : decode cX7_books 70 = .ok (.iload_n 2, 1) := by decide +kernel
theorem dX7_books_71 : decode cX7_books 71 = .ok (.ifCond .ne 7, 3) := by decide +kernel
theorem dX7_books_74 : decode cX7_books 74 = .ok (.iload_n 3, 1) := by decide +kernel
theorem dX7_books_75 : decode cX7_books 75 = .ok (.goto 15, 3) := by decide +kernel
theorem dX7_books_78 : decode cX7_books 78 = .ok (.iload_n 3, 1) := by decide +kernel
theorem dX7_books_79 : decode cX7_books 79 = .ok (.aload_n 0, 1) := by decide +kernel
theorem dX7_books_80 : decode cX7_books 80 = .ok (.getfield 20, 3) := by decide +kernel
theorem dX7_books_83 : decode cX7_books 83 = .ok (.iconst 4, 1) := by decide +kernel
theorem dX7_books_84 : decode cX7_books 84 = .ok (.iload_n 1, 1) := by decide +kernel
theorem dX7_books_85 : decode cX7_books 85 = .ok (.imul, 1) := by decide +kernel
theorem dX7_books_86 : decode cX7_books 86 = .ok (.iconst 3, 1) := by decide +kernel
theorem dX7_books_87 : decode cX7_books 87 = .ok (.iadd, 1) := by decide +kernel
theorem dX7_books_88 : decode cX7_books 88 = .ok (.iaload, 1) := by decide +kernel
theorem dX7_books_89 : decode cX7_books 89 = .ok (.imul, 1) := by decide +kernel
theorem dX7_books_90 : decode cX7_books 90 = .ok (.ireturn, 1) := by decide +kernel
theorem dX7_count_0 : decode cX7_count 0 = .ok (.iconst 0, 1) := by decide +kernel
theorem dX7_count_1 : decode cX7_count 1 = .ok (.istore_n 2, 1) := by decide +kernel
theorem dX7_count_2 : decode cX7_count 2 = .ok (.iconst 0, 1) := by decide +kernel
theorem dX7_count_3 : decode cX7_count 3 = .ok (.istore_n 3, 1) := by decide +kernel
theorem dX7_count_4 : decode cX7_count 4 = .ok (.iload_n 3, 1) := by decide +kernel
theorem dX7_count_5 : decode cX7_count 5 = .ok (.aload_n 0, 1) := by decide +kernel
theorem dX7_count_6 : decode cX7_count 6 = .ok (.getfield 160, 3) := by decide +kernel
theorem dX7_count_9 : decode cX7_count 9 = .ok (.if_icmp .ge 22, 3) := by decide +kernel
theorem dX7_count_12 : decode cX7_count 12 = .ok (.iload_n 2, 1) := by decide +kernel
theorem dX7_count_13 : decode cX7_count 13 = .ok (.aload_n 0, 1) := by decide +kernel
theorem dX7_count_14 : decode cX7_count 14 = .ok (.getfield 7, 3) := by decide +kernel
theorem dX7_count_17 : decode cX7_count 17 = .ok (.iconst 3, 1) := by decide +kernel
theorem dX7_count_18 : decode cX7_count 18 = .ok (.iload_n 3, 1) := by decide +kernel
theorem dX7_count_19 : decode cX7_count 19 = .ok (.imul, 1) := by decide +kernel
theorem dX7_count_20 : decode cX7_count 20 = .ok (.iconst 1, 1) := by decide +kernel
theorem dX7_count_21 : decode cX7_count 21 = .ok (.iadd, 1) := by decide +kernel
theorem dX7_count_22 : decode cX7_count 22 = .ok (.iaload, 1) := by decide +kernel
theorem dX7_count_23 : decode cX7_count 23 = .ok (.iadd, 1) := by decide +kernel
theorem dX7_count_24 : decode cX7_count 24 = .ok (.istore_n 2, 1) := by decide +kernel
theorem dX7_count_25 : decode cX7_count 25 = .ok (.iinc 3 1, 3) := by decide +kernel
theorem dX7_count_28 : decode cX7_count 28 = .ok (.goto (-24), 3) := by decide +kernel
theorem dX7_count_31 : decode cX7_count 31 = .ok (.iload_n 1, 1) := by decide +kernel
theorem dX7_count_32 : decode cX7_count 32 = .ok (.tableswitch 70 0 5 #[40, 45, 50, 55, 63, 68], 40) := by decide +kernel
theorem dX7_count_72 : decode cX7_count 72 = .ok (.aload_n 0, 1) := by decide +kernel
theorem dX7_count_73 : decode cX7_count 73 = .ok (.getfield 160, 3) := by decide +kernel
theorem dX7_count_76 : decode cX7_count 76 = .ok (.ireturn, 1) := by decide +kernel
theorem dX7_count_77 : decode cX7_count 77 = .ok (.aload_n 0, 1) := by decide +kernel
theorem dX7_count_78 : decode cX7_count 78 = .ok (.getfield 65, 3) := by decide +kernel
theorem dX7_count_81 : decode cX7_count 81 = .ok (.ireturn, 1) := by decide +kernel
theorem dX7_count_82 : decode cX7_count 82 = .ok (.aload_n 0, 1) := by decide +kernel
theorem dX7_count_83 : decode cX7_count 83 = .ok (.getfield 16, 3) := by decide +kernel
theorem dX7_count_86 : decode cX7_count 86 = .ok (.ireturn, 1) := by decide +kernel
theorem dX7_count_87 : decode cX7_count 87 = .ok (.aload_n 0, 1) := by decide +kernel
theorem dX7_count_88 : decode cX7_count 88 = .ok (.getfield 29, 3) := by decide +kernel
theorem dX7_count_91 : decode cX7_count 91 = .ok (.bipush 20, 2) := by decide +kernel
theorem dX7_count_93 : decode cX7_count 93 = .ok (.iaload, 1) := by decide +kernel
theorem dX7_count_94 : decode cX7_count 94 = .ok (.ireturn, 1) := by decide +kernel
theorem dX7_count_95 : decode cX7_count 95 = .ok (.aload_n 0, 1) := by decide +kernel
theorem dX7_count_96 : decode cX7_count 96 = .ok (.getfield 72, 3) := by decide +kernel
theorem dX7_count_99 : decode cX7_count 99 = .ok (.ireturn, 1) := by decide +kernel
theorem dX7_count_100 : decode cX7_count 100 = .ok (.iload_n 2, 1) := by decide +kernel
theorem dX7_count_101 : decode cX7_count 101 = .ok (.ireturn, 1) := by decide +kernel
theorem dX7_count_102 : decode cX7_count 102 = .ok (.bipush (-3), 2) := by decide +kernel
theorem dX7_count_104 : decode cX7_count 104 = .ok (.ireturn, 1) := by decide +kernel
