theorem dX7_init_0 : decode cX7_init 0 = .ok (.aload_n 0, 1) := by decide +kernel
theorem dX7_init_1 : decode cX7_init 1 = .ok (.invokespecial 1, 3) := by decide +kernel
theorem dX7_init_4 : decode cX7_init 4 = .ok (.aload_n 0, 1) := by decide +kernel
theorem dX7_init_5 : decode cX7_init 5 = .ok (.bipush 24, 2) := by decide +kernel
theorem dX7_init_7 : decode cX7_init 7 = .ok (.newarray .int, 2) := by decide +kernel
theorem dX7_init_9 : decode cX7_init 9 = .ok (.putfield 7, 3) := by decide +kernel
theorem dX7_init_12 : decode cX7_init 12 = .ok (.aload_n 0, 1) := by decide +kernel
theorem dX7_init_13 : decode cX7_init 13 = .ok (.sipush 288, 3) := by decide +kernel
theorem dX7_init_16 : decode cX7_init 16 = .ok (.newarray .int, 2) := by decide +kernel
theorem dX7_init_18 : decode cX7_init 18 = .ok (.putfield 13, 3) := by decide +kernel
theorem dX7_init_21 : decode cX7_init 21 = .ok (.aload_n 0, 1) := by decide +kernel
theorem dX7_init_22 : decode cX7_init 22 = .ok (.iconst 2, 1) := by decide +kernel
theorem dX7_init_23 : decode cX7_init 23 = .ok (.putfield 16, 3) := by decide +kernel
theorem dX7_init_26 : decode cX7_init 26 = .ok (.aload_n 0, 1) := by decide +kernel
theorem dX7_init_27 : decode cX7_init 27 = .ok (.bipush 16, 2) := by decide +kernel
theorem dX7_init_29 : decode cX7_init 29 = .ok (.newarray .int, 2) := by decide +kernel
theorem dX7_init_31 : decode cX7_init 31 = .ok (.putfield 20, 3) := by decide +kernel
theorem dX7_init_34 : decode cX7_init 34 = .ok (.aload_n 0, 1) := by decide +kernel
theorem dX7_init_35 : decode cX7_init 35 = .ok (.sipush 200, 3) := by decide +kernel
theorem dX7_init_38 : decode cX7_init 38 = .ok (.newarray .int, 2) := by decide +kernel
theorem dX7_init_40 : decode cX7_init 40 = .ok (.putfield 23, 3) := by decide +kernel
theorem dX7_init_43 : decode cX7_init 43 = .ok (.aload_n 0, 1) := by decide +kernel
theorem dX7_init_44 : decode cX7_init 44 = .ok (.bipush 48, 2) := by decide +kernel
theorem dX7_init_46 : decode cX7_init 46 = .ok (.newarray .int, 2) := by decide +kernel
theorem dX7_init_48 : decode cX7_init 48 = .ok (.putfield 26, 3) := by decide +kernel
theorem dX7_init_51 : decode cX7_init 51 = .ok (.aload_n 0, 1) := by decide +kernel
theorem dX7_init_52 : decode cX7_init 52 = .ok (.bipush 21, 2) := by decide +kernel
theorem dX7_init_54 : decode cX7_init 54 = .ok (.newarray .int, 2) := by decide +kernel
theorem dX7_init_56 : decode cX7_init 56 = .ok (.putfield 29, 3) := by decide +kernel
theorem dX7_init_59 : decode cX7_init 59 = .ok (.aload_n 0, 1) := by decide +kernel
theorem dX7_init_60 : decode cX7_init 60 = .ok (.bipush 42, 2) := by decide +kernel
theorem dX7_init_62 : decode cX7_init 62 = .ok (.newarray .int, 2) := by decide +kernel
theorem dX7_init_64 : decode cX7_init 64 = .ok (.putfield 32, 3) := by decide +kernel
theorem dX7_init_67 : decode cX7_init 67 = .ok (.aload_n 0, 1) := by decide +kernel
theorem dX7_init_68 : decode cX7_init 68 = .ok (.iconst 2, 1) := by decide +kernel
theorem dX7_init_69 : decode cX7_init 69 = .ok (.newarray .boolean, 2) := by decide +kernel
theorem dX7_init_71 : decode cX7_init 71 = .ok (.putfield 35, 3) := by decide +kernel
theorem dX7_init_74 : decode cX7_init 74 = .ok (.aload_n 0, 1) := by decide +kernel
theorem dX7_init_75 : decode cX7_init 75 = .ok (.sipush 24150, 3) := by decide +kernel
theorem dX7_init_78 : decode cX7_init 78 = .ok (.newarray .int, 2) := by decide +kernel
theorem dX7_init_80 : decode cX7_init 80 = .ok (.putfield 39, 3) := by decide +kernel
theorem dX7_init_83 : decode cX7_init 83 = .ok (.aload_n 0, 1) := by decide +kernel
theorem dX7_init_84 : decode cX7_init 84 = .ok (.bipush 24, 2) := by decide +kernel
theorem dX7_init_86 : decode cX7_init 86 = .ok (.newarray .int, 2) := by decide +kernel
theorem dX7_init_88 : decode cX7_init 88 = .ok (.putfield 42, 3) := by decide +kernel
theorem dX7_init_91 : decode cX7_init 91 = .ok (.aload_n 0, 1) := by decide +kernel
theorem dX7_init_92 : decode cX7_init 92 = .ok (.bipush 24, 2) := by decide +kernel
theorem dX7_init_94 : decode cX7_init 94 = .ok (.newarray .int, 2) := by decide +kernel
theorem dX7_init_96 : decode cX7_init 96 = .ok (.putfield 45, 3) := by decide +kernel
theorem dX7_init_99 : decode cX7_init 99 = .ok (.aload_n 0, 1) := by decide +kernel
theorem dX7_init_100 : decode cX7_init 100 = .ok (.bipush 24, 2) := by decide +kernel
theorem dX7_init_102 : decode cX7_init 102 = .ok (.newarray .int, 2) := by decide +kernel
theorem dX7_init_104 : decode cX7_init 104 = .ok (.putfield 48, 3) := by decide +kernel
theorem dX7_init_107 : decode cX7_init 107 = .ok (.aload_n 0, 1) := by decide +kernel
theorem dX7_init_108 : decode cX7_init 108 = .ok (.bipush 24, 2) := by decide +kernel
theorem dX7_init_110 : decode cX7_init 110 = .ok (.newarray .int, 2) := by decide +kernel
theorem dX7_init_112 : decode cX7_init 112 = .ok (.putfield 51, 3) := by decide +kernel
theorem dX7_init_115 : decode cX7_init 115 = .ok (.aload_n 0, 1) := by decide +kernel
theorem dX7_init_116 : decode cX7_init 116 = .ok (.sipush 8694, 3) := by decide +kernel
theorem dX7_init_119 : decode cX7_init 119 = .ok (.newarray .long, 2) := by decide +kernel
theorem dX7_init_121 : decode cX7_init 121 = .ok (.putfield 54, 3) := by decide +kernel
theorem dX7_init_124 : decode cX7_init 124 = .ok (.aload_n 0, 1) := by decide +kernel
theorem dX7_init_125 : decode cX7_init 125 = .ok (.invokevirtual 58, 3) := by decide +kernel
theorem dX7_init_128 : decode cX7_init 128 = .ok (.return_, 1) := by decide +kernel
theorem dX7_in_0 : decode cX7_in 0 = .ok (.iload_n 0, 1) := by decide +kernel
theorem dX7_in_1 : decode cX7_in 1 = .ok (.iload_n 1, 1) := by decide +kernel
theorem dX7_in_2 : decode cX7_in 2 = .ok (.if_icmp .lt 12, 3) := by decide +kernel
theorem dX7_in_5 : decode cX7_in 5 = .ok (.iload_n 0, 1) := by decide +kernel
theorem dX7_in_6 : decode cX7_in 6 = .ok (.iload_n 2, 1) := by decide +kernel
theorem dX7_in_7 : decode cX7_in 7 = .ok (.if_icmp .gt 7, 3) := by decide +kernel
theorem dX7_in_10 : decode cX7_in 10 = .ok (.iconst 1, 1) := by decide +kernel
theorem dX7_in_11 : decode cX7_in 11 = .ok (.goto 4, 3) := by decide +kernel
theorem dX7_in_14 : decode cX7_in 14 = .ok (.iconst 0, 1) := by decide +kernel
theorem dX7_in_15 : decode cX7_in 15 = .ok (.ireturn, 1) := by decide +kernel
theorem dX7_has_0 : decode cX7_has 0 = .ok (.iload_n 0, 1) := by decide +kernel
theorem dX7_has_1 : decode cX7_has 1 = .ok (.iload_n 1, 1) := by decide +kernel
theorem dX7_has_2 : decode cX7_has 2 = .ok (.ishr, 1) := by decide +kernel
theorem dX7_has_3 : decode cX7_has 3 = .ok (.iconst 1, 1) := by decide +kernel
theorem dX7_has_4 : decode cX7_has 4 = .ok (.iand, 1) := by decide +kernel
theorem dX7_has_5 : decode cX7_has 5 = .ok (.iconst 1, 1) := by decide +kernel
theorem dX7_has_6 : decode cX7_has 6 = .ok (.if_icmp .ne 7, 3) := by decide +kernel
theorem dX7_has_9 : decode cX7_has 9 = .ok (.iconst 1, 1) := by decide +kernel
theorem dX7_has_10 : decode cX7_has 10 = .ok (.goto 4, 3) := by decide +kernel
theorem dX7_has_13 : decode cX7_has 13 = .ok (.iconst 0, 1) := by decide +kernel
theorem dX7_has_14 : decode cX7_has 14 = .ok (.ireturn, 1) := by decide +kernel
theorem dX7_off_0 : decode cX7_off 0 = .ok (.iload_n 0, 1) := by decide +kernel
theorem dX7_off_1 : decode cX7_off 1 = .ok (.iload_n 1, 1) := by decide +kernel
theorem dX7_off_2 : decode cX7_off 2 = .ok (.if_icmp .le 9, 3) := by decide +kernel
theorem dX7_off_5 : decode cX7_off 5 = .ok (.iload_n 0, 1) := by decide +kernel
theorem dX7_off_6 : decode cX7_off 6 = .ok (.iload_n 1, 1) := by decide +kernel
theorem dX7_off_7 : decode cX7_off 7 = .ok (.isub, 1) := by decide +kernel
theorem dX7_off_8 : decode cX7_off 8 = .ok (.goto 6, 3) := by decide +kernel
theorem dX7_off_11 : decode cX7_off 11 = .ok (.iload_n 1, 1) := by decide +kernel
theorem dX7_off_12 : decode cX7_off 12 = .ok (.iload_n 0, 1) := by decide +kernel
theorem dX7_off_13 : decode cX7_off 13 = .ok (.isub, 1) := by decide +kernel
theorem dX7_off_14 : decode cX7_off 14 = .ok (.ireturn, 1) := by decide +kernel
theorem dX7_isBarge_0 : decode cX7_isBarge 0 = .ok (.iload_n 1, 1) := by decide +kernel
theorem dX7_isBarge_1 : decode cX7_isBarge 1 = .ok (.iconst 0, 1) := by decide +kernel
theorem dX7_isBarge_2 : decode cX7_isBarge 2 = .ok (.iconst 3, 1) := by decide +kernel
theorem dX7_isBarge_3 : decode cX7_isBarge 3 = .ok (.invokestatic 61, 3) := by decide +kernel
theorem dX7_isBarge_6 : decode cX7_isBarge 6 = .ok (.ifCond .eq 18, 3) := by decide +kernel
theorem dX7_isBarge_9 : decode cX7_isBarge 9 = .ok (.aload_n 0, 1) := by decide +kernel
theorem dX7_isBarge_10 : decode cX7_isBarge 10 = .ok (.getfield 65, 3) := by decide +kernel
theorem dX7_isBarge_13 : decode cX7_isBarge 13 = .ok (.iload_n 1, 1) := by decide +kernel
theorem dX7_isBarge_14 : decode cX7_isBarge 14 = .ok (.invokestatic 68, 3) := by decide +kernel
theorem dX7_isBarge_17 : decode cX7_isBarge 17 = .ok (.ifCond .eq 7, 3) := by decide +kernel
theorem dX7_isBarge_20 : decode cX7_isBarge 20 = .ok (.iconst 1, 1) := by decide +kernel
theorem dX7_isBarge_21 : decode cX7_isBarge 21 = .ok (.goto 4, 3) := by decide +kernel
theorem dX7_isBarge_24 : decode cX7_isBarge 24 = .ok (.iconst 0, 1) := by decide +kernel
theorem dX7_isBarge_25 : decode cX7_isBarge 25 = .ok (.ireturn, 1) := by decide +kernel
theorem dX7_write_0 : decode cX7_write 0 = .ok (.iload_n 3, 1) := by decide +kernel
theorem dX7_write_1 : decode cX7_write 1 = .ok (.iconst 1, 1) := by decide +kernel
theorem dX7_write_2 : decode cX7_write 2 = .ok (.bipush 8, 2) := by decide +kernel
theorem dX7_write_4 : decode cX7_write 4 = .ok (.invokestatic 61, 3) := by decide +kernel
theorem dX7_write_7 : decode cX7_write 7 = .ok (.ifCond .ne 6, 3) := by decide +kernel
theorem dX7_write_10 : decode cX7_write 10 = .ok (.bipush (-3), 2) := by decide +kernel
theorem dX7_write_12 : decode cX7_write 12 = .ok (.ireturn, 1) := by decide +kernel
theorem dX7_write_13 : decode cX7_write 13 = .ok (.aload_n 0, 1) := by decide +kernel
theorem dX7_write_14 : decode cX7_write 14 = .ok (.getfield 72, 3) := by decide +kernel
theorem dX7_write_17 : decode cX7_write 17 = .ok (.iload_n 3, 1) := by decide +kernel
theorem dX7_write_18 : decode cX7_write 18 = .ok (.iadd, 1) := by decide +kernel
theorem dX7_write_19 : decode cX7_write 19 = .ok (.sipush 200, 3) := by decide +kernel
theorem dX7_write_22 : decode cX7_write 22 = .ok (.if_icmp .le 6, 3) := by decide +kernel
theorem dX7_write_25 : decode cX7_write 25 = .ok (.bipush (-5), 2) := by decide +kernel
theorem dX7_write_27 : decode cX7_write 27 = .ok (.ireturn, 1) := by decide +kernel
theorem dX7_write_28 : decode cX7_write 28 = .ok (.iconst 0, 1) := by decide +kernel
theorem dX7_write_29 : decode cX7_write 29 = .ok (.istore 4, 2) := by decide +kernel
theorem dX7_write_31 : decode cX7_write 31 = .ok (.iload 4, 2) := by decide +kernel
theorem dX7_write_33 : decode cX7_write 33 = .ok (.iload_n 3, 1) := by decide +kernel
theorem dX7_write_34 : decode cX7_write 34 = .ok (.if_icmp .ge 33, 3) := by decide +kernel
theorem dX7_write_37 : decode cX7_write 37 = .ok (.aload_n 0, 1) := by decide +kernel
theorem dX7_write_38 : decode cX7_write 38 = .ok (.getfield 23, 3) := by decide +kernel
theorem dX7_write_41 : decode cX7_write 41 = .ok (.aload_n 0, 1) := by decide +kernel
theorem dX7_write_42 : decode cX7_write 42 = .ok (.getfield 72, 3) := by decide +kernel
theorem dX7_write_45 : decode cX7_write 45 = .ok (.iload 4, 2) := by decide +kernel
theorem dX7_write_47 : decode cX7_write 47 = .ok (.iadd, 1) := by decide +kernel
theorem dX7_write_48 : decode cX7_write 48 = .ok (.lload_n 1, 1) := by decide +kernel
theorem dX7_write_49 : decode cX7_write 49 = .ok (.bipush 8, 2) := by decide +kernel
theorem dX7_write_51 : decode cX7_write 51 = .ok (.iload 4, 2) := by decide +kernel
theorem dX7_write_53 : decode cX7_write 53 = .ok (.imul, 1) := by decide +kernel
theorem dX7_write_54 : decode cX7_write 54 = .ok (.lshr, 1) := by decide +kernel
theorem dX7_write_55 : decode cX7_write 55 = .ok (.ldc2_w 75, 3) := by decide +kernel
theorem dX7_write_58 : decode cX7_write 58 = .ok (.land, 1) := by decide +kernel
theorem dX7_write_59 : decode cX7_write 59 = .ok (.l2i, 1) := by decide +kernel
theorem dX7_write_60 : decode cX7_write 60 = .ok (.iastore, 1) := by decide +kernel
theorem dX7_write_61 : decode cX7_write 61 = .ok (.iinc 4 1, 3) := by decide +kernel
theorem dX7_write_64 : decode cX7_write 64 = .ok (.goto (-33), 3) := by decide +kernel
theorem dX7_write_67 : decode cX7_write 67 = .ok (.aload_n 0, 1) := by decide +kernel
theorem dX7_write_68 : decode cX7_write 68 = .ok (.dup, 1) := by decide +kernel
theorem dX7_write_69 : decode cX7_write 69 = .ok (.getfield 72, 3) := by decide +kernel
theorem dX7_write_72 : decode cX7_write 72 = .ok (.iload_n 3, 1) := by decide +kernel
theorem dX7_write_73 : decode cX7_write 73 = .ok (.iadd, 1) := by decide +kernel
theorem dX7_write_74 : decode cX7_write 74 = .ok (.putfield 72, 3) := by decide +kernel
theorem dX7_write_77 : decode cX7_write 77 = .ok (.aload_n 0, 1) := by decide +kernel
theorem dX7_write_78 : decode cX7_write 78 = .ok (.getfield 72, 3) := by decide +kernel
theorem dX7_write_81 : decode cX7_write 81 = .ok (.ireturn, 1) := by decide +kernel
theorem dX7_erase_0 : decode cX7_erase 0 = .ok (.aload_n 0, 1) := by decide +kernel
theorem dX7_erase_1 : decode cX7_erase 1 = .ok (.getfield 72, 3) := by decide +kernel
theorem dX7_erase_4 : decode cX7_erase 4 = .ok (.istore_n 1, 1) := by decide +kernel
theorem dX7_erase_5 : decode cX7_erase 5 = .ok (.aload_n 0, 1) := by decide +kernel
theorem dX7_erase_6 : decode cX7_erase 6 = .ok (.iconst 0, 1) := by decide +kernel
theorem dX7_erase_7 : decode cX7_erase 7 = .ok (.putfield 72, 3) := by decide +kernel
theorem dX7_erase_10 : decode cX7_erase 10 = .ok (.iload_n 1, 1) := by decide +kernel
theorem dX7_erase_11 : decode cX7_erase 11 = .ok (.ireturn, 1) := by decide +kernel
theorem dX7_nextToken_0 : decode cX7_nextToken 0 = .ok (.aload_n 0, 1) := by decide +kernel
theorem dX7_nextToken_1 : decode cX7_nextToken 1 = .ok (.getfield 77, 3) := by decide +kernel
theorem dX7_nextToken_4 : decode cX7_nextToken 4 = .ok (.aload_n 0, 1) := by decide +kernel
theorem dX7_nextToken_5 : decode cX7_nextToken 5 = .ok (.getfield 72, 3) := by decide +kernel
theorem dX7_nextToken_8 : decode cX7_nextToken 8 = .ok (.if_icmp .ge 30, 3) := by decide +kernel
theorem dX7_nextToken_11 : decode cX7_nextToken 11 = .ok (.aload_n 0, 1) := by decide +kernel
theorem dX7_nextToken_12 : decode cX7_nextToken 12 = .ok (.getfield 23, 3) := by decide +kernel
theorem dX7_nextToken_15 : decode cX7_nextToken 15 = .ok (.aload_n 0, 1) := by decide +kernel
theorem dX7_nextToken_16 : decode cX7_nextToken 16 = .ok (.getfield 77, 3) := by decide +kernel
theorem dX7_nextToken_19 : decode cX7_nextToken 19 = .ok (.iaload, 1) := by decide +kernel
theorem dX7_nextToken_20 : decode cX7_nextToken 20 = .ok (.bipush 32, 2) := by decide +kernel
theorem dX7_nextToken_22 : decode cX7_nextToken 22 = .ok (.if_icmp .ne 16, 3) := by decide +kernel
theorem dX7_nextToken_25 : decode cX7_nextToken 25 = .ok (.aload_n 0, 1) := by decide +kernel
theorem dX7_nextToken_26 : decode cX7_nextToken 26 = .ok (.dup, 1) := by decide +kernel
theorem dX7_nextToken_27 : decode cX7_nextToken 27 = .ok (.getfield 77, 3) := by decide +kernel
theorem dX7_nextToken_30 : decode cX7_nextToken 30 = .ok (.iconst 1, 1) := by decide +kernel
theorem dX7_nextToken_31 : decode cX7_nextToken 31 = .ok (.iadd, 1) := by decide +kernel
theorem dX7_nextToken_32 : decode cX7_nextToken 32 = .ok (.putfield 77, 3) := by decide +kernel
theorem dX7_nextToken_35 : decode cX7_nextToken 35 = .ok (.goto (-35), 3) := by decide +kernel
theorem dX7_nextToken_38 : decode cX7_nextToken 38 = .ok (.aload_n 0, 1) := by decide +kernel
theorem dX7_nextToken_39 : decode cX7_nextToken 39 = .ok (.aload_n 0, 1) := by decide +kernel
theorem dX7_nextToken_40 : decode cX7_nextToken 40 = .ok (.getfield 77, 3) := by decide +kernel
theorem dX7_nextToken_43 : decode cX7_nextToken 43 = .ok (.putfield 80, 3) := by decide +kernel
theorem dX7_nextToken_46 : decode cX7_nextToken 46 = .ok (.aload_n 0, 1) := by decide +kernel
theorem dX7_nextToken_47 : decode cX7_nextToken 47 = .ok (.iconst 0, 1) := by decide +kernel
theorem dX7_nextToken_48 : decode cX7_nextToken 48 = .ok (.putfield 83, 3) := by decide +kernel
theorem dX7_nextToken_51 : decode cX7_nextToken 51 = .ok (.aload_n 0, 1) := by decide +kernel
theorem dX7_nextToken_52 : decode cX7_nextToken 52 = .ok (.iconst 0, 1) := by decide +kernel
theorem dX7_nextToken_53 : decode cX7_nextToken 53 = .ok (.putfield 86, 3) := by decide +kernel
theorem dX7_nextToken_56 : decode cX7_nextToken 56 = .ok (.aload_n 0, 1) := by decide +kernel
theorem dX7_nextToken_57 : decode cX7_nextToken 57 = .ok (.getfield 77, 3) := by decide +kernel
theorem dX7_nextToken_60 : decode cX7_nextToken 60 = .ok (.aload_n 0, 1) := by decide +kernel
theorem dX7_nextToken_61 : decode cX7_nextToken 61 = .ok (.getfield 72, 3) := by decide +kernel
theorem dX7_nextToken_64 : decode cX7_nextToken 64 = .ok (.if_icmp .ne 13, 3) := by decide +kernel
theorem dX7_nextToken_67 : decode cX7_nextToken 67 = .ok (.aload_n 0, 1) := by decide +kernel
theorem dX7_nextToken_68 : decode cX7_nextToken 68 = .ok (.ldc2_w 89, 3) := by decide +kernel
theorem dX7_nextToken_71 : decode cX7_nextToken 71 = .ok (.putfield 91, 3) := by decide +kernel
theorem dX7_nextToken_74 : decode cX7_nextToken 74 = .ok (.goto 320, 3) := by decide +kernel
theorem dX7_nextToken_77 : decode cX7_nextToken 77 = .ok (.aload_n 0, 1) := by decide +kernel
theorem dX7_nextToken_78 : decode cX7_nextToken 78 = .ok (.getfield 23, 3) := by decide +kernel
theorem dX7_nextToken_81 : decode cX7_nextToken 81 = .ok (.aload_n 0, 1) := by decide +kernel
theorem dX7_nextToken_82 : decode cX7_nextToken 82 = .ok (.getfield 77, 3) := by decide +kernel
theorem dX7_nextToken_85 : decode cX7_nextToken 85 = .ok (.iaload, 1) := by decide +kernel
theorem dX7_nextToken_86 : decode cX7_nextToken 86 = .ok (.bipush 97, 2) := by decide +kernel
theorem dX7_nextToken_88 : decode cX7_nextToken 88 = .ok (.bipush 122, 2) := by decide +kernel
theorem dX7_nextToken_90 : decode cX7_nextToken 90 = .ok (.invokestatic 61, 3) := by decide +kernel
theorem dX7_nextToken_93 : decode cX7_nextToken 93 = .ok (.ifCond .eq 129, 3) := by decide +kernel
theorem dX7_nextToken_96 : decode cX7_nextToken 96 = .ok (.aload_n 0, 1) := by decide +kernel
theorem dX7_nextToken_97 : decode cX7_nextToken 97 = .ok (.lconst 0, 1) := by decide +kernel
theorem dX7_nextToken_98 : decode cX7_nextToken 98 = .ok (.putfield 91, 3) := by decide +kernel
theorem dX7_nextToken_101 : decode cX7_nextToken 101 = .ok (.aload_n 0, 1) := by decide +kernel
theorem dX7_nextToken_102 : decode cX7_nextToken 102 = .ok (.getfield 77, 3) := by decide +kernel
theorem dX7_nextToken_105 : decode cX7_nextToken 105 = .ok (.aload_n 0, 1) := by decide +kernel
theorem dX7_nextToken_106 : decode cX7_nextToken 106 = .ok (.getfield 72, 3) := by decide +kernel
theorem dX7_nextToken_109 : decode cX7_nextToken 109 = .ok (.if_icmp .ge 82, 3) := by decide +kernel
theorem dX7_nextToken_112 : decode cX7_nextToken 112 = .ok (.aload_n 0, 1) := by decide +kernel
theorem dX7_nextToken_113 : decode cX7_nextToken 113 = .ok (.getfield 23, 3) := by decide +kernel
theorem dX7_nextToken_116 : decode cX7_nextToken 116 = .ok (.aload_n 0, 1) := by decide +kernel
theorem dX7_nextToken_117 : decode cX7_nextToken 117 = .ok (.getfield 77, 3) := by decide +kernel
theorem dX7_nextToken_120 : decode cX7_nextToken 120 = .ok (.iaload, 1) := by decide +kernel
theorem dX7_nextToken_121 : decode cX7_nextToken 121 = .ok (.bipush 97, 2) := by decide +kernel
theorem dX7_nextToken_123 : decode cX7_nextToken 123 = .ok (.bipush 122, 2) := by decide +kernel
theorem dX7_nextToken_125 : decode cX7_nextToken 125 = .ok (.invokestatic 61, 3) := by decide +kernel
theorem dX7_nextToken_128 : decode cX7_nextToken 128 = .ok (.ifCond .eq 63, 3) := by decide +kernel
theorem dX7_nextToken_131 : decode cX7_nextToken 131 = .ok (.aload_n 0, 1) := by decide +kernel
theorem dX7_nextToken_132 : decode cX7_nextToken 132 = .ok (.aload_n 0, 1) := by decide +kernel
theorem dX7_nextToken_133 : decode cX7_nextToken 133 = .ok (.getfield 77, 3) := by decide +kernel
theorem dX7_nextToken_136 : decode cX7_nextToken 136 = .ok (.aload_n 0, 1) := by decide +kernel
theorem dX7_nextToken_137 : decode cX7_nextToken 137 = .ok (.getfield 80, 3) := by decide +kernel
theorem dX7_nextToken_140 : decode cX7_nextToken 140 = .ok (.isub, 1) := by decide +kernel
theorem dX7_nextToken_141 : decode cX7_nextToken 141 = .ok (.bipush 9, 2) := by decide +kernel
theorem dX7_nextToken_143 : decode cX7_nextToken 143 = .ok (.if_icmp .ge 29, 3) := by decide +kernel
theorem dX7_nextToken_146 : decode cX7_nextToken 146 = .ok (.ldc2_w 95, 3) := by decide +kernel
theorem dX7_nextToken_149 : decode cX7_nextToken 149 = .ok (.aload_n 0, 1) := by decide +kernel
theorem dX7_nextToken_150 : decode cX7_nextToken 150 = .ok (.getfield 91, 3) := by decide +kernel
theorem dX7_nextToken_153 : decode cX7_nextToken 153 = .ok (.lmul, 1) := by decide +kernel
theorem dX7_nextToken_154 : decode cX7_nextToken 154 = .ok (.aload_n 0, 1) := by decide +kernel
theorem dX7_nextToken_155 : decode cX7_nextToken 155 = .ok (.getfield 23, 3) := by decide +kernel
theorem dX7_nextToken_158 : decode cX7_nextToken 158 = .ok (.aload_n 0, 1) := by decide +kernel
theorem dX7_nextToken_159 : decode cX7_nextToken 159 = .ok (.getfield 77, 3) := by decide +kernel
theorem dX7_nextToken_162 : decode cX7_nextToken 162 = .ok (.iaload, 1) := by decide +kernel
theorem dX7_nextToken_163 : decode cX7_nextToken 163 = .ok (.i2l, 1) := by decide +kernel
theorem dX7_nextToken_164 : decode cX7_nextToken 164 = .ok (.ladd, 1) := by decide +kernel
theorem dX7_nextToken_165 : decode cX7_nextToken 165 = .ok (.ldc2_w 97, 3) := by decide +kernel
theorem dX7_nextToken_168 : decode cX7_nextToken 168 = .ok (.lsub, 1) := by decide +kernel
theorem dX7_nextToken_169 : decode cX7_nextToken 169 = .ok (.goto 6, 3) := by decide +kernel
theorem dX7_nextToken_172 : decode cX7_nextToken 172 = .ok (.ldc2_w 99, 3) := by decide +kernel
theorem dX7_nextToken_175 : decode cX7_nextToken 175 = .ok (.putfield 91, 3) := by decide +kernel
theorem dX7_nextToken_178 : decode cX7_nextToken 178 = .ok (.aload_n 0, 1) := by decide +kernel
theorem dX7_nextToken_179 : decode cX7_nextToken 179 = .ok (.dup, 1) := by decide +kernel
theorem dX7_nextToken_180 : decode cX7_nextToken 180 = .ok (.getfield 77, 3) := by decide +kernel
theorem dX7_nextToken_183 : decode cX7_nextToken 183 = .ok (.iconst 1, 1) := by decide +kernel
theorem dX7_nextToken_184 : decode cX7_nextToken 184 = .ok (.iadd, 1) := by decide +kernel
theorem dX7_nextToken_185 : decode cX7_nextToken 185 = .ok (.putfield 77, 3) := by decide +kernel
theorem dX7_nextToken_188 : decode cX7_nextToken 188 = .ok (.goto (-87), 3) := by decide +kernel
theorem dX7_nextToken_191 : decode cX7_nextToken 191 = .ok (.aload_n 0, 1) := by decide +kernel
theorem dX7_nextToken_192 : decode cX7_nextToken 192 = .ok (.aload_n 0, 1) := by decide +kernel
theorem dX7_nextToken_193 : decode cX7_nextToken 193 = .ok (.getfield 77, 3) := by decide +kernel
theorem dX7_nextToken_196 : decode cX7_nextToken 196 = .ok (.aload_n 0, 1) := by decide +kernel
theorem dX7_nextToken_197 : decode cX7_nextToken 197 = .ok (.getfield 80, 3) := by decide +kernel
theorem dX7_nextToken_200 : decode cX7_nextToken 200 = .ok (.isub, 1) := by decide +kernel
theorem dX7_nextToken_201 : decode cX7_nextToken 201 = .ok (.bipush 9, 2) := by decide +kernel
theorem dX7_nextToken_203 : decode cX7_nextToken 203 = .ok (.if_icmp .le 9, 3) := by decide +kernel
theorem dX7_nextToken_206 : decode cX7_nextToken 206 = .ok (.ldc2_w 99, 3) := by decide +kernel
theorem dX7_nextToken_209 : decode cX7_nextToken 209 = .ok (.goto 7, 3) := by decide +kernel
theorem dX7_nextToken_212 : decode cX7_nextToken 212 = .ok (.aload_n 0, 1) := by decide +kernel
theorem dX7_nextToken_213 : decode cX7_nextToken 213 = .ok (.getfield 91, 3) := by decide +kernel
theorem dX7_nextToken_216 : decode cX7_nextToken 216 = .ok (.putfield 91, 3) := by decide +kernel
theorem dX7_nextToken_219 : decode cX7_nextToken 219 = .ok (.goto 175, 3) := by decide +kernel
theorem dX7_nextToken_222 : decode cX7_nextToken 222 = .ok (.aload_n 0, 1) := by decide +kernel
theorem dX7_nextToken_223 : decode cX7_nextToken 223 = .ok (.getfield 23, 3) := by decide +kernel
theorem dX7_nextToken_226 : decode cX7_nextToken 226 = .ok (.aload_n 0, 1) := by decide +kernel
theorem dX7_nextToken_227 : decode cX7_nextToken 227 = .ok (.getfield 77, 3) := by decide +kernel
theorem dX7_nextToken_230 : decode cX7_nextToken 230 = .ok (.iaload, 1) := by decide +kernel
theorem dX7_nextToken_231 : decode cX7_nextToken 231 = .ok (.bipush 48, 2) := by decide +kernel
theorem dX7_nextToken_233 : decode cX7_nextToken 233 = .ok (.bipush 57, 2) := by decide +kernel
theorem dX7_nextToken_235 : decode cX7_nextToken 235 = .ok (.invokestatic 61, 3) := by decide +kernel
theorem dX7_nextToken_238 : decode cX7_nextToken 238 = .ok (.ifCond .eq 119, 3) := by decide +kernel
theorem dX7_nextToken_241 : decode cX7_nextToken 241 = .ok (.aload_n 0, 1) := by decide +kernel
theorem dX7_nextToken_242 : decode cX7_nextToken 242 = .ok (.getfield 77, 3) := by decide +kernel
theorem dX7_nextToken_245 : decode cX7_nextToken 245 = .ok (.aload_n 0, 1) := by decide +kernel
theorem dX7_nextToken_246 : decode cX7_nextToken 246 = .ok (.getfield 72, 3) := by decide +kernel
theorem dX7_nextToken_249 : decode cX7_nextToken 249 = .ok (.if_icmp .ge 84, 3) := by decide +kernel
theorem dX7_nextToken_252 : decode cX7_nextToken 252 = .ok (.aload_n 0, 1) := by decide +kernel
theorem dX7_nextToken_253 : decode cX7_nextToken 253 = .ok (.getfield 23, 3) := by decide +kernel
theorem dX7_nextToken_256 : decode cX7_nextToken 256 = .ok (.aload_n 0, 1) := by decide +kernel
theorem dX7_nextToken_257 : decode cX7_nextToken 257 = .ok (.getfield 77, 3) := by decide +kernel
theorem dX7_nextToken_260 : decode cX7_nextToken 260 = .ok (.iaload, 1) := by decide +kernel
theorem dX7_nextToken_261 : decode cX7_nextToken 261 = .ok (.bipush 48, 2) := by decide +kernel
theorem dX7_nextToken_263 : decode cX7_nextToken 263 = .ok (.bipush 57, 2) := by decide +kernel
theorem dX7_nextToken_265 : decode cX7_nextToken 265 = .ok (.invokestatic 61, 3) := by decide +kernel
theorem dX7_nextToken_268 : decode cX7_nextToken 268 = .ok (.ifCond .eq 65, 3) := by decide +kernel
theorem dX7_nextToken_271 : decode cX7_nextToken 271 = .ok (.aload_n 0, 1) := by decide +kernel
theorem dX7_nextToken_272 : decode cX7_nextToken 272 = .ok (.aload_n 0, 1) := by decide +kernel
theorem dX7_nextToken_273 : decode cX7_nextToken 273 = .ok (.getfield 83, 3) := by decide +kernel
theorem dX7_nextToken_276 : decode cX7_nextToken 276 = .ok (.iconst 2, 1) := by decide +kernel
theorem dX7_nextToken_277 : decode cX7_nextToken 277 = .ok (.if_icmp .ge 26, 3) := by decide +kernel
theorem dX7_nextToken_280 : decode cX7_nextToken 280 = .ok (.bipush 10, 2) := by decide +kernel
theorem dX7_nextToken_282 : decode cX7_nextToken 282 = .ok (.aload_n 0, 1) := by decide +kernel
theorem dX7_nextToken_283 : decode cX7_nextToken 283 = .ok (.getfield 86, 3) := by decide +kernel
theorem dX7_nextToken_286 : decode cX7_nextToken 286 = .ok (.imul, 1) := by decide +kernel
theorem dX7_nextToken_287 : decode cX7_nextToken 287 = .ok (.aload_n 0, 1) := by decide +kernel
theorem dX7_nextToken_288 : decode cX7_nextToken 288 = .ok (.getfield 23, 3) := by decide +kernel
theorem dX7_nextToken_291 : decode cX7_nextToken 291 = .ok (.aload_n 0, 1) := by decide +kernel
theorem dX7_nextToken_292 : decode cX7_nextToken 292 = .ok (.getfield 77, 3) := by decide +kernel
theorem dX7_nextToken_295 : decode cX7_nextToken 295 = .ok (.iaload, 1) := by decide +kernel
theorem dX7_nextToken_296 : decode cX7_nextToken 296 = .ok (.iadd, 1) := by decide +kernel
theorem dX7_nextToken_297 : decode cX7_nextToken 297 = .ok (.bipush 48, 2) := by decide +kernel
theorem dX7_nextToken_299 : decode cX7_nextToken 299 = .ok (.isub, 1) := by decide +kernel
theorem dX7_nextToken_300 : decode cX7_nextToken 300 = .ok (.goto 7, 3) := by decide +kernel
theorem dX7_nextToken_303 : decode cX7_nextToken 303 = .ok (.aload_n 0, 1) := by decide +kernel
theorem dX7_nextToken_304 : decode cX7_nextToken 304 = .ok (.getfield 86, 3) := by decide +kernel
theorem dX7_nextToken_307 : decode cX7_nextToken 307 = .ok (.putfield 86, 3) := by decide +kernel
theorem dX7_nextToken_310 : decode cX7_nextToken 310 = .ok (.aload_n 0, 1) := by decide +kernel
theorem dX7_nextToken_311 : decode cX7_nextToken 311 = .ok (.dup, 1) := by decide +kernel
theorem dX7_nextToken_312 : decode cX7_nextToken 312 = .ok (.getfield 83, 3) := by decide +kernel
theorem dX7_nextToken_315 : decode cX7_nextToken 315 = .ok (.iconst 1, 1) := by decide +kernel
theorem dX7_nextToken_316 : decode cX7_nextToken 316 = .ok (.iadd, 1) := by decide +kernel
theorem dX7_nextToken_317 : decode cX7_nextToken 317 = .ok (.putfield 83, 3) := by decide +kernel
theorem dX7_nextToken_320 : decode cX7_nextToken 320 = .ok (.aload_n 0, 1) := by decide +kernel
theorem dX7_nextToken_321 : decode cX7_nextToken 321 = .ok (.dup, 1) := by decide +kernel
theorem dX7_nextToken_322 : decode cX7_nextToken 322 = .ok (.getfield 77, 3) := by decide +kernel
theorem dX7_nextToken_325 : decode cX7_nextToken 325 = .ok (.iconst 1, 1) := by decide +kernel
theorem dX7_nextToken_326 : decode cX7_nextToken 326 = .ok (.iadd, 1) := by decide +kernel
theorem dX7_nextToken_327 : decode cX7_nextToken 327 = .ok (.putfield 77, 3) := by decide +kernel
theorem dX7_nextToken_330 : decode cX7_nextToken 330 = .ok (.goto (-89), 3) := by decide +kernel
theorem dX7_nextToken_333 : decode cX7_nextToken 333 = .ok (.aload_n 0, 1) := by decide +kernel
theorem dX7_nextToken_334 : decode cX7_nextToken 334 = .ok (.aload_n 0, 1) := by decide +kernel
theorem dX7_nextToken_335 : decode cX7_nextToken 335 = .ok (.getfield 83, 3) := by decide +kernel
theorem dX7_nextToken_338 : decode cX7_nextToken 338 = .ok (.iconst 2, 1) := by decide +kernel
theorem dX7_nextToken_339 : decode cX7_nextToken 339 = .ok (.if_icmp .le 9, 3) := by decide +kernel
theorem dX7_nextToken_342 : decode cX7_nextToken 342 = .ok (.ldc2_w 99, 3) := by decide +kernel
theorem dX7_nextToken_345 : decode cX7_nextToken 345 = .ok (.goto 6, 3) := by decide +kernel
theorem dX7_nextToken_348 : decode cX7_nextToken 348 = .ok (.ldc2_w 101, 3) := by decide +kernel
theorem dX7_nextToken_351 : decode cX7_nextToken 351 = .ok (.putfield 91, 3) := by decide +kernel
theorem dX7_nextToken_354 : decode cX7_nextToken 354 = .ok (.goto 40, 3) := by decide +kernel
theorem dX7_nextToken_357 : decode cX7_nextToken 357 = .ok (.aload_n 0, 1) := by decide +kernel
theorem dX7_nextToken_358 : decode cX7_nextToken 358 = .ok (.aload_n 0, 1) := by decide +kernel
theorem dX7_nextToken_359 : decode cX7_nextToken 359 = .ok (.getfield 23, 3) := by decide +kernel
theorem dX7_nextToken_362 : decode cX7_nextToken 362 = .ok (.aload_n 0, 1) := by decide +kernel
theorem dX7_nextToken_363 : decode cX7_nextToken 363 = .ok (.getfield 77, 3) := by decide +kernel
theorem dX7_nextToken_366 : decode cX7_nextToken 366 = .ok (.iaload, 1) := by decide +kernel
theorem dX7_nextToken_367 : decode cX7_nextToken 367 = .ok (.bipush 59, 2) := by decide +kernel
theorem dX7_nextToken_369 : decode cX7_nextToken 369 = .ok (.if_icmp .ne 9, 3) := by decide +kernel
theorem dX7_nextToken_372 : decode cX7_nextToken 372 = .ok (.ldc2_w 103, 3) := by decide +kernel
theorem dX7_nextToken_375 : decode cX7_nextToken 375 = .ok (.goto 6, 3) := by decide +kernel
theorem dX7_nextToken_378 : decode cX7_nextToken 378 = .ok (.ldc2_w 99, 3) := by decide +kernel
theorem dX7_nextToken_381 : decode cX7_nextToken 381 = .ok (.putfield 91, 3) := by decide +kernel
theorem dX7_nextToken_384 : decode cX7_nextToken 384 = .ok (.aload_n 0, 1) := by decide +kernel
theorem dX7_nextToken_385 : decode cX7_nextToken 385 = .ok (.dup, 1) := by decide +kernel
theorem dX7_nextToken_386 : decode cX7_nextToken 386 = .ok (.getfield 77, 3) := by decide +kernel
theorem dX7_nextToken_389 : decode cX7_nextToken 389 = .ok (.iconst 1, 1) := by decide +kernel
theorem dX7_nextToken_390 : decode cX7_nextToken 390 = .ok (.iadd, 1) := by decide +kernel
theorem dX7_nextToken_391 : decode cX7_nextToken 391 = .ok (.putfield 77, 3) := by decide +kernel
theorem dX7_nextToken_394 : decode cX7_nextToken 394 = .ok (.return_, 1) := by decide +kernel
theorem dX7_fails_0 : decode cX7_fails 0 = .ok (.aload_n 0, 1) := by decide +kernel
theorem dX7_fails_1 : decode cX7_fails 1 = .ok (.aload_n 0, 1) := by decide +kernel
theorem dX7_fails_2 : decode cX7_fails 2 = .ok (.getfield 80, 3) := by decide +kernel
theorem dX7_fails_5 : decode cX7_fails 5 = .ok (.putfield 105, 3) := by decide +kernel
theorem dX7_fails_8 : decode cX7_fails 8 = .ok (.iconst 0, 1) := by decide +kernel
theorem dX7_fails_9 : decode cX7_fails 9 = .ok (.ireturn, 1) := by decide +kernel
theorem dX7_isNumber_0 : decode cX7_isNumber 0 = .ok (.aload_n 0, 1) := by decide +kernel
theorem dX7_isNumber_1 : decode cX7_isNumber 1 = .ok (.invokevirtual 108, 3) := by decide +kernel
theorem dX7_isNumber_4 : decode cX7_isNumber 4 = .ok (.aload_n 0, 1) := by decide +kernel
theorem dX7_isNumber_5 : decode cX7_isNumber 5 = .ok (.getfield 91, 3) := by decide +kernel
theorem dX7_isNumber_8 : decode cX7_isNumber 8 = .ok (.ldc2_w 101, 3) := by decide +kernel
theorem dX7_isNumber_11 : decode cX7_isNumber 11 = .ok (.lcmp, 1) := by decide +kernel
theorem dX7_isNumber_12 : decode cX7_isNumber 12 = .ok (.ifCond .ne 15, 3) := by decide +kernel
theorem dX7_isNumber_15 : decode cX7_isNumber 15 = .ok (.aload_n 0, 1) := by decide +kernel
theorem dX7_isNumber_16 : decode cX7_isNumber 16 = .ok (.getfield 86, 3) := by decide +kernel
theorem dX7_isNumber_19 : decode cX7_isNumber 19 = .ok (.iload_n 2, 1) := by decide +kernel
theorem dX7_isNumber_20 : decode cX7_isNumber 20 = .ok (.iload_n 3, 1) := by decide +kernel
theorem dX7_isNumber_21 : decode cX7_isNumber 21 = .ok (.invokestatic 61, 3) := by decide +kernel
theorem dX7_isNumber_24 : decode cX7_isNumber 24 = .ok (.ifCond .ne 8, 3) := by decide +kernel
theorem dX7_isNumber_27 : decode cX7_isNumber 27 = .ok (.aload_n 0, 1) := by decide +kernel
theorem dX7_isNumber_28 : decode cX7_isNumber 28 = .ok (.invokevirtual 111, 3) := by decide +kernel
theorem dX7_isNumber_31 : decode cX7_isNumber 31 = .ok (.ireturn, 1) := by decide +kernel
theorem dX7_isNumber_32 : decode cX7_isNumber 32 = .ok (.aload_n 0, 1) := by decide +kernel
theorem dX7_isNumber_33 : decode cX7_isNumber 33 = .ok (.getfield 26, 3) := by decide +kernel
theorem dX7_isNumber_36 : decode cX7_isNumber 36 = .ok (.iload_n 1, 1) := by decide +kernel
theorem dX7_isNumber_37 : decode cX7_isNumber 37 = .ok (.aload_n 0, 1) := by decide +kernel
theorem dX7_isNumber_38 : decode cX7_isNumber 38 = .ok (.getfield 86, 3) := by decide +kernel
theorem dX7_isNumber_41 : decode cX7_isNumber 41 = .ok (.iastore, 1) := by decide +kernel
theorem dX7_isNumber_42 : decode cX7_isNumber 42 = .ok (.iconst 1, 1) := by decide +kernel
theorem dX7_isNumber_43 : decode cX7_isNumber 43 = .ok (.ireturn, 1) := by decide +kernel
theorem dX7_isKite_0 : decode cX7_isKite 0 = .ok (.aload_n 0, 1) := by decide +kernel
theorem dX7_isKite_1 : decode cX7_isKite 1 = .ok (.invokevirtual 108, 3) := by decide +kernel
theorem dX7_isKite_4 : decode cX7_isKite 4 = .ok (.aload_n 0, 1) := by decide +kernel
theorem dX7_isKite_5 : decode cX7_isKite 5 = .ok (.getfield 91, 3) := by decide +kernel
theorem dX7_isKite_8 : decode cX7_isKite 8 = .ok (.ldc2_w 115, 3) := by decide +kernel
theorem dX7_isKite_11 : decode cX7_isKite 11 = .ok (.lcmp, 1) := by decide +kernel
theorem dX7_isKite_12 : decode cX7_isKite 12 = .ok (.ifCond .ne 7, 3) := by decide +kernel
theorem dX7_isKite_15 : decode cX7_isKite 15 = .ok (.iconst 0, 1) := by decide +kernel
theorem dX7_isKite_16 : decode cX7_isKite 16 = .ok (.goto 64, 3) := by decide +kernel
theorem dX7_isKite_19 : decode cX7_isKite 19 = .ok (.aload_n 0, 1) := by decide +kernel
theorem dX7_isKite_20 : decode cX7_isKite 20 = .ok (.getfield 91, 3) := by decide +kernel
theorem dX7_isKite_23 : decode cX7_isKite 23 = .ok (.ldc2_w 117, 3) := by decide +kernel
theorem dX7_isKite_26 : decode cX7_isKite 26 = .ok (.lcmp, 1) := by decide +kernel
theorem dX7_isKite_27 : decode cX7_isKite 27 = .ok (.ifCond .ne 7, 3) := by decide +kernel
theorem dX7_isKite_30 : decode cX7_isKite 30 = .ok (.iconst 1, 1) := by decide +kernel
theorem dX7_isKite_31 : decode cX7_isKite 31 = .ok (.goto 49, 3) := by decide +kernel
theorem dX7_isKite_34 : decode cX7_isKite 34 = .ok (.aload_n 0, 1) := by decide +kernel
theorem dX7_isKite_35 : decode cX7_isKite 35 = .ok (.getfield 91, 3) := by decide +kernel
theorem dX7_isKite_38 : decode cX7_isKite 38 = .ok (.ldc2_w 119, 3) := by decide +kernel
theorem dX7_isKite_41 : decode cX7_isKite 41 = .ok (.lcmp, 1) := by decide +kernel
theorem dX7_isKite_42 : decode cX7_isKite 42 = .ok (.ifCond .ne 7, 3) := by decide +kernel
theorem dX7_isKite_45 : decode cX7_isKite 45 = .ok (.iconst 2, 1) := by decide +kernel
theorem dX7_isKite_46 : decode cX7_isKite 46 = .ok (.goto 34, 3) := by decide +kernel
theorem dX7_isKite_49 : decode cX7_isKite 49 = .ok (.aload_n 0, 1) := by decide +kernel
theorem dX7_isKite_50 : decode cX7_isKite 50 = .ok (.getfield 91, 3) := by decide +kernel
theorem dX7_isKite_53 : decode cX7_isKite 53 = .ok (.ldc2_w 121, 3) := by decide +kernel
theorem dX7_isKite_56 : decode cX7_isKite 56 = .ok (.lcmp, 1) := by decide +kernel
theorem dX7_isKite_57 : decode cX7_isKite 57 = .ok (.ifCond .ne 7, 3) := by decide +kernel
theorem dX7_isKite_60 : decode cX7_isKite 60 = .ok (.iconst 3, 1) := by decide +kernel
theorem dX7_isKite_61 : decode cX7_isKite 61 = .ok (.goto 19, 3) := by decide +kernel
theorem dX7_isKite_64 : decode cX7_isKite 64 = .ok (.aload_n 0, 1) := by decide +kernel
theorem dX7_isKite_65 : decode cX7_isKite 65 = .ok (.getfield 91, 3) := by decide +kernel
theorem dX7_isKite_68 : decode cX7_isKite 68 = .ok (.ldc2_w 123, 3) := by decide +kernel
theorem dX7_isKite_71 : decode cX7_isKite 71 = .ok (.lcmp, 1) := by decide +kernel
theorem dX7_isKite_72 : decode cX7_isKite 72 = .ok (.ifCond .ne 7, 3) := by decide +kernel
theorem dX7_isKite_75 : decode cX7_isKite 75 = .ok (.iconst 4, 1) := by decide +kernel
theorem dX7_isKite_76 : decode cX7_isKite 76 = .ok (.goto 4, 3) := by decide +kernel
theorem dX7_isKite_79 : decode cX7_isKite 79 = .ok (.iconst (-1), 1) := by decide +kernel
theorem dX7_isKite_80 : decode cX7_isKite 80 = .ok (.istore_n 2, 1) := by decide +kernel
theorem dX7_isKite_81 : decode cX7_isKite 81 = .ok (.iload_n 2, 1) := by decide +kernel
theorem dX7_isKite_82 : decode cX7_isKite 82 = .ok (.iconst (-1), 1) := by decide +kernel
theorem dX7_isKite_83 : decode cX7_isKite 83 = .ok (.if_icmp .ne 8, 3) := by decide +kernel
theorem dX7_isKite_86 : decode cX7_isKite 86 = .ok (.aload_n 0, 1) := by decide +kernel
theorem dX7_isKite_87 : decode cX7_isKite 87 = .ok (.invokevirtual 111, 3) := by decide +kernel
theorem dX7_isKite_90 : decode cX7_isKite 90 = .ok (.ireturn, 1) := by decide +kernel
theorem dX7_isKite_91 : decode cX7_isKite 91 = .ok (.aload_n 0, 1) := by decide +kernel
theorem dX7_isKite_92 : decode cX7_isKite 92 = .ok (.getfield 26, 3) := by decide +kernel
theorem dX7_isKite_95 : decode cX7_isKite 95 = .ok (.iload_n 1, 1) := by decide +kernel
theorem dX7_isKite_96 : decode cX7_isKite 96 = .ok (.iload_n 2, 1) := by decide +kernel
theorem dX7_isKite_97 : decode cX7_isKite 97 = .ok (.iastore, 1) := by decide +kernel
theorem dX7_isKite_98 : decode cX7_isKite 98 = .ok (.iconst 1, 1) := by decide +kernel
theorem dX7_isKite_99 : decode cX7_isKite 99 = .ok (.ireturn, 1) := by decide +kernel
theorem dX7_isReachLine_0 : decode cX7_isReachLine 0 = .ok (.aload_n 0, 1) := by decide +kernel
theorem dX7_isReachLine_1 : decode cX7_isReachLine 1 = .ok (.getfield 125, 3) := by decide +kernel
theorem dX7_isReachLine_4 : decode cX7_isReachLine 4 = .ok (.bipush 8, 2) := by decide +kernel
theorem dX7_isReachLine_6 : decode cX7_isReachLine 6 = .ok (.if_icmp .ne 8, 3) := by decide +kernel
theorem dX7_isReachLine_9 : decode cX7_isReachLine 9 = .ok (.aload_n 0, 1) := by decide +kernel
theorem dX7_isReachLine_10 : decode cX7_isReachLine 10 = .ok (.invokevirtual 111, 3) := by decide +kernel
theorem dX7_isReachLine_13 : decode cX7_isReachLine 13 = .ok (.ireturn, 1) := by decide +kernel
theorem dX7_isReachLine_14 : decode cX7_isReachLine 14 = .ok (.aload_n 0, 1) := by decide +kernel
theorem dX7_isReachLine_15 : decode cX7_isReachLine 15 = .ok (.dup, 1) := by decide +kernel
theorem dX7_isReachLine_16 : decode cX7_isReachLine 16 = .ok (.getfield 125, 3) := by decide +kernel
theorem dX7_isReachLine_19 : decode cX7_isReachLine 19 = .ok (.iconst 1, 1) := by decide +kernel
theorem dX7_isReachLine_20 : decode cX7_isReachLine 20 = .ok (.iadd, 1) := by decide +kernel
theorem dX7_isReachLine_21 : decode cX7_isReachLine 21 = .ok (.putfield 125, 3) := by decide +kernel
theorem dX7_isReachLine_24 : decode cX7_isReachLine 24 = .ok (.aload_n 0, 1) := by decide +kernel
theorem dX7_isReachLine_25 : decode cX7_isReachLine 25 = .ok (.iload_n 1, 1) := by decide +kernel
theorem dX7_isReachLine_26 : decode cX7_isReachLine 26 = .ok (.iconst 1, 1) := by decide +kernel
theorem dX7_isReachLine_27 : decode cX7_isReachLine 27 = .ok (.iadd, 1) := by decide +kernel
theorem dX7_isReachLine_28 : decode cX7_isReachLine 28 = .ok (.iconst 0, 1) := by decide +kernel
theorem dX7_isReachLine_29 : decode cX7_isReachLine 29 = .ok (.bipush 7, 2) := by decide +kernel
theorem dX7_isReachLine_31 : decode cX7_isReachLine 31 = .ok (.invokevirtual 128, 3) := by decide +kernel
theorem dX7_isReachLine_34 : decode cX7_isReachLine 34 = .ok (.ifCond .eq 20, 3) := by decide +kernel
theorem dX7_isReachLine_37 : decode cX7_isReachLine 37 = .ok (.aload_n 0, 1) := by decide +kernel
theorem dX7_isReachLine_38 : decode cX7_isReachLine 38 = .ok (.iload_n 1, 1) := by decide +kernel
theorem dX7_isReachLine_39 : decode cX7_isReachLine 39 = .ok (.iconst 2, 1) := by decide +kernel
theorem dX7_isReachLine_40 : decode cX7_isReachLine 40 = .ok (.iadd, 1) := by decide +kernel
theorem dX7_isReachLine_41 : decode cX7_isReachLine 41 = .ok (.iconst 1, 1) := by decide +kernel
theorem dX7_isReachLine_42 : decode cX7_isReachLine 42 = .ok (.bipush 20, 2) := by decide +kernel
theorem dX7_isReachLine_44 : decode cX7_isReachLine 44 = .ok (.invokevirtual 128, 3) := by decide +kernel
theorem dX7_isReachLine_47 : decode cX7_isReachLine 47 = .ok (.ifCond .eq 7, 3) := by decide +kernel
theorem dX7_isReachLine_50 : decode cX7_isReachLine 50 = .ok (.iconst 1, 1) := by decide +kernel
theorem dX7_isReachLine_51 : decode cX7_isReachLine 51 = .ok (.goto 4, 3) := by decide +kernel
theorem dX7_isReachLine_54 : decode cX7_isReachLine 54 = .ok (.iconst 0, 1) := by decide +kernel
theorem dX7_isReachLine_55 : decode cX7_isReachLine 55 = .ok (.ireturn, 1) := by decide +kernel
theorem dX7_isWind_0 : decode cX7_isWind 0 = .ok (.aload_n 0, 1) := by decide +kernel
theorem dX7_isWind_1 : decode cX7_isWind 1 = .ok (.iload_n 1, 1) := by decide +kernel
theorem dX7_isWind_2 : decode cX7_isWind 2 = .ok (.iconst 1, 1) := by decide +kernel
theorem dX7_isWind_3 : decode cX7_isWind 3 = .ok (.iadd, 1) := by decide +kernel
theorem dX7_isWind_4 : decode cX7_isWind 4 = .ok (.iconst 0, 1) := by decide +kernel
theorem dX7_isWind_5 : decode cX7_isWind 5 = .ok (.iconst 5, 1) := by decide +kernel
theorem dX7_isWind_6 : decode cX7_isWind 6 = .ok (.invokevirtual 128, 3) := by decide +kernel
theorem dX7_isWind_9 : decode cX7_isWind 9 = .ok (.ifCond .eq 66, 3) := by decide +kernel
theorem dX7_isWind_12 : decode cX7_isWind 12 = .ok (.aload_n 0, 1) := by decide +kernel
theorem dX7_isWind_13 : decode cX7_isWind 13 = .ok (.iload_n 1, 1) := by decide +kernel
theorem dX7_isWind_14 : decode cX7_isWind 14 = .ok (.iconst 2, 1) := by decide +kernel
theorem dX7_isWind_15 : decode cX7_isWind 15 = .ok (.iadd, 1) := by decide +kernel
theorem dX7_isWind_16 : decode cX7_isWind 16 = .ok (.iconst 0, 1) := by decide +kernel
theorem dX7_isWind_17 : decode cX7_isWind 17 = .ok (.bipush 23, 2) := by decide +kernel
theorem dX7_isWind_19 : decode cX7_isWind 19 = .ok (.invokevirtual 128, 3) := by decide +kernel
theorem dX7_isWind_22 : decode cX7_isWind 22 = .ok (.ifCond .eq 53, 3) := by decide +kernel
theorem dX7_isWind_25 : decode cX7_isWind 25 = .ok (.aload_n 0, 1) := by decide +kernel
theorem dX7_isWind_26 : decode cX7_isWind 26 = .ok (.iload_n 1, 1) := by decide +kernel
theorem dX7_isWind_27 : decode cX7_isWind 27 = .ok (.iconst 3, 1) := by decide +kernel
theorem dX7_isWind_28 : decode cX7_isWind 28 = .ok (.iadd, 1) := by decide +kernel
theorem dX7_isWind_29 : decode cX7_isWind 29 = .ok (.aload_n 0, 1) := by decide +kernel
theorem dX7_isWind_30 : decode cX7_isWind 30 = .ok (.getfield 26, 3) := by decide +kernel
theorem dX7_isWind_33 : decode cX7_isWind 33 = .ok (.iload_n 1, 1) := by decide +kernel
theorem dX7_isWind_34 : decode cX7_isWind 34 = .ok (.iconst 2, 1) := by decide +kernel
theorem dX7_isWind_35 : decode cX7_isWind 35 = .ok (.iadd, 1) := by decide +kernel
theorem dX7_isWind_36 : decode cX7_isWind 36 = .ok (.iaload, 1) := by decide +kernel
theorem dX7_isWind_37 : decode cX7_isWind 37 = .ok (.bipush 23, 2) := by decide +kernel
theorem dX7_isWind_39 : decode cX7_isWind 39 = .ok (.invokevirtual 128, 3) := by decide +kernel
theorem dX7_isWind_42 : decode cX7_isWind 42 = .ok (.ifCond .eq 33, 3) := by decide +kernel
theorem dX7_isWind_45 : decode cX7_isWind 45 = .ok (.aload_n 0, 1) := by decide +kernel
theorem dX7_isWind_46 : decode cX7_isWind 46 = .ok (.iload_n 1, 1) := by decide +kernel
theorem dX7_isWind_47 : decode cX7_isWind 47 = .ok (.iconst 4, 1) := by decide +kernel
theorem dX7_isWind_48 : decode cX7_isWind 48 = .ok (.iadd, 1) := by decide +kernel
theorem dX7_isWind_49 : decode cX7_isWind 49 = .ok (.iconst 0, 1) := by decide +kernel
theorem dX7_isWind_50 : decode cX7_isWind 50 = .ok (.bipush 7, 2) := by decide +kernel
theorem dX7_isWind_52 : decode cX7_isWind 52 = .ok (.invokevirtual 128, 3) := by decide +kernel
theorem dX7_isWind_55 : decode cX7_isWind 55 = .ok (.ifCond .eq 20, 3) := by decide +kernel
theorem dX7_isWind_58 : decode cX7_isWind 58 = .ok (.aload_n 0, 1) := by decide +kernel
theorem dX7_isWind_59 : decode cX7_isWind 59 = .ok (.iload_n 1, 1) := by decide +kernel
theorem dX7_isWind_60 : decode cX7_isWind 60 = .ok (.iconst 5, 1) := by decide +kernel
theorem dX7_isWind_61 : decode cX7_isWind 61 = .ok (.iadd, 1) := by decide +kernel
theorem dX7_isWind_62 : decode cX7_isWind 62 = .ok (.iconst 0, 1) := by decide +kernel
theorem dX7_isWind_63 : decode cX7_isWind 63 = .ok (.bipush 9, 2) := by decide +kernel
theorem dX7_isWind_65 : decode cX7_isWind 65 = .ok (.invokevirtual 128, 3) := by decide +kernel
theorem dX7_isWind_68 : decode cX7_isWind 68 = .ok (.ifCond .eq 7, 3) := by decide +kernel
theorem dX7_isWind_71 : decode cX7_isWind 71 = .ok (.iconst 1, 1) := by decide +kernel
theorem dX7_isWind_72 : decode cX7_isWind 72 = .ok (.goto 4, 3) := by decide +kernel
theorem dX7_isWind_75 : decode cX7_isWind 75 = .ok (.iconst 0, 1) := by decide +kernel
theorem dX7_isWind_76 : decode cX7_isWind 76 = .ok (.ireturn, 1) := by decide +kernel
theorem dX7_isLine_0 : decode cX7_isLine 0 = .ok (.aload_n 0, 1) := by decide +kernel
theorem dX7_isLine_1 : decode cX7_isLine 1 = .ok (.invokevirtual 108, 3) := by decide +kernel
theorem dX7_isLine_4 : decode cX7_isLine 4 = .ok (.aload_n 0, 1) := by decide +kernel
theorem dX7_isLine_5 : decode cX7_isLine 5 = .ok (.getfield 91, 3) := by decide +kernel
theorem dX7_isLine_8 : decode cX7_isLine 8 = .ok (.ldc2_w 131, 3) := by decide +kernel
theorem dX7_isLine_11 : decode cX7_isLine 11 = .ok (.lcmp, 1) := by decide +kernel
theorem dX7_isLine_12 : decode cX7_isLine 12 = .ok (.ifCond .ne 7, 3) := by decide +kernel
theorem dX7_isLine_15 : decode cX7_isLine 15 = .ok (.iconst 0, 1) := by decide +kernel
theorem dX7_isLine_16 : decode cX7_isLine 16 = .ok (.goto 49, 3) := by decide +kernel
theorem dX7_isLine_19 : decode cX7_isLine 19 = .ok (.aload_n 0, 1) := by decide +kernel
theorem dX7_isLine_20 : decode cX7_isLine 20 = .ok (.getfield 91, 3) := by decide +kernel
theorem dX7_isLine_23 : decode cX7_isLine 23 = .ok (.ldc2_w 133, 3) := by decide +kernel
theorem dX7_isLine_26 : decode cX7_isLine 26 = .ok (.lcmp, 1) := by decide +kernel
theorem dX7_isLine_27 : decode cX7_isLine 27 = .ok (.ifCond .ne 7, 3) := by decide +kernel
theorem dX7_isLine_30 : decode cX7_isLine 30 = .ok (.iconst 1, 1) := by decide +kernel
theorem dX7_isLine_31 : decode cX7_isLine 31 = .ok (.goto 34, 3) := by decide +kernel
theorem dX7_isLine_34 : decode cX7_isLine 34 = .ok (.aload_n 0, 1) := by decide +kernel
theorem dX7_isLine_35 : decode cX7_isLine 35 = .ok (.getfield 91, 3) := by decide +kernel
theorem dX7_isLine_38 : decode cX7_isLine 38 = .ok (.ldc2_w 135, 3) := by decide +kernel
theorem dX7_isLine_41 : decode cX7_isLine 41 = .ok (.lcmp, 1) := by decide +kernel
theorem dX7_isLine_42 : decode cX7_isLine 42 = .ok (.ifCond .ne 7, 3) := by decide +kernel
theorem dX7_isLine_45 : decode cX7_isLine 45 = .ok (.iconst 2, 1) := by decide +kernel
theorem dX7_isLine_46 : decode cX7_isLine 46 = .ok (.goto 19, 3) := by decide +kernel
theorem dX7_isLine_49 : decode cX7_isLine 49 = .ok (.aload_n 0, 1) := by decide +kernel
theorem dX7_isLine_50 : decode cX7_isLine 50 = .ok (.getfield 91, 3) := by decide +kernel
theorem dX7_isLine_53 : decode cX7_isLine 53 = .ok (.ldc2_w 137, 3) := by decide +kernel
theorem dX7_isLine_56 : decode cX7_isLine 56 = .ok (.lcmp, 1) := by decide +kernel
theorem dX7_isLine_57 : decode cX7_isLine 57 = .ok (.ifCond .ne 7, 3) := by decide +kernel
theorem dX7_isLine_60 : decode cX7_isLine 60 = .ok (.iconst 3, 1) := by decide +kernel
theorem dX7_isLine_61 : decode cX7_isLine 61 = .ok (.goto 4, 3) := by decide +kernel
theorem dX7_isLine_64 : decode cX7_isLine 64 = .ok (.iconst (-1), 1) := by decide +kernel
theorem dX7_isLine_65 : decode cX7_isLine 65 = .ok (.istore_n 2, 1) := by decide +kernel
theorem dX7_isLine_66 : decode cX7_isLine 66 = .ok (.aload_n 0, 1) := by decide +kernel
theorem dX7_isLine_67 : decode cX7_isLine 67 = .ok (.getfield 91, 3) := by decide +kernel
theorem dX7_isLine_70 : decode cX7_isLine 70 = .ok (.ldc2_w 139, 3) := by decide +kernel
theorem dX7_isLine_73 : decode cX7_isLine 73 = .ok (.lcmp, 1) := by decide +kernel
theorem dX7_isLine_74 : decode cX7_isLine 74 = .ok (.ifCond .ne 7, 3) := by decide +kernel
theorem dX7_isLine_77 : decode cX7_isLine 77 = .ok (.iconst 4, 1) := by decide +kernel
theorem dX7_isLine_78 : decode cX7_isLine 78 = .ok (.goto 51, 3) := by decide +kernel
theorem dX7_isLine_81 : decode cX7_isLine 81 = .ok (.aload_n 0, 1) := by decide +kernel
theorem dX7_isLine_82 : decode cX7_isLine 82 = .ok (.getfield 91, 3) := by decide +kernel
theorem dX7_isLine_85 : decode cX7_isLine 85 = .ok (.ldc2_w 141, 3) := by decide +kernel
theorem dX7_isLine_88 : decode cX7_isLine 88 = .ok (.lcmp, 1) := by decide +kernel
theorem dX7_isLine_89 : decode cX7_isLine 89 = .ok (.ifCond .ne 7, 3) := by decide +kernel
theorem dX7_isLine_92 : decode cX7_isLine 92 = .ok (.iconst 5, 1) := by decide +kernel
theorem dX7_isLine_93 : decode cX7_isLine 93 = .ok (.goto 36, 3) := by decide +kernel
theorem dX7_isLine_96 : decode cX7_isLine 96 = .ok (.aload_n 0, 1) := by decide +kernel
theorem dX7_isLine_97 : decode cX7_isLine 97 = .ok (.getfield 91, 3) := by decide +kernel
theorem dX7_isLine_100 : decode cX7_isLine 100 = .ok (.ldc2_w 143, 3) := by decide +kernel
theorem dX7_isLine_103 : decode cX7_isLine 103 = .ok (.lcmp, 1) := by decide +kernel
theorem dX7_isLine_104 : decode cX7_isLine 104 = .ok (.ifCond .ne 8, 3) := by decide +kernel
theorem dX7_isLine_107 : decode cX7_isLine 107 = .ok (.bipush 6, 2) := by decide +kernel
theorem dX7_isLine_109 : decode cX7_isLine 109 = .ok (.goto 20, 3) := by decide +kernel
theorem dX7_isLine_112 : decode cX7_isLine 112 = .ok (.aload_n 0, 1) := by decide +kernel
theorem dX7_isLine_113 : decode cX7_isLine 113 = .ok (.getfield 91, 3) := by decide +kernel
theorem dX7_isLine_116 : decode cX7_isLine 116 = .ok (.ldc2_w 145, 3) := by decide +kernel
theorem dX7_isLine_119 : decode cX7_isLine 119 = .ok (.lcmp, 1) := by decide +kernel
theorem dX7_isLine_120 : decode cX7_isLine 120 = .ok (.ifCond .ne 8, 3) := by decide +kernel
theorem dX7_isLine_123 : decode cX7_isLine 123 = .ok (.bipush 7, 2) := by decide +kernel
theorem dX7_isLine_125 : decode cX7_isLine 125 = .ok (.goto 4, 3) := by decide +kernel
theorem dX7_isLine_128 : decode cX7_isLine 128 = .ok (.iconst (-1), 1) := by decide +kernel
theorem dX7_isLine_129 : decode cX7_isLine 129 = .ok (.istore_n 3, 1) := by decide +kernel
theorem dX7_isLine_130 : decode cX7_isLine 130 = .ok (.aload_n 0, 1) := by decide +kernel
theorem dX7_isLine_131 : decode cX7_isLine 131 = .ok (.getfield 26, 3) := by decide +kernel
theorem dX7_isLine_134 : decode cX7_isLine 134 = .ok (.iload_n 1, 1) := by decide +kernel
theorem dX7_isLine_135 : decode cX7_isLine 135 = .ok (.iload_n 2, 1) := by decide +kernel
theorem dX7_isLine_136 : decode cX7_isLine 136 = .ok (.iconst (-1), 1) := by decide +kernel
theorem dX7_isLine_137 : decode cX7_isLine 137 = .ok (.if_icmp .ne 7, 3) := by decide +kernel
theorem dX7_isLine_140 : decode cX7_isLine 140 = .ok (.iload_n 3, 1) := by decide +kernel
theorem dX7_isLine_141 : decode cX7_isLine 141 = .ok (.goto 4, 3) := by decide +kernel
theorem dX7_isLine_144 : decode cX7_isLine 144 = .ok (.iload_n 2, 1) := by decide +kernel
theorem dX7_isLine_145 : decode cX7_isLine 145 = .ok (.iastore, 1) := by decide +kernel
theorem dX7_isLine_146 : decode cX7_isLine 146 = .ok (.aload_n 0, 1) := by decide +kernel
theorem dX7_isLine_147 : decode cX7_isLine 147 = .ok (.getfield 26, 3) := by decide +kernel
theorem dX7_isLine_150 : decode cX7_isLine 150 = .ok (.iload_n 1, 1) := by decide +kernel
theorem dX7_isLine_151 : decode cX7_isLine 151 = .ok (.iaload, 1) := by decide +kernel
theorem dX7_isLine_152 : decode cX7_isLine 152 = .ok (.tableswitch 154 0 7 #[48, 48, 48, 54, 61, 67, 133, 143], 48) := by decide +kernel
theorem dX7_isLine_200 : decode cX7_isLine 200 = .ok (.aload_n 0, 1) := by decide +kernel
theorem dX7_isLine_201 : decode cX7_isLine 201 = .ok (.iload_n 1, 1) := by decide +kernel
theorem dX7_isLine_202 : decode cX7_isLine 202 = .ok (.invokevirtual 147, 3) := by decide +kernel
theorem dX7_isLine_205 : decode cX7_isLine 205 = .ok (.ireturn, 1) := by decide +kernel
theorem dX7_isLine_206 : decode cX7_isLine 206 = .ok (.aload_n 0, 1) := by decide +kernel
theorem dX7_isLine_207 : decode cX7_isLine 207 = .ok (.iconst 0, 1) := by decide +kernel
theorem dX7_isLine_208 : decode cX7_isLine 208 = .ok (.putfield 125, 3) := by decide +kernel
theorem dX7_isLine_211 : decode cX7_isLine 211 = .ok (.iconst 1, 1) := by decide +kernel
theorem dX7_isLine_212 : decode cX7_isLine 212 = .ok (.ireturn, 1) := by decide +kernel
theorem dX7_isLine_213 : decode cX7_isLine 213 = .ok (.aload_n 0, 1) := by decide +kernel
theorem dX7_isLine_214 : decode cX7_isLine 214 = .ok (.iload_n 1, 1) := by decide +kernel
theorem dX7_isLine_215 : decode cX7_isLine 215 = .ok (.invokevirtual 151, 3) := by decide +kernel
theorem dX7_isLine_218 : decode cX7_isLine 218 = .ok (.ireturn, 1) := by decide +kernel
theorem dX7_isLine_219 : decode cX7_isLine 219 = .ok (.aload_n 0, 1) := by decide +kernel
theorem dX7_isLine_220 : decode cX7_isLine 220 = .ok (.iload_n 1, 1) := by decide +kernel
theorem dX7_isLine_221 : decode cX7_isLine 221 = .ok (.iconst 1, 1) := by decide +kernel
theorem dX7_isLine_222 : decode cX7_isLine 222 = .ok (.iadd, 1) := by decide +kernel
theorem dX7_isLine_223 : decode cX7_isLine 223 = .ok (.iconst 0, 1) := by decide +kernel
theorem dX7_isLine_224 : decode cX7_isLine 224 = .ok (.iconst 3, 1) := by decide +kernel
theorem dX7_isLine_225 : decode cX7_isLine 225 = .ok (.invokevirtual 128, 3) := by decide +kernel
theorem dX7_isLine_228 : decode cX7_isLine 228 = .ok (.ifCond .eq 55, 3) := by decide +kernel
theorem dX7_isLine_231 : decode cX7_isLine 231 = .ok (.aload_n 0, 1) := by decide +kernel
theorem dX7_isLine_232 : decode cX7_isLine 232 = .ok (.iload_n 1, 1) := by decide +kernel
theorem dX7_isLine_233 : decode cX7_isLine 233 = .ok (.iconst 2, 1) := by decide +kernel
theorem dX7_isLine_234 : decode cX7_isLine 234 = .ok (.iadd, 1) := by decide +kernel
theorem dX7_isLine_235 : decode cX7_isLine 235 = .ok (.iconst 1, 1) := by decide +kernel
theorem dX7_isLine_236 : decode cX7_isLine 236 = .ok (.bipush 60, 2) := by decide +kernel
theorem dX7_isLine_238 : decode cX7_isLine 238 = .ok (.invokevirtual 128, 3) := by decide +kernel
theorem dX7_isLine_241 : decode cX7_isLine 241 = .ok (.ifCond .eq 42, 3) := by decide +kernel
theorem dX7_isLine_244 : decode cX7_isLine 244 = .ok (.aload_n 0, 1) := by decide +kernel
theorem dX7_isLine_245 : decode cX7_isLine 245 = .ok (.iload_n 1, 1) := by decide +kernel
theorem dX7_isLine_246 : decode cX7_isLine 246 = .ok (.iconst 3, 1) := by decide +kernel
theorem dX7_isLine_247 : decode cX7_isLine 247 = .ok (.iadd, 1) := by decide +kernel
theorem dX7_isLine_248 : decode cX7_isLine 248 = .ok (.iconst 1, 1) := by decide +kernel
theorem dX7_isLine_249 : decode cX7_isLine 249 = .ok (.iconst 5, 1) := by decide +kernel
theorem dX7_isLine_250 : decode cX7_isLine 250 = .ok (.invokevirtual 128, 3) := by decide +kernel
theorem dX7_isLine_253 : decode cX7_isLine 253 = .ok (.ifCond .eq 30, 3) := by decide +kernel
theorem dX7_isLine_256 : decode cX7_isLine 256 = .ok (.aload_n 0, 1) := by decide +kernel
theorem dX7_isLine_257 : decode cX7_isLine 257 = .ok (.iload_n 1, 1) := by decide +kernel
theorem dX7_isLine_258 : decode cX7_isLine 258 = .ok (.iconst 4, 1) := by decide +kernel
theorem dX7_isLine_259 : decode cX7_isLine 259 = .ok (.iadd, 1) := by decide +kernel
theorem dX7_isLine_260 : decode cX7_isLine 260 = .ok (.invokevirtual 154, 3) := by decide +kernel
theorem dX7_isLine_263 : decode cX7_isLine 263 = .ok (.ifCond .eq 20, 3) := by decide +kernel
theorem dX7_isLine_266 : decode cX7_isLine 266 = .ok (.aload_n 0, 1) := by decide +kernel
theorem dX7_isLine_267 : decode cX7_isLine 267 = .ok (.iload_n 1, 1) := by decide +kernel
theorem dX7_isLine_268 : decode cX7_isLine 268 = .ok (.iconst 5, 1) := by decide +kernel
theorem dX7_isLine_269 : decode cX7_isLine 269 = .ok (.iadd, 1) := by decide +kernel
theorem dX7_isLine_270 : decode cX7_isLine 270 = .ok (.iconst 0, 1) := by decide +kernel
theorem dX7_isLine_271 : decode cX7_isLine 271 = .ok (.bipush 99, 2) := by decide +kernel
theorem dX7_isLine_273 : decode cX7_isLine 273 = .ok (.invokevirtual 128, 3) := by decide +kernel
theorem dX7_isLine_276 : decode cX7_isLine 276 = .ok (.ifCond .eq 7, 3) := by decide +kernel
theorem dX7_isLine_279 : decode cX7_isLine 279 = .ok (.iconst 1, 1) := by decide +kernel
theorem dX7_isLine_280 : decode cX7_isLine 280 = .ok (.goto 4, 3) := by decide +kernel
theorem dX7_isLine_283 : decode cX7_isLine 283 = .ok (.iconst 0, 1) := by decide +kernel
theorem dX7_isLine_284 : decode cX7_isLine 284 = .ok (.ireturn, 1) := by decide +kernel
theorem dX7_isLine_285 : decode cX7_isLine 285 = .ok (.aload_n 0, 1) := by decide +kernel
theorem dX7_isLine_286 : decode cX7_isLine 286 = .ok (.iload_n 1, 1) := by decide +kernel
theorem dX7_isLine_287 : decode cX7_isLine 287 = .ok (.iconst 1, 1) := by decide +kernel
theorem dX7_isLine_288 : decode cX7_isLine 288 = .ok (.iadd, 1) := by decide +kernel
theorem dX7_isLine_289 : decode cX7_isLine 289 = .ok (.iconst 0, 1) := by decide +kernel
theorem dX7_isLine_290 : decode cX7_isLine 290 = .ok (.iconst 3, 1) := by decide +kernel
theorem dX7_isLine_291 : decode cX7_isLine 291 = .ok (.invokevirtual 128, 3) := by decide +kernel
theorem dX7_isLine_294 : decode cX7_isLine 294 = .ok (.ireturn, 1) := by decide +kernel
theorem dX7_isLine_295 : decode cX7_isLine 295 = .ok (.aload_n 0, 1) := by decide +kernel
theorem dX7_isLine_296 : decode cX7_isLine 296 = .ok (.iload_n 1, 1) := by decide +kernel
theorem dX7_isLine_297 : decode cX7_isLine 297 = .ok (.iconst 1, 1) := by decide +kernel
theorem dX7_isLine_298 : decode cX7_isLine 298 = .ok (.iadd, 1) := by decide +kernel
theorem dX7_isLine_299 : decode cX7_isLine 299 = .ok (.iconst 0, 1) := by decide +kernel
theorem dX7_isLine_300 : decode cX7_isLine 300 = .ok (.bipush 9, 2) := by decide +kernel
theorem dX7_isLine_302 : decode cX7_isLine 302 = .ok (.invokevirtual 128, 3) := by decide +kernel
theorem dX7_isLine_305 : decode cX7_isLine 305 = .ok (.ireturn, 1) := by decide +kernel
theorem dX7_isLine_306 : decode cX7_isLine 306 = .ok (.aload_n 0, 1) := by decide +kernel
theorem dX7_isLine_307 : decode cX7_isLine 307 = .ok (.invokevirtual 111, 3) := by decide +kernel
theorem dX7_isLine_310 : decode cX7_isLine 310 = .ok (.ireturn, 1) := by decide +kernel
theorem dX7_isRead_0 : decode cX7_isRead 0 = .ok (.aload_n 0, 1) := by decide +kernel
theorem dX7_isRead_1 : decode cX7_isRead 1 = .ok (.iconst 0, 1) := by decide +kernel
theorem dX7_isRead_2 : decode cX7_isRead 2 = .ok (.putfield 77, 3) := by decide +kernel
theorem dX7_isRead_5 : decode cX7_isRead 5 = .ok (.aload_n 0, 1) := by decide +kernel
theorem dX7_isRead_6 : decode cX7_isRead 6 = .ok (.iconst 0, 1) := by decide +kernel
theorem dX7_isRead_7 : decode cX7_isRead 7 = .ok (.putfield 157, 3) := by decide +kernel
theorem dX7_isRead_10 : decode cX7_isRead 10 = .ok (.aload_n 0, 1) := by decide +kernel
theorem dX7_isRead_11 : decode cX7_isRead 11 = .ok (.aload_n 0, 1) := by decide +kernel
theorem dX7_isRead_12 : decode cX7_isRead 12 = .ok (.getfield 160, 3) := by decide +kernel
theorem dX7_isRead_15 : decode cX7_isRead 15 = .ok (.putfield 125, 3) := by decide +kernel
theorem dX7_isRead_18 : decode cX7_isRead 18 = .ok (.iconst 1, 1) := by decide +kernel
theorem dX7_isRead_19 : decode cX7_isRead 19 = .ok (.istore_n 1, 1) := by decide +kernel
theorem dX7_isRead_20 : decode cX7_isRead 20 = .ok (.iload_n 1, 1) := by decide +kernel
theorem dX7_isRead_21 : decode cX7_isRead 21 = .ok (.ifCond .eq 62, 3) := by decide +kernel
theorem dX7_isRead_24 : decode cX7_isRead 24 = .ok (.aload_n 0, 1) := by decide +kernel
theorem dX7_isRead_25 : decode cX7_isRead 25 = .ok (.bipush 6, 2) := by decide +kernel
theorem dX7_isRead_27 : decode cX7_isRead 27 = .ok (.aload_n 0, 1) := by decide +kernel
theorem dX7_isRead_28 : decode cX7_isRead 28 = .ok (.getfield 157, 3) := by decide +kernel
theorem dX7_isRead_31 : decode cX7_isRead 31 = .ok (.imul, 1) := by decide +kernel
theorem dX7_isRead_32 : decode cX7_isRead 32 = .ok (.invokevirtual 163, 3) := by decide +kernel
theorem dX7_isRead_35 : decode cX7_isRead 35 = .ok (.ifCond .ne 5, 3) := by decide +kernel
theorem dX7_isRead_38 : decode cX7_isRead 38 = .ok (.iconst 0, 1) := by decide +kernel
theorem dX7_isRead_39 : decode cX7_isRead 39 = .ok (.ireturn, 1) := by decide +kernel
theorem dX7_isRead_40 : decode cX7_isRead 40 = .ok (.aload_n 0, 1) := by decide +kernel
theorem dX7_isRead_41 : decode cX7_isRead 41 = .ok (.dup, 1) := by decide +kernel
theorem dX7_isRead_42 : decode cX7_isRead 42 = .ok (.getfield 157, 3) := by decide +kernel
theorem dX7_isRead_45 : decode cX7_isRead 45 = .ok (.iconst 1, 1) := by decide +kernel
theorem dX7_isRead_46 : decode cX7_isRead 46 = .ok (.iadd, 1) := by decide +kernel
theorem dX7_isRead_47 : decode cX7_isRead 47 = .ok (.putfield 157, 3) := by decide +kernel
theorem dX7_isRead_50 : decode cX7_isRead 50 = .ok (.aload_n 0, 1) := by decide +kernel
theorem dX7_isRead_51 : decode cX7_isRead 51 = .ok (.invokevirtual 108, 3) := by decide +kernel
theorem dX7_isRead_54 : decode cX7_isRead 54 = .ok (.aload_n 0, 1) := by decide +kernel
theorem dX7_isRead_55 : decode cX7_isRead 55 = .ok (.getfield 91, 3) := by decide +kernel
theorem dX7_isRead_58 : decode cX7_isRead 58 = .ok (.ldc2_w 103, 3) := by decide +kernel
theorem dX7_isRead_61 : decode cX7_isRead 61 = .ok (.lcmp, 1) := by decide +kernel
theorem dX7_isRead_62 : decode cX7_isRead 62 = .ok (.ifCond .ne 16, 3) := by decide +kernel
theorem dX7_isRead_65 : decode cX7_isRead 65 = .ok (.aload_n 0, 1) := by decide +kernel
theorem dX7_isRead_66 : decode cX7_isRead 66 = .ok (.getfield 157, 3) := by decide +kernel
theorem dX7_isRead_69 : decode cX7_isRead 69 = .ok (.bipush 8, 2) := by decide +kernel
theorem dX7_isRead_71 : decode cX7_isRead 71 = .ok (.if_icmp .ge 7, 3) := by decide +kernel
theorem dX7_isRead_74 : decode cX7_isRead 74 = .ok (.iconst 1, 1) := by decide +kernel
theorem dX7_isRead_75 : decode cX7_isRead 75 = .ok (.goto 4, 3) := by decide +kernel
theorem dX7_isRead_78 : decode cX7_isRead 78 = .ok (.iconst 0, 1) := by decide +kernel
theorem dX7_isRead_79 : decode cX7_isRead 79 = .ok (.istore_n 1, 1) := by decide +kernel
theorem dX7_isRead_80 : decode cX7_isRead 80 = .ok (.goto (-60), 3) := by decide +kernel
theorem dX7_isRead_83 : decode cX7_isRead 83 = .ok (.aload_n 0, 1) := by decide +kernel
theorem dX7_isRead_84 : decode cX7_isRead 84 = .ok (.getfield 91, 3) := by decide +kernel
theorem dX7_isRead_87 : decode cX7_isRead 87 = .ok (.ldc2_w 89, 3) := by decide +kernel
theorem dX7_isRead_90 : decode cX7_isRead 90 = .ok (.lcmp, 1) := by decide +kernel
theorem dX7_isRead_91 : decode cX7_isRead 91 = .ok (.ifCond .eq 10, 3) := by decide +kernel
theorem dX7_isRead_94 : decode cX7_isRead 94 = .ok (.aload_n 0, 1) := by decide +kernel
theorem dX7_isRead_95 : decode cX7_isRead 95 = .ok (.invokevirtual 111, 3) := by decide +kernel
theorem dX7_isRead_98 : decode cX7_isRead 98 = .ok (.ifCond .eq 7, 3) := by decide +kernel
theorem dX7_isRead_101 : decode cX7_isRead 101 = .ok (.iconst 1, 1) := by decide +kernel
theorem dX7_isRead_102 : decode cX7_isRead 102 = .ok (.goto 4, 3) := by decide +kernel
theorem dX7_isRead_105 : decode cX7_isRead 105 = .ok (.iconst 0, 1) := by decide +kernel
theorem dX7_isRead_106 : decode cX7_isRead 106 = .ok (.ireturn, 1) := by decide +kernel
theorem dX7_fault_0 : decode cX7_fault 0 = .ok (.aload_n 0, 1) := by decide +kernel
theorem dX7_fault_1 : decode cX7_fault 1 = .ok (.invokevirtual 166, 3) := by decide +kernel
theorem dX7_fault_4 : decode cX7_fault 4 = .ok (.ifCond .eq 7, 3) := by decide +kernel
theorem dX7_fault_7 : decode cX7_fault 7 = .ok (.iconst (-1), 1) := by decide +kernel
theorem dX7_fault_8 : decode cX7_fault 8 = .ok (.goto 7, 3) := by decide +kernel
theorem dX7_fault_11 : decode cX7_fault 11 = .ok (.aload_n 0, 1) := by decide +kernel
theorem dX7_fault_12 : decode cX7_fault 12 = .ok (.getfield 105, 3) := by decide +kernel
theorem dX7_fault_15 : decode cX7_fault 15 = .ok (.ireturn, 1) := by decide +kernel
theorem dX7_doLine_0 : decode cX7_doLine 0 = .ok (.aload_n 0, 1) := by decide +kernel
theorem dX7_doLine_1 : decode cX7_doLine 1 = .ok (.getfield 26, 3) := by decide +kernel
theorem dX7_doLine_4 : decode cX7_doLine 4 = .ok (.iload_n 1, 1) := by decide +kernel
theorem dX7_doLine_5 : decode cX7_doLine 5 = .ok (.iconst 1, 1) := by decide +kernel
theorem dX7_doLine_6 : decode cX7_doLine 6 = .ok (.iadd, 1) := by decide +kernel
theorem dX7_doLine_7 : decode cX7_doLine 7 = .ok (.iaload, 1) := by decide +kernel
theorem dX7_doLine_8 : decode cX7_doLine 8 = .ok (.istore_n 2, 1) := by decide +kernel
theorem dX7_doLine_9 : decode cX7_doLine 9 = .ok (.aload_n 0, 1) := by decide +kernel
theorem dX7_doLine_10 : decode cX7_doLine 10 = .ok (.getfield 26, 3) := by decide +kernel
theorem dX7_doLine_13 : decode cX7_doLine 13 = .ok (.iload_n 1, 1) := by decide +kernel
theorem dX7_doLine_14 : decode cX7_doLine 14 = .ok (.iaload, 1) := by decide +kernel
theorem dX7_doLine_15 : decode cX7_doLine 15 = .ok (.tableswitch 188 3 7 #[33, 41, 115, 163, 180], 33) := by decide +kernel
theorem dX7_doLine_48 : decode cX7_doLine 48 = .ok (.aload_n 0, 1) := by decide +kernel
theorem dX7_doLine_49 : decode cX7_doLine 49 = .ok (.iconst 0, 1) := by decide +kernel
theorem dX7_doLine_50 : decode cX7_doLine 50 = .ok (.putfield 160, 3) := by decide +kernel
theorem dX7_doLine_53 : decode cX7_doLine 53 = .ok (.goto 212, 3) := by decide +kernel
theorem dX7_doLine_56 : decode cX7_doLine 56 = .ok (.aload_n 0, 1) := by decide +kernel
theorem dX7_doLine_57 : decode cX7_doLine 57 = .ok (.getfield 26, 3) := by decide +kernel
theorem dX7_doLine_60 : decode cX7_doLine 60 = .ok (.iload_n 1, 1) := by decide +kernel
theorem dX7_doLine_61 : decode cX7_doLine 61 = .ok (.iconst 2, 1) := by decide +kernel
theorem dX7_doLine_62 : decode cX7_doLine 62 = .ok (.iadd, 1) := by decide +kernel
theorem dX7_doLine_63 : decode cX7_doLine 63 = .ok (.iaload, 1) := by decide +kernel
theorem dX7_doLine_64 : decode cX7_doLine 64 = .ok (.istore_n 3, 1) := by decide +kernel
theorem dX7_doLine_65 : decode cX7_doLine 65 = .ok (.iload_n 3, 1) := by decide +kernel
theorem dX7_doLine_66 : decode cX7_doLine 66 = .ok (.aload_n 0, 1) := by decide +kernel
theorem dX7_doLine_67 : decode cX7_doLine 67 = .ok (.getfield 26, 3) := by decide +kernel
theorem dX7_doLine_70 : decode cX7_doLine 70 = .ok (.iload_n 1, 1) := by decide +kernel
theorem dX7_doLine_71 : decode cX7_doLine 71 = .ok (.iconst 3, 1) := by decide +kernel
theorem dX7_doLine_72 : decode cX7_doLine 72 = .ok (.iadd, 1) := by decide +kernel
theorem dX7_doLine_73 : decode cX7_doLine 73 = .ok (.iaload, 1) := by decide +kernel
theorem dX7_doLine_74 : decode cX7_doLine 74 = .ok (.if_icmp .gt 53, 3) := by decide +kernel
theorem dX7_doLine_77 : decode cX7_doLine 77 = .ok (.aload_n 0, 1) := by decide +kernel
theorem dX7_doLine_78 : decode cX7_doLine 78 = .ok (.getfield 13, 3) := by decide +kernel
theorem dX7_doLine_81 : decode cX7_doLine 81 = .ok (.bipush 48, 2) := by decide +kernel
theorem dX7_doLine_83 : decode cX7_doLine 83 = .ok (.iload_n 2, 1) := by decide +kernel
theorem dX7_doLine_84 : decode cX7_doLine 84 = .ok (.imul, 1) := by decide +kernel
theorem dX7_doLine_85 : decode cX7_doLine 85 = .ok (.iconst 2, 1) := by decide +kernel
theorem dX7_doLine_86 : decode cX7_doLine 86 = .ok (.iload_n 3, 1) := by decide +kernel
theorem dX7_doLine_87 : decode cX7_doLine 87 = .ok (.imul, 1) := by decide +kernel
theorem dX7_doLine_88 : decode cX7_doLine 88 = .ok (.iadd, 1) := by decide +kernel
theorem dX7_doLine_89 : decode cX7_doLine 89 = .ok (.aload_n 0, 1) := by decide +kernel
theorem dX7_doLine_90 : decode cX7_doLine 90 = .ok (.getfield 26, 3) := by decide +kernel
theorem dX7_doLine_93 : decode cX7_doLine 93 = .ok (.iload_n 1, 1) := by decide +kernel
theorem dX7_doLine_94 : decode cX7_doLine 94 = .ok (.iconst 4, 1) := by decide +kernel
theorem dX7_doLine_95 : decode cX7_doLine 95 = .ok (.iadd, 1) := by decide +kernel
theorem dX7_doLine_96 : decode cX7_doLine 96 = .ok (.iaload, 1) := by decide +kernel
theorem dX7_doLine_97 : decode cX7_doLine 97 = .ok (.iastore, 1) := by decide +kernel
theorem dX7_doLine_98 : decode cX7_doLine 98 = .ok (.aload_n 0, 1) := by decide +kernel
theorem dX7_doLine_99 : decode cX7_doLine 99 = .ok (.getfield 13, 3) := by decide +kernel
theorem dX7_doLine_102 : decode cX7_doLine 102 = .ok (.bipush 48, 2) := by decide +kernel
theorem dX7_doLine_104 : decode cX7_doLine 104 = .ok (.iload_n 2, 1) := by decide +kernel
theorem dX7_doLine_105 : decode cX7_doLine 105 = .ok (.imul, 1) := by decide +kernel
theorem dX7_doLine_106 : decode cX7_doLine 106 = .ok (.iconst 2, 1) := by decide +kernel
theorem dX7_doLine_107 : decode cX7_doLine 107 = .ok (.iload_n 3, 1) := by decide +kernel
theorem dX7_doLine_108 : decode cX7_doLine 108 = .ok (.imul, 1) := by decide +kernel
theorem dX7_doLine_109 : decode cX7_doLine 109 = .ok (.iadd, 1) := by decide +kernel
theorem dX7_doLine_110 : decode cX7_doLine 110 = .ok (.iconst 1, 1) := by decide +kernel
theorem dX7_doLine_111 : decode cX7_doLine 111 = .ok (.iadd, 1) := by decide +kernel
theorem dX7_doLine_112 : decode cX7_doLine 112 = .ok (.aload_n 0, 1) := by decide +kernel
theorem dX7_doLine_113 : decode cX7_doLine 113 = .ok (.getfield 26, 3) := by decide +kernel
theorem dX7_doLine_116 : decode cX7_doLine 116 = .ok (.iload_n 1, 1) := by decide +kernel
theorem dX7_doLine_117 : decode cX7_doLine 117 = .ok (.iconst 5, 1) := by decide +kernel
theorem dX7_doLine_118 : decode cX7_doLine 118 = .ok (.iadd, 1) := by decide +kernel
theorem dX7_doLine_119 : decode cX7_doLine 119 = .ok (.iaload, 1) := by decide +kernel
theorem dX7_doLine_120 : decode cX7_doLine 120 = .ok (.iastore, 1) := by decide +kernel
theorem dX7_doLine_121 : decode cX7_doLine 121 = .ok (.iinc 3 1, 3) := by decide +kernel
theorem dX7_doLine_124 : decode cX7_doLine 124 = .ok (.goto (-59), 3) := by decide +kernel
theorem dX7_doLine_127 : decode cX7_doLine 127 = .ok (.goto 138, 3) := by decide +kernel
theorem dX7_doLine_130 : decode cX7_doLine 130 = .ok (.aload_n 0, 1) := by decide +kernel
theorem dX7_doLine_131 : decode cX7_doLine 131 = .ok (.aload_n 0, 1) := by decide +kernel
theorem dX7_doLine_132 : decode cX7_doLine 132 = .ok (.getfield 65, 3) := by decide +kernel
theorem dX7_doLine_135 : decode cX7_doLine 135 = .ok (.iconst 1, 1) := by decide +kernel
theorem dX7_doLine_136 : decode cX7_doLine 136 = .ok (.iload_n 2, 1) := by decide +kernel
theorem dX7_doLine_137 : decode cX7_doLine 137 = .ok (.ishl, 1) := by decide +kernel
theorem dX7_doLine_138 : decode cX7_doLine 138 = .ok (.ior, 1) := by decide +kernel
theorem dX7_doLine_139 : decode cX7_doLine 139 = .ok (.putfield 65, 3) := by decide +kernel
theorem dX7_doLine_142 : decode cX7_doLine 142 = .ok (.iconst 0, 1) := by decide +kernel
theorem dX7_doLine_143 : decode cX7_doLine 143 = .ok (.istore_n 3, 1) := by decide +kernel
theorem dX7_doLine_144 : decode cX7_doLine 144 = .ok (.iload_n 3, 1) := by decide +kernel
theorem dX7_doLine_145 : decode cX7_doLine 145 = .ok (.iconst 4, 1) := by decide +kernel
theorem dX7_doLine_146 : decode cX7_doLine 146 = .ok (.if_icmp .ge 29, 3) := by decide +kernel
theorem dX7_doLine_149 : decode cX7_doLine 149 = .ok (.aload_n 0, 1) := by decide +kernel
theorem dX7_doLine_150 : decode cX7_doLine 150 = .ok (.getfield 20, 3) := by decide +kernel
theorem dX7_doLine_153 : decode cX7_doLine 153 = .ok (.iconst 4, 1) := by decide +kernel
theorem dX7_doLine_154 : decode cX7_doLine 154 = .ok (.iload_n 2, 1) := by decide +kernel
theorem dX7_doLine_155 : decode cX7_doLine 155 = .ok (.imul, 1) := by decide +kernel
theorem dX7_doLine_156 : decode cX7_doLine 156 = .ok (.iload_n 3, 1) := by decide +kernel
theorem dX7_doLine_157 : decode cX7_doLine 157 = .ok (.iadd, 1) := by decide +kernel
theorem dX7_doLine_158 : decode cX7_doLine 158 = .ok (.aload_n 0, 1) := by decide +kernel
theorem dX7_doLine_159 : decode cX7_doLine 159 = .ok (.getfield 26, 3) := by decide +kernel
theorem dX7_doLine_162 : decode cX7_doLine 162 = .ok (.iload_n 1, 1) := by decide +kernel
theorem dX7_doLine_163 : decode cX7_doLine 163 = .ok (.iconst 2, 1) := by decide +kernel
theorem dX7_doLine_164 : decode cX7_doLine 164 = .ok (.iadd, 1) := by decide +kernel
theorem dX7_doLine_165 : decode cX7_doLine 165 = .ok (.iload_n 3, 1) := by decide +kernel
theorem dX7_doLine_166 : decode cX7_doLine 166 = .ok (.iadd, 1) := by decide +kernel
theorem dX7_doLine_167 : decode cX7_doLine 167 = .ok (.iaload, 1) := by decide +kernel
theorem dX7_doLine_168 : decode cX7_doLine 168 = .ok (.iastore, 1) := by decide +kernel
theorem dX7_doLine_169 : decode cX7_doLine 169 = .ok (.iinc 3 1, 3) := by decide +kernel
theorem dX7_doLine_172 : decode cX7_doLine 172 = .ok (.goto (-28), 3) := by decide +kernel
theorem dX7_doLine_175 : decode cX7_doLine 175 = .ok (.goto 90, 3) := by decide +kernel
theorem dX7_doLine_178 : decode cX7_doLine 178 = .ok (.aload_n 0, 1) := by decide +kernel
theorem dX7_doLine_179 : decode cX7_doLine 179 = .ok (.aload_n 0, 1) := by decide +kernel
theorem dX7_doLine_180 : decode cX7_doLine 180 = .ok (.getfield 65, 3) := by decide +kernel
theorem dX7_doLine_183 : decode cX7_doLine 183 = .ok (.iconst 1, 1) := by decide +kernel
theorem dX7_doLine_184 : decode cX7_doLine 184 = .ok (.iload_n 2, 1) := by decide +kernel
theorem dX7_doLine_185 : decode cX7_doLine 185 = .ok (.ishl, 1) := by decide +kernel
theorem dX7_doLine_186 : decode cX7_doLine 186 = .ok (.iconst (-1), 1) := by decide +kernel
theorem dX7_doLine_187 : decode cX7_doLine 187 = .ok (.ixor, 1) := by decide +kernel
theorem dX7_doLine_188 : decode cX7_doLine 188 = .ok (.iand, 1) := by decide +kernel
theorem dX7_doLine_189 : decode cX7_doLine 189 = .ok (.putfield 65, 3) := by decide +kernel
theorem dX7_doLine_192 : decode cX7_doLine 192 = .ok (.goto 73, 3) := by decide +kernel
theorem dX7_doLine_195 : decode cX7_doLine 195 = .ok (.aload_n 0, 1) := by decide +kernel
theorem dX7_doLine_196 : decode cX7_doLine 196 = .ok (.iload_n 2, 1) := by decide +kernel
theorem dX7_doLine_197 : decode cX7_doLine 197 = .ok (.putfield 16, 3) := by decide +kernel
theorem dX7_doLine_200 : decode cX7_doLine 200 = .ok (.goto 65, 3) := by decide +kernel
theorem dX7_doLine_203 : decode cX7_doLine 203 = .ok (.aload_n 0, 1) := by decide +kernel
theorem dX7_doLine_204 : decode cX7_doLine 204 = .ok (.getfield 7, 3) := by decide +kernel
theorem dX7_doLine_207 : decode cX7_doLine 207 = .ok (.iconst 3, 1) := by decide +kernel
theorem dX7_doLine_208 : decode cX7_doLine 208 = .ok (.aload_n 0, 1) := by decide +kernel
theorem dX7_doLine_209 : decode cX7_doLine 209 = .ok (.getfield 160, 3) := by decide +kernel
theorem dX7_doLine_212 : decode cX7_doLine 212 = .ok (.imul, 1) := by decide +kernel
theorem dX7_doLine_213 : decode cX7_doLine 213 = .ok (.iload_n 2, 1) := by decide +kernel
theorem dX7_doLine_214 : decode cX7_doLine 214 = .ok (.iastore, 1) := by decide +kernel
theorem dX7_doLine_215 : decode cX7_doLine 215 = .ok (.aload_n 0, 1) := by decide +kernel
theorem dX7_doLine_216 : decode cX7_doLine 216 = .ok (.getfield 7, 3) := by decide +kernel
theorem dX7_doLine_219 : decode cX7_doLine 219 = .ok (.iconst 3, 1) := by decide +kernel
theorem dX7_doLine_220 : decode cX7_doLine 220 = .ok (.aload_n 0, 1) := by decide +kernel
theorem dX7_doLine_221 : decode cX7_doLine 221 = .ok (.getfield 160, 3) := by decide +kernel
theorem dX7_doLine_224 : decode cX7_doLine 224 = .ok (.imul, 1) := by decide +kernel
theorem dX7_doLine_225 : decode cX7_doLine 225 = .ok (.iconst 1, 1) := by decide +kernel
theorem dX7_doLine_226 : decode cX7_doLine 226 = .ok (.iadd, 1) := by decide +kernel
theorem dX7_doLine_227 : decode cX7_doLine 227 = .ok (.aload_n 0, 1) := by decide +kernel
theorem dX7_doLine_228 : decode cX7_doLine 228 = .ok (.getfield 26, 3) := by decide +kernel
theorem dX7_doLine_231 : decode cX7_doLine 231 = .ok (.iload_n 1, 1) := by decide +kernel
theorem dX7_doLine_232 : decode cX7_doLine 232 = .ok (.iconst 2, 1) := by decide +kernel
theorem dX7_doLine_233 : decode cX7_doLine 233 = .ok (.iadd, 1) := by decide +kernel
theorem dX7_doLine_234 : decode cX7_doLine 234 = .ok (.iaload, 1) := by decide +kernel
theorem dX7_doLine_235 : decode cX7_doLine 235 = .ok (.iastore, 1) := by decide +kernel
theorem dX7_doLine_236 : decode cX7_doLine 236 = .ok (.aload_n 0, 1) := by decide +kernel
theorem dX7_doLine_237 : decode cX7_doLine 237 = .ok (.getfield 7, 3) := by decide +kernel
theorem dX7_doLine_240 : decode cX7_doLine 240 = .ok (.iconst 3, 1) := by decide +kernel
theorem dX7_doLine_241 : decode cX7_doLine 241 = .ok (.aload_n 0, 1) := by decide +kernel
theorem dX7_doLine_242 : decode cX7_doLine 242 = .ok (.getfield 160, 3) := by decide +kernel
theorem dX7_doLine_245 : decode cX7_doLine 245 = .ok (.imul, 1) := by decide +kernel
theorem dX7_doLine_246 : decode cX7_doLine 246 = .ok (.iconst 2, 1) := by decide +kernel
theorem dX7_doLine_247 : decode cX7_doLine 247 = .ok (.iadd, 1) := by decide +kernel
theorem dX7_doLine_248 : decode cX7_doLine 248 = .ok (.aload_n 0, 1) := by decide +kernel
theorem dX7_doLine_249 : decode cX7_doLine 249 = .ok (.getfield 26, 3) := by decide +kernel
theorem dX7_doLine_252 : decode cX7_doLine 252 = .ok (.iload_n 1, 1) := by decide +kernel
theorem dX7_doLine_253 : decode cX7_doLine 253 = .ok (.iaload, 1) := by decide +kernel
theorem dX7_doLine_254 : decode cX7_doLine 254 = .ok (.iastore, 1) := by decide +kernel
theorem dX7_doLine_255 : decode cX7_doLine 255 = .ok (.aload_n 0, 1) := by decide +kernel
theorem dX7_doLine_256 : decode cX7_doLine 256 = .ok (.dup, 1) := by decide +kernel
theorem dX7_doLine_257 : decode cX7_doLine 257 = .ok (.getfield 160, 3) := by decide +kernel
theorem dX7_doLine_260 : decode cX7_doLine 260 = .ok (.iconst 1, 1) := by decide +kernel
theorem dX7_doLine_261 : decode cX7_doLine 261 = .ok (.iadd, 1) := by decide +kernel
theorem dX7_doLine_262 : decode cX7_doLine 262 = .ok (.putfield 160, 3) := by decide +kernel
theorem dX7_doLine_265 : decode cX7_doLine 265 = .ok (.return_, 1) := by decide +kernel
theorem dX7_start_0 : decode cX7_start 0 = .ok (.aload_n 0, 1) := by decide +kernel
theorem dX7_start_1 : decode cX7_start 1 = .ok (.getfield 160, 3) := by decide +kernel
theorem dX7_start_4 : decode cX7_start 4 = .ok (.ifCond .ne 9, 3) := by decide +kernel
theorem dX7_start_7 : decode cX7_start 7 = .ok (.sipush 160, 3) := by decide +kernel
theorem dX7_start_10 : decode cX7_start 10 = .ok (.goto 4, 3) := by decide +kernel
theorem dX7_start_13 : decode cX7_start 13 = .ok (.iconst 0, 1) := by decide +kernel
theorem dX7_start_14 : decode cX7_start 14 = .ok (.ireturn, 1) := by decide +kernel
theorem dX7_begin_0 : decode cX7_begin 0 = .ok (.iconst 0, 1) := by decide +kernel
theorem dX7_begin_1 : decode cX7_begin 1 = .ok (.istore_n 1, 1) := by decide +kernel
theorem dX7_begin_2 : decode cX7_begin 2 = .ok (.iload_n 1, 1) := by decide +kernel
theorem dX7_begin_3 : decode cX7_begin 3 = .ok (.bipush 21, 2) := by decide +kernel
theorem dX7_begin_5 : decode cX7_begin 5 = .ok (.if_icmp .ge 28, 3) := by decide +kernel
theorem dX7_begin_8 : decode cX7_begin 8 = .ok (.aload_n 0, 1) := by decide +kernel
theorem dX7_begin_9 : decode cX7_begin 9 = .ok (.getfield 29, 3) := by decide +kernel
theorem dX7_begin_12 : decode cX7_begin 12 = .ok (.iload_n 1, 1) := by decide +kernel
theorem dX7_begin_13 : decode cX7_begin 13 = .ok (.iload_n 1, 1) := by decide +kernel
theorem dX7_begin_14 : decode cX7_begin 14 = .ok (.iconst 4, 1) := by decide +kernel
theorem dX7_begin_15 : decode cX7_begin 15 = .ok (.if_icmp .ge 10, 3) := by decide +kernel
theorem dX7_begin_18 : decode cX7_begin 18 = .ok (.aload_n 0, 1) := by decide +kernel
theorem dX7_begin_19 : decode cX7_begin 19 = .ok (.invokevirtual 169, 3) := by decide +kernel
theorem dX7_begin_22 : decode cX7_begin 22 = .ok (.goto 4, 3) := by decide +kernel
theorem dX7_begin_25 : decode cX7_begin 25 = .ok (.iconst 0, 1) := by decide +kernel
theorem dX7_begin_26 : decode cX7_begin 26 = .ok (.iastore, 1) := by decide +kernel
theorem dX7_begin_27 : decode cX7_begin 27 = .ok (.iinc 1 1, 3) := by decide +kernel
theorem dX7_begin_30 : decode cX7_begin 30 = .ok (.goto (-28), 3) := by decide +kernel
theorem dX7_begin_33 : decode cX7_begin 33 = .ok (.return_, 1) := by decide +kernel
theorem dX7_river_0 : decode cX7_river 0 = .ok (.aload_n 0, 1) := by decide +kernel
theorem dX7_river_1 : decode cX7_river 1 = .ok (.invokevirtual 166, 3) := by decide +kernel
theorem dX7_river_4 : decode cX7_river 4 = .ok (.ifCond .ne 6, 3) := by decide +kernel
theorem dX7_river_7 : decode cX7_river 7 = .ok (.bipush (-4), 2) := by decide +kernel
theorem dX7_river_9 : decode cX7_river 9 = .ok (.ireturn, 1) := by decide +kernel
theorem dX7_river_10 : decode cX7_river 10 = .ok (.iconst 0, 1) := by decide +kernel
theorem dX7_river_11 : decode cX7_river 11 = .ok (.istore_n 1, 1) := by decide +kernel
theorem dX7_river_12 : decode cX7_river 12 = .ok (.iload_n 1, 1) := by decide +kernel
theorem dX7_river_13 : decode cX7_river 13 = .ok (.aload_n 0, 1) := by decide +kernel
theorem dX7_river_14 : decode cX7_river 14 = .ok (.getfield 157, 3) := by decide +kernel
theorem dX7_river_17 : decode cX7_river 17 = .ok (.if_icmp .ge 17, 3) := by decide +kernel
theorem dX7_river_20 : decode cX7_river 20 = .ok (.aload_n 0, 1) := by decide +kernel
theorem dX7_river_21 : decode cX7_river 21 = .ok (.bipush 6, 2) := by decide +kernel
theorem dX7_river_23 : decode cX7_river 23 = .ok (.iload_n 1, 1) := by decide +kernel
theorem dX7_river_24 : decode cX7_river 24 = .ok (.imul, 1) := by decide +kernel
theorem dX7_river_25 : decode cX7_river 25 = .ok (.invokevirtual 173, 3) := by decide +kernel
theorem dX7_river_28 : decode cX7_river 28 = .ok (.iinc 1 1, 3) := by decide +kernel
theorem dX7_river_31 : decode cX7_river 31 = .ok (.goto (-19), 3) := by decide +kernel
theorem dX7_river_34 : decode cX7_river 34 = .ok (.aload_n 0, 1) := by decide +kernel
theorem dX7_river_35 : decode cX7_river 35 = .ok (.iconst 0, 1) := by decide +kernel
theorem dX7_river_36 : decode cX7_river 36 = .ok (.putfield 72, 3) := by decide +kernel
theorem dX7_river_39 : decode cX7_river 39 = .ok (.aload_n 0, 1) := by decide +kernel
theorem dX7_river_40 : decode cX7_river 40 = .ok (.invokevirtual 58, 3) := by decide +kernel
theorem dX7_river_43 : decode cX7_river 43 = .ok (.aload_n 0, 1) := by decide +kernel
theorem dX7_river_44 : decode cX7_river 44 = .ok (.getfield 35, 3) := by decide +kernel
theorem dX7_river_47 : decode cX7_river 47 = .ok (.iconst 0, 1) := by decide +kernel
theorem dX7_river_48 : decode cX7_river 48 = .ok (.iconst 0, 1) := by decide +kernel
theorem dX7_river_49 : decode cX7_river 49 = .ok (.bastore, 1) := by decide +kernel
theorem dX7_river_50 : decode cX7_river 50 = .ok (.aload_n 0, 1) := by decide +kernel
theorem dX7_river_51 : decode cX7_river 51 = .ok (.getfield 35, 3) := by decide +kernel
theorem dX7_river_54 : decode cX7_river 54 = .ok (.iconst 1, 1) := by decide +kernel
theorem dX7_river_55 : decode cX7_river 55 = .ok (.iconst 0, 1) := by decide +kernel
theorem dX7_river_56 : decode cX7_river 56 = .ok (.bastore, 1) := by decide +kernel
theorem dX7_river_57 : decode cX7_river 57 = .ok (.aload_n 0, 1) := by decide +kernel
theorem dX7_river_58 : decode cX7_river 58 = .ok (.getfield 157, 3) := by decide +kernel
theorem dX7_river_61 : decode cX7_river 61 = .ok (.ireturn, 1) := by decide +kernel
theorem dX7_isReach_0 : decode cX7_isReach 0 = .ok (.iload_n 1, 1) := by decide +kernel
theorem dX7_isReach_1 : decode cX7_isReach 1 = .ok (.iconst 0, 1) := by decide +kernel
theorem dX7_isReach_2 : decode cX7_isReach 2 = .ok (.aload_n 0, 1) := by decide +kernel
theorem dX7_isReach_3 : decode cX7_isReach 3 = .ok (.getfield 160, 3) := by decide +kernel
theorem dX7_isReach_6 : decode cX7_isReach 6 = .ok (.iconst 1, 1) := by decide +kernel
theorem dX7_isReach_7 : decode cX7_isReach 7 = .ok (.isub, 1) := by decide +kernel
theorem dX7_isReach_8 : decode cX7_isReach 8 = .ok (.invokestatic 61, 3) := by decide +kernel
theorem dX7_isReach_11 : decode cX7_isReach 11 = .ok (.ireturn, 1) := by decide +kernel
theorem dX7_isLayer_0 : decode cX7_isLayer 0 = .ok (.iload_n 0, 1) := by decide +kernel
theorem dX7_isLayer_1 : decode cX7_isLayer 1 = .ok (.iconst 0, 1) := by decide +kernel
theorem dX7_isLayer_2 : decode cX7_isLayer 2 = .ok (.iconst 5, 1) := by decide +kernel
theorem dX7_isLayer_3 : decode cX7_isLayer 3 = .ok (.invokestatic 61, 3) := by decide +kernel
theorem dX7_isLayer_6 : decode cX7_isLayer 6 = .ok (.ireturn, 1) := by decide +kernel
theorem dX7_isHour_0 : decode cX7_isHour 0 = .ok (.iload_n 0, 1) := by decide +kernel
theorem dX7_isHour_1 : decode cX7_isHour 1 = .ok (.iconst 0, 1) := by decide +kernel
theorem dX7_isHour_2 : decode cX7_isHour 2 = .ok (.bipush 23, 2) := by decide +kernel
theorem dX7_isHour_4 : decode cX7_isHour 4 = .ok (.invokestatic 61, 3) := by decide +kernel
theorem dX7_isHour_7 : decode cX7_isHour 7 = .ok (.ireturn, 1) := by decide +kernel
theorem dX7_reach_0 : decode cX7_reach 0 = .ok (.aload_n 0, 1) := by decide +kernel
theorem dX7_reach_1 : decode cX7_reach 1 = .ok (.iload_n 1, 1) := by decide +kernel
theorem dX7_reach_2 : decode cX7_reach 2 = .ok (.invokevirtual 177, 3) := by decide +kernel
theorem dX7_reach_5 : decode cX7_reach 5 = .ok (.ifCond .ne 6, 3) := by decide +kernel
theorem dX7_reach_8 : decode cX7_reach 8 = .ok (.bipush (-2), 2) := by decide +kernel
theorem dX7_reach_10 : decode cX7_reach 10 = .ok (.ireturn, 1) := by decide +kernel
theorem dX7_reach_11 : decode cX7_reach 11 = .ok (.iload_n 2, 1) := by decide +kernel
theorem dX7_reach_12 : decode cX7_reach 12 = .ok (.iconst 0, 1) := by decide +kernel
theorem dX7_reach_13 : decode cX7_reach 13 = .ok (.iconst 2, 1) := by decide +kernel
theorem dX7_reach_14 : decode cX7_reach 14 = .ok (.invokestatic 61, 3) := by decide +kernel
theorem dX7_reach_17 : decode cX7_reach 17 = .ok (.ifCond .eq 16, 3) := by decide +kernel
theorem dX7_reach_20 : decode cX7_reach 20 = .ok (.aload_n 0, 1) := by decide +kernel
theorem dX7_reach_21 : decode cX7_reach 21 = .ok (.getfield 7, 3) := by decide +kernel
theorem dX7_reach_24 : decode cX7_reach 24 = .ok (.iconst 3, 1) := by decide +kernel
theorem dX7_reach_25 : decode cX7_reach 25 = .ok (.iload_n 1, 1) := by decide +kernel
theorem dX7_reach_26 : decode cX7_reach 26 = .ok (.imul, 1) := by decide +kernel
theorem dX7_reach_27 : decode cX7_reach 27 = .ok (.iload_n 2, 1) := by decide +kernel
theorem dX7_reach_28 : decode cX7_reach 28 = .ok (.iadd, 1) := by decide +kernel
theorem dX7_reach_29 : decode cX7_reach 29 = .ok (.iaload, 1) := by decide +kernel
theorem dX7_reach_30 : decode cX7_reach 30 = .ok (.goto 5, 3) := by decide +kernel
theorem dX7_reach_33 : decode cX7_reach 33 = .ok (.bipush (-3), 2) := by decide +kernel
theorem dX7_reach_35 : decode cX7_reach 35 = .ok (.ireturn, 1) := by decide +kernel
theorem dX7_wind_0 : decode cX7_wind 0 = .ok (.iload_n 1, 1) := by decide +kernel
theorem dX7_wind_1 : decode cX7_wind 1 = .ok (.invokestatic 180, 3) := by decide +kernel
theorem dX7_wind_4 : decode cX7_wind 4 = .ok (.ifCond .eq 10, 3) := by decide +kernel
theorem dX7_wind_7 : decode cX7_wind 7 = .ok (.iload_n 2, 1) := by decide +kernel
theorem dX7_wind_8 : decode cX7_wind 8 = .ok (.invokestatic 183, 3) := by decide +kernel
theorem dX7_wind_11 : decode cX7_wind 11 = .ok (.ifCond .ne 6, 3) := by decide +kernel
theorem dX7_wind_14 : decode cX7_wind 14 = .ok (.bipush (-2), 2) := by decide +kernel
theorem dX7_wind_16 : decode cX7_wind 16 = .ok (.ireturn, 1) := by decide +kernel
theorem dX7_wind_17 : decode cX7_wind 17 = .ok (.iload_n 3, 1) := by decide +kernel
theorem dX7_wind_18 : decode cX7_wind 18 = .ok (.iconst 0, 1) := by decide +kernel
theorem dX7_wind_19 : decode cX7_wind 19 = .ok (.iconst 1, 1) := by decide +kernel
theorem dX7_wind_20 : decode cX7_wind 20 = .ok (.invokestatic 61, 3) := by decide +kernel
theorem dX7_wind_23 : decode cX7_wind 23 = .ok (.ifCond .eq 21, 3) := by decide +kernel
theorem dX7_wind_26 : decode cX7_wind 26 = .ok (.aload_n 0, 1) := by decide +kernel
theorem dX7_wind_27 : decode cX7_wind 27 = .ok (.getfield 13, 3) := by decide +kernel
theorem dX7_wind_30 : decode cX7_wind 30 = .ok (.bipush 48, 2) := by decide +kernel
theorem dX7_wind_32 : decode cX7_wind 32 = .ok (.iload_n 1, 1) := by decide +kernel
theorem dX7_wind_33 : decode cX7_wind 33 = .ok (.imul, 1) := by decide +kernel
theorem dX7_wind_34 : decode cX7_wind 34 = .ok (.iconst 2, 1) := by decide +kernel
theorem dX7_wind_35 : decode cX7_wind 35 = .ok (.iload_n 2, 1) := by decide +kernel
theorem dX7_wind_36 : decode cX7_wind 36 = .ok (.imul, 1) := by decide +kernel
theorem dX7_wind_37 : decode cX7_wind 37 = .ok (.iadd, 1) := by decide +kernel
theorem dX7_wind_38 : decode cX7_wind 38 = .ok (.iload_n 3, 1) := by decide +kernel
theorem dX7_wind_39 : decode cX7_wind 39 = .ok (.iadd, 1) := by decide +kernel
theorem dX7_wind_40 : decode cX7_wind 40 = .ok (.iaload, 1) := by decide +kernel
theorem dX7_wind_41 : decode cX7_wind 41 = .ok (.goto 5, 3) := by decide +kernel
theorem dX7_wind_44 : decode cX7_wind 44 = .ok (.bipush (-3), 2) := by decide +kernel
theorem dX7_wind_46 : decode cX7_wind 46 = .ok (.ireturn, 1) := by decide +kernel
theorem dX7_cordOf_0 : decode cX7_cordOf 0 = .ok (.aload_n 0, 1) := by decide +kernel
theorem dX7_cordOf_1 : decode cX7_cordOf 1 = .ok (.getfield 20, 3) := by decide +kernel
theorem dX7_cordOf_4 : decode cX7_cordOf 4 = .ok (.iconst 4, 1) := by decide +kernel
theorem dX7_cordOf_5 : decode cX7_cordOf 5 = .ok (.iload_n 1, 1) := by decide +kernel
theorem dX7_cordOf_6 : decode cX7_cordOf 6 = .ok (.imul, 1) := by decide +kernel
theorem dX7_cordOf_7 : decode cX7_cordOf 7 = .ok (.iconst 2, 1) := by decide +kernel
theorem dX7_cordOf_8 : decode cX7_cordOf 8 = .ok (.iadd, 1) := by decide +kernel
theorem dX7_cordOf_9 : decode cX7_cordOf 9 = .ok (.iaload, 1) := by decide +kernel
theorem dX7_cordOf_10 : decode cX7_cordOf 10 = .ok (.iconst 2, 1) := by decide +kernel
theorem dX7_cordOf_11 : decode cX7_cordOf 11 = .ok (.if_icmp .ne 7, 3) := by decide +kernel
theorem dX7_cordOf_14 : decode cX7_cordOf 14 = .ok (.iconst 1, 1) := by decide +kernel
theorem dX7_cordOf_15 : decode cX7_cordOf 15 = .ok (.goto 13, 3) := by decide +kernel
theorem dX7_cordOf_18 : decode cX7_cordOf 18 = .ok (.aload_n 0, 1) := by decide +kernel
theorem dX7_cordOf_19 : decode cX7_cordOf 19 = .ok (.getfield 20, 3) := by decide +kernel
theorem dX7_cordOf_22 : decode cX7_cordOf 22 = .ok (.iconst 4, 1) := by decide +kernel
theorem dX7_cordOf_23 : decode cX7_cordOf 23 = .ok (.iload_n 1, 1) := by decide +kernel
theorem dX7_cordOf_24 : decode cX7_cordOf 24 = .ok (.imul, 1) := by decide +kernel
theorem dX7_cordOf_25 : decode cX7_cordOf 25 = .ok (.iconst 1, 1) := by decide +kernel
theorem dX7_cordOf_26 : decode cX7_cordOf 26 = .ok (.iadd, 1) := by decide +kernel
theorem dX7_cordOf_27 : decode cX7_cordOf 27 = .ok (.iaload, 1) := by decide +kernel
theorem dX7_cordOf_28 : decode cX7_cordOf 28 = .ok (.ireturn, 1) := by decide +kernel
theorem dX7_barge_0 : decode cX7_barge 0 = .ok (.aload_n 0, 1) := by decide +kernel
theorem dX7_barge_1 : decode cX7_barge 1 = .ok (.iload_n 1, 1) := by decide +kernel
theorem dX7_barge_2 : decode cX7_barge 2 = .ok (.invokevirtual 186, 3) := by decide +kernel
theorem dX7_barge_5 : decode cX7_barge 5 = .ok (.ifCond .ne 6, 3) := by decide +kernel
theorem dX7_barge_8 : decode cX7_barge 8 = .ok (.bipush (-2), 2) := by decide +kernel
theorem dX7_barge_10 : decode cX7_barge 10 = .ok (.ireturn, 1) := by decide +kernel
theorem dX7_barge_11 : decode cX7_barge 11 = .ok (.iload_n 2, 1) := by decide +kernel
theorem dX7_barge_12 : decode cX7_barge 12 = .ok (.iconst 1, 1) := by decide +kernel
theorem dX7_barge_13 : decode cX7_barge 13 = .ok (.if_icmp .ne 11, 3) := by decide +kernel
theorem dX7_barge_16 : decode cX7_barge 16 = .ok (.aload_n 0, 1) := by decide +kernel
theorem dX7_barge_17 : decode cX7_barge 17 = .ok (.iload_n 1, 1) := by decide +kernel
theorem dX7_barge_18 : decode cX7_barge 18 = .ok (.invokevirtual 189, 3) := by decide +kernel
theorem dX7_barge_21 : decode cX7_barge 21 = .ok (.goto 27, 3) := by decide +kernel
theorem dX7_barge_24 : decode cX7_barge 24 = .ok (.iload_n 2, 1) := by decide +kernel
theorem dX7_barge_25 : decode cX7_barge 25 = .ok (.iconst 0, 1) := by decide +kernel
theorem dX7_barge_26 : decode cX7_barge 26 = .ok (.iconst 3, 1) := by decide +kernel
theorem dX7_barge_27 : decode cX7_barge 27 = .ok (.invokestatic 61, 3) := by decide +kernel
theorem dX7_barge_30 : decode cX7_barge 30 = .ok (.ifCond .eq 16, 3) := by decide +kernel
theorem dX7_barge_33 : decode cX7_barge 33 = .ok (.aload_n 0, 1) := by decide +kernel
theorem dX7_barge_34 : decode cX7_barge 34 = .ok (.getfield 20, 3) := by decide +kernel
theorem dX7_barge_37 : decode cX7_barge 37 = .ok (.iconst 4, 1) := by decide +kernel
theorem dX7_barge_38 : decode cX7_barge 38 = .ok (.iload_n 1, 1) := by decide +kernel
theorem dX7_barge_39 : decode cX7_barge 39 = .ok (.imul, 1) := by decide +kernel
theorem dX7_barge_40 : decode cX7_barge 40 = .ok (.iload_n 2, 1) := by decide +kernel
theorem dX7_barge_41 : decode cX7_barge 41 = .ok (.iadd, 1) := by decide +kernel
theorem dX7_barge_42 : decode cX7_barge 42 = .ok (.iaload, 1) := by decide +kernel
theorem dX7_barge_43 : decode cX7_barge 43 = .ok (.goto 5, 3) := by decide +kernel
theorem dX7_barge_46 : decode cX7_barge 46 = .ok (.bipush (-3), 2) := by decide +kernel
theorem dX7_barge_48 : decode cX7_barge 48 = .ok (.ireturn, 1) := by decide +kernel
theorem dX7_pull_0 : decode cX7_pull 0 = .ok (.iload_n 1, 1) := by decide +kernel
theorem dX7_pull_1 : decode cX7_pull 1 = .ok (.ifCond .ne 10, 3) := by decide +kernel
theorem dX7_pull_4 : decode cX7_pull 4 = .ok (.bipush 10, 2) := by decide +kernel
theorem dX7_pull_6 : decode cX7_pull 6 = .ok (.iload_n 2, 1) := by decide +kernel
theorem dX7_pull_7 : decode cX7_pull 7 = .ok (.imul, 1) := by decide +kernel
theorem dX7_pull_8 : decode cX7_pull 8 = .ok (.goto 32, 3) := by decide +kernel
theorem dX7_pull_11 : decode cX7_pull 11 = .ok (.iload_n 1, 1) := by decide +kernel
theorem dX7_pull_12 : decode cX7_pull 12 = .ok (.iconst 1, 1) := by decide +kernel
theorem dX7_pull_13 : decode cX7_pull 13 = .ok (.if_icmp .ne 10, 3) := by decide +kernel
theorem dX7_pull_16 : decode cX7_pull 16 = .ok (.bipush 7, 2) := by decide +kernel
theorem dX7_pull_18 : decode cX7_pull 18 = .ok (.iload_n 2, 1) := by decide +kernel
theorem dX7_pull_19 : decode cX7_pull 19 = .ok (.imul, 1) := by decide +kernel
theorem dX7_pull_20 : decode cX7_pull 20 = .ok (.goto 20, 3) := by decide +kernel
theorem dX7_pull_23 : decode cX7_pull 23 = .ok (.iload_n 1, 1) := by decide +kernel
theorem dX7_pull_24 : decode cX7_pull 24 = .ok (.iconst 2, 1) := by decide +kernel
theorem dX7_pull_25 : decode cX7_pull 25 = .ok (.if_icmp .ne 14, 3) := by decide +kernel
theorem dX7_pull_28 : decode cX7_pull 28 = .ok (.iload_n 0, 1) := by decide +kernel
theorem dX7_pull_29 : decode cX7_pull 29 = .ok (.iconst 2, 1) := by decide +kernel
theorem dX7_pull_30 : decode cX7_pull 30 = .ok (.if_icmp .le 9, 3) := by decide +kernel
theorem dX7_pull_33 : decode cX7_pull 33 = .ok (.iconst 5, 1) := by decide +kernel
theorem dX7_pull_34 : decode cX7_pull 34 = .ok (.iload_n 2, 1) := by decide +kernel
theorem dX7_pull_35 : decode cX7_pull 35 = .ok (.imul, 1) := by decide +kernel
theorem dX7_pull_36 : decode cX7_pull 36 = .ok (.goto 4, 3) := by decide +kernel
theorem dX7_pull_39 : decode cX7_pull 39 = .ok (.iconst 0, 1) := by decide +kernel
theorem dX7_pull_40 : decode cX7_pull 40 = .ok (.istore_n 3, 1) := by decide +kernel
theorem dX7_pull_41 : decode cX7_pull 41 = .ok (.iload_n 0, 1) := by decide +kernel
theorem dX7_pull_42 : decode cX7_pull 42 = .ok (.iconst 1, 1) := by decide +kernel
theorem dX7_pull_43 : decode cX7_pull 43 = .ok (.if_icmp .ne 9, 3) := by decide +kernel
theorem dX7_pull_46 : decode cX7_pull 46 = .ok (.iconst 2, 1) := by decide +kernel
theorem dX7_pull_47 : decode cX7_pull 47 = .ok (.iload_n 3, 1) := by decide +kernel
theorem dX7_pull_48 : decode cX7_pull 48 = .ok (.imul, 1) := by decide +kernel
theorem dX7_pull_49 : decode cX7_pull 49 = .ok (.goto 15, 3) := by decide +kernel
theorem dX7_pull_52 : decode cX7_pull 52 = .ok (.iload_n 0, 1) := by decide +kernel
theorem dX7_pull_53 : decode cX7_pull 53 = .ok (.iconst 4, 1) := by decide +kernel
theorem dX7_pull_54 : decode cX7_pull 54 = .ok (.if_icmp .ne 9, 3) := by decide +kernel
theorem dX7_pull_57 : decode cX7_pull 57 = .ok (.iload_n 3, 1) := by decide +kernel
theorem dX7_pull_58 : decode cX7_pull 58 = .ok (.iconst 2, 1) := by decide +kernel
theorem dX7_pull_59 : decode cX7_pull 59 = .ok (.idiv, 1) := by decide +kernel
theorem dX7_pull_60 : decode cX7_pull 60 = .ok (.goto 4, 3) := by decide +kernel
theorem dX7_pull_63 : decode cX7_pull 63 = .ok (.iload_n 3, 1) := by decide +kernel
theorem dX7_pull_64 : decode cX7_pull 64 = .ok (.ireturn, 1) := by decide +kernel
theorem dX7_as_0 : decode cX7_as 0 = .ok (.aload_n 0, 1) := by decide +kernel
theorem dX7_as_1 : decode cX7_as 1 = .ok (.iload_n 1, 1) := by decide +kernel
theorem dX7_as_2 : decode cX7_as 2 = .ok (.invokevirtual 186, 3) := by decide +kernel
theorem dX7_as_5 : decode cX7_as 5 = .ok (.ifCond .ne 6, 3) := by decide +kernel
theorem dX7_as_8 : decode cX7_as 8 = .ok (.bipush (-2), 2) := by decide +kernel
theorem dX7_as_10 : decode cX7_as 10 = .ok (.ireturn, 1) := by decide +kernel
theorem dX7_as_11 : decode cX7_as 11 = .ok (.iload_n 2, 1) := by decide +kernel
theorem dX7_as_12 : decode cX7_as 12 = .ok (.iconst 0, 1) := by decide +kernel
theorem dX7_as_13 : decode cX7_as 13 = .ok (.iconst 4, 1) := by decide +kernel
theorem dX7_as_14 : decode cX7_as 14 = .ok (.invokestatic 61, 3) := by decide +kernel
theorem dX7_as_17 : decode cX7_as 17 = .ok (.ifCond .ne 6, 3) := by decide +kernel
theorem dX7_as_20 : decode cX7_as 20 = .ok (.bipush (-3), 2) := by decide +kernel
theorem dX7_as_22 : decode cX7_as 22 = .ok (.ireturn, 1) := by decide +kernel
theorem dX7_as_23 : decode cX7_as 23 = .ok (.aload_n 0, 1) := by decide +kernel
theorem dX7_as_24 : decode cX7_as 24 = .ok (.getfield 20, 3) := by decide +kernel
theorem dX7_as_27 : decode cX7_as 27 = .ok (.iconst 4, 1) := by decide +kernel
theorem dX7_as_28 : decode cX7_as 28 = .ok (.iload_n 1, 1) := by decide +kernel
theorem dX7_as_29 : decode cX7_as 29 = .ok (.imul, 1) := by decide +kernel
theorem dX7_as_30 : decode cX7_as 30 = .ok (.iconst 2, 1) := by decide +kernel
theorem dX7_as_31 : decode cX7_as 31 = .ok (.iadd, 1) := by decide +kernel
theorem dX7_as_32 : decode cX7_as 32 = .ok (.iaload, 1) := by decide +kernel
theorem dX7_as_33 : decode cX7_as 33 = .ok (.istore_n 3, 1) := by decide +kernel
theorem dX7_as_34 : decode cX7_as 34 = .ok (.iload_n 2, 1) := by decide +kernel
theorem dX7_as_35 : decode cX7_as 35 = .ok (.ifCond .eq 18, 3) := by decide +kernel
theorem dX7_as_38 : decode cX7_as 38 = .ok (.iload_n 2, 1) := by decide +kernel
theorem dX7_as_39 : decode cX7_as 39 = .ok (.iload_n 3, 1) := by decide +kernel
theorem dX7_as_40 : decode cX7_as 40 = .ok (.if_icmp .eq 13, 3) := by decide +kernel
theorem dX7_as_43 : decode cX7_as 43 = .ok (.iload_n 2, 1) := by decide +kernel
theorem dX7_as_44 : decode cX7_as 44 = .ok (.iconst 3, 1) := by decide +kernel
theorem dX7_as_45 : decode cX7_as 45 = .ok (.if_icmp .ne 12, 3) := by decide +kernel
theorem dX7_as_48 : decode cX7_as 48 = .ok (.iload_n 3, 1) := by decide +kernel
theorem dX7_as_49 : decode cX7_as 49 = .ok (.iconst 4, 1) := by decide +kernel
theorem dX7_as_50 : decode cX7_as 50 = .ok (.if_icmp .ne 7, 3) := by decide +kernel
theorem dX7_as_53 : decode cX7_as 53 = .ok (.iconst 1, 1) := by decide +kernel
theorem dX7_as_54 : decode cX7_as 54 = .ok (.goto 4, 3) := by decide +kernel
theorem dX7_as_57 : decode cX7_as 57 = .ok (.iconst 0, 1) := by decide +kernel
theorem dX7_as_58 : decode cX7_as 58 = .ok (.istore 4, 2) := by decide +kernel
theorem dX7_as_60 : decode cX7_as 60 = .ok (.iload 4, 2) := by decide +kernel
theorem dX7_as_62 : decode cX7_as 62 = .ok (.ifCond .eq 22, 3) := by decide +kernel
theorem dX7_as_65 : decode cX7_as 65 = .ok (.bipush 100, 2) := by decide +kernel
theorem dX7_as_67 : decode cX7_as 67 = .ok (.iload_n 3, 1) := by decide +kernel
theorem dX7_as_68 : decode cX7_as 68 = .ok (.iconst 0, 1) := by decide +kernel
theorem dX7_as_69 : decode cX7_as 69 = .ok (.iconst 1, 1) := by decide +kernel
theorem dX7_as_70 : decode cX7_as 70 = .ok (.invokestatic 193, 3) := by decide +kernel
theorem dX7_as_73 : decode cX7_as 73 = .ok (.imul, 1) := by decide +kernel
theorem dX7_as_74 : decode cX7_as 74 = .ok (.iload_n 3, 1) := by decide +kernel
theorem dX7_as_75 : decode cX7_as 75 = .ok (.iconst 2, 1) := by decide +kernel
theorem dX7_as_76 : decode cX7_as 76 = .ok (.iconst 1, 1) := by decide +kernel
theorem dX7_as_77 : decode cX7_as 77 = .ok (.invokestatic 193, 3) := by decide +kernel
theorem dX7_as_80 : decode cX7_as 80 = .ok (.iadd, 1) := by decide +kernel
theorem dX7_as_81 : decode cX7_as 81 = .ok (.goto 5, 3) := by decide +kernel
theorem dX7_as_84 : decode cX7_as 84 = .ok (.bipush (-4), 2) := by decide +kernel
theorem dX7_as_86 : decode cX7_as 86 = .ok (.ireturn, 1) := by decide +kernel
theorem dX7_yardsOf_0 : decode cX7_yardsOf 0 = .ok (.aload_n 0, 1) := by decide +kernel
theorem dX7_yardsOf_1 : decode cX7_yardsOf 1 = .ok (.getfield 13, 3) := by decide +kernel
theorem dX7_yardsOf_4 : decode cX7_yardsOf 4 = .ok (.bipush 48, 2) := by decide +kernel
theorem dX7_yardsOf_6 : decode cX7_yardsOf 6 = .ok (.iload_n 3, 1) := by decide +kernel
theorem dX7_yardsOf_7 : decode cX7_yardsOf 7 = .ok (.imul, 1) := by decide +kernel
theorem dX7_yardsOf_8 : decode cX7_yardsOf 8 = .ok (.iconst 2, 1) := by decide +kernel
theorem dX7_yardsOf_9 : decode cX7_yardsOf 9 = .ok (.iload 4, 2) := by decide +kernel
theorem dX7_yardsOf_11 : decode cX7_yardsOf 11 = .ok (.imul, 1) := by decide +kernel
theorem dX7_yardsOf_12 : decode cX7_yardsOf 12 = .ok (.iadd, 1) := by decide +kernel
theorem dX7_yardsOf_13 : decode cX7_yardsOf 13 = .ok (.iaload, 1) := by decide +kernel
theorem dX7_yardsOf_14 : decode cX7_yardsOf 14 = .ok (.aload_n 0, 1) := by decide +kernel
theorem dX7_yardsOf_15 : decode cX7_yardsOf 15 = .ok (.getfield 7, 3) := by decide +kernel
theorem dX7_yardsOf_18 : decode cX7_yardsOf 18 = .ok (.iconst 3, 1) := by decide +kernel
theorem dX7_yardsOf_19 : decode cX7_yardsOf 19 = .ok (.iload_n 2, 1) := by decide +kernel
theorem dX7_yardsOf_20 : decode cX7_yardsOf 20 = .ok (.imul, 1) := by decide +kernel
theorem dX7_yardsOf_21 : decode cX7_yardsOf 21 = .ok (.iaload, 1) := by decide +kernel
theorem dX7_yardsOf_22 : decode cX7_yardsOf 22 = .ok (.invokestatic 197, 3) := by decide +kernel
theorem dX7_yardsOf_25 : decode cX7_yardsOf 25 = .ok (.istore 5, 2) := by decide +kernel
theorem dX7_yardsOf_27 : decode cX7_yardsOf 27 = .ok (.iload 5, 2) := by decide +kernel
theorem dX7_yardsOf_29 : decode cX7_yardsOf 29 = .ok (.iconst 4, 1) := by decide +kernel
theorem dX7_yardsOf_30 : decode cX7_yardsOf 30 = .ok (.if_icmp .le 11, 3) := by decide +kernel
theorem dX7_yardsOf_33 : decode cX7_yardsOf 33 = .ok (.bipush 8, 2) := by decide +kernel
theorem dX7_yardsOf_35 : decode cX7_yardsOf 35 = .ok (.iload 5, 2) := by decide +kernel
theorem dX7_yardsOf_37 : decode cX7_yardsOf 37 = .ok (.isub, 1) := by decide +kernel
theorem dX7_yardsOf_38 : decode cX7_yardsOf 38 = .ok (.goto 5, 3) := by decide +kernel
theorem dX7_yardsOf_41 : decode cX7_yardsOf 41 = .ok (.iload 5, 2) := by decide +kernel
theorem dX7_yardsOf_43 : decode cX7_yardsOf 43 = .ok (.istore 5, 2) := by decide +kernel
theorem dX7_yardsOf_45 : decode cX7_yardsOf 45 = .ok (.aload_n 0, 1) := by decide +kernel
theorem dX7_yardsOf_46 : decode cX7_yardsOf 46 = .ok (.getfield 7, 3) := by decide +kernel
theorem dX7_yardsOf_49 : decode cX7_yardsOf 49 = .ok (.iconst 3, 1) := by decide +kernel
theorem dX7_yardsOf_50 : decode cX7_yardsOf 50 = .ok (.iload_n 2, 1) := by decide +kernel
theorem dX7_yardsOf_51 : decode cX7_yardsOf 51 = .ok (.imul, 1) := by decide +kernel
theorem dX7_yardsOf_52 : decode cX7_yardsOf 52 = .ok (.iconst 2, 1) := by decide +kernel
theorem dX7_yardsOf_53 : decode cX7_yardsOf 53 = .ok (.iadd, 1) := by decide +kernel
theorem dX7_yardsOf_54 : decode cX7_yardsOf 54 = .ok (.iaload, 1) := by decide +kernel
theorem dX7_yardsOf_55 : decode cX7_yardsOf 55 = .ok (.iconst 1, 1) := by decide +kernel
theorem dX7_yardsOf_56 : decode cX7_yardsOf 56 = .ok (.if_icmp .ne 12, 3) := by decide +kernel
theorem dX7_yardsOf_59 : decode cX7_yardsOf 59 = .ok (.iload_n 3, 1) := by decide +kernel
theorem dX7_yardsOf_60 : decode cX7_yardsOf 60 = .ok (.iconst 1, 1) := by decide +kernel
theorem dX7_yardsOf_61 : decode cX7_yardsOf 61 = .ok (.if_icmp .le 7, 3) := by decide +kernel
theorem dX7_yardsOf_64 : decode cX7_yardsOf 64 = .ok (.iconst 0, 1) := by decide +kernel
theorem dX7_yardsOf_65 : decode cX7_yardsOf 65 = .ok (.goto 43, 3) := by decide +kernel
theorem dX7_yardsOf_68 : decode cX7_yardsOf 68 = .ok (.aload_n 0, 1) := by decide +kernel
theorem dX7_yardsOf_69 : decode cX7_yardsOf 69 = .ok (.getfield 20, 3) := by decide +kernel
theorem dX7_yardsOf_72 : decode cX7_yardsOf 72 = .ok (.iconst 4, 1) := by decide +kernel
theorem dX7_yardsOf_73 : decode cX7_yardsOf 73 = .ok (.iload_n 1, 1) := by decide +kernel
theorem dX7_yardsOf_74 : decode cX7_yardsOf 74 = .ok (.imul, 1) := by decide +kernel
theorem dX7_yardsOf_75 : decode cX7_yardsOf 75 = .ok (.iconst 2, 1) := by decide +kernel
theorem dX7_yardsOf_76 : decode cX7_yardsOf 76 = .ok (.iadd, 1) := by decide +kernel
theorem dX7_yardsOf_77 : decode cX7_yardsOf 77 = .ok (.iaload, 1) := by decide +kernel
theorem dX7_yardsOf_78 : decode cX7_yardsOf 78 = .ok (.iload 5, 2) := by decide +kernel
theorem dX7_yardsOf_80 : decode cX7_yardsOf 80 = .ok (.aload_n 0, 1) := by decide +kernel
theorem dX7_yardsOf_81 : decode cX7_yardsOf 81 = .ok (.getfield 13, 3) := by decide +kernel
theorem dX7_yardsOf_84 : decode cX7_yardsOf 84 = .ok (.bipush 48, 2) := by decide +kernel
theorem dX7_yardsOf_86 : decode cX7_yardsOf 86 = .ok (.iload_n 3, 1) := by decide +kernel
theorem dX7_yardsOf_87 : decode cX7_yardsOf 87 = .ok (.imul, 1) := by decide +kernel
theorem dX7_yardsOf_88 : decode cX7_yardsOf 88 = .ok (.iconst 2, 1) := by decide +kernel
theorem dX7_yardsOf_89 : decode cX7_yardsOf 89 = .ok (.iload 4, 2) := by decide +kernel
theorem dX7_yardsOf_91 : decode cX7_yardsOf 91 = .ok (.imul, 1) := by decide +kernel
theorem dX7_yardsOf_92 : decode cX7_yardsOf 92 = .ok (.iadd, 1) := by decide +kernel
theorem dX7_yardsOf_93 : decode cX7_yardsOf 93 = .ok (.iconst 1, 1) := by decide +kernel
theorem dX7_yardsOf_94 : decode cX7_yardsOf 94 = .ok (.iadd, 1) := by decide +kernel
theorem dX7_yardsOf_95 : decode cX7_yardsOf 95 = .ok (.iaload, 1) := by decide +kernel
theorem dX7_yardsOf_96 : decode cX7_yardsOf 96 = .ok (.invokestatic 193, 3) := by decide +kernel
theorem dX7_yardsOf_99 : decode cX7_yardsOf 99 = .ok (.aload_n 0, 1) := by decide +kernel
theorem dX7_yardsOf_100 : decode cX7_yardsOf 100 = .ok (.getfield 20, 3) := by decide +kernel
theorem dX7_yardsOf_103 : decode cX7_yardsOf 103 = .ok (.iconst 4, 1) := by decide +kernel
theorem dX7_yardsOf_104 : decode cX7_yardsOf 104 = .ok (.iload_n 1, 1) := by decide +kernel
theorem dX7_yardsOf_105 : decode cX7_yardsOf 105 = .ok (.imul, 1) := by decide +kernel
theorem dX7_yardsOf_106 : decode cX7_yardsOf 106 = .ok (.iaload, 1) := by decide +kernel
theorem dX7_yardsOf_107 : decode cX7_yardsOf 107 = .ok (.idiv, 1) := by decide +kernel
theorem dX7_yardsOf_108 : decode cX7_yardsOf 108 = .ok (.ireturn, 1) := by decide +kernel
theorem dX7_yards_0 : decode cX7_yards 0 = .ok (.aload_n 0, 1) := by decide +kernel
theorem dX7_yards_1 : decode cX7_yards 1 = .ok (.iload_n 1, 1) := by decide +kernel
theorem dX7_yards_2 : decode cX7_yards 2 = .ok (.invokevirtual 186, 3) := by decide +kernel
theorem dX7_yards_5 : decode cX7_yards 5 = .ok (.ifCond .eq 38, 3) := by decide +kernel
theorem dX7_yards_8 : decode cX7_yards 8 = .ok (.aload_n 0, 1) := by decide +kernel
theorem dX7_yards_9 : decode cX7_yards 9 = .ok (.iload_n 2, 1) := by decide +kernel
theorem dX7_yards_10 : decode cX7_yards 10 = .ok (.invokevirtual 177, 3) := by decide +kernel
theorem dX7_yards_13 : decode cX7_yards 13 = .ok (.ifCond .eq 30, 3) := by decide +kernel
theorem dX7_yards_16 : decode cX7_yards 16 = .ok (.iload_n 3, 1) := by decide +kernel
theorem dX7_yards_17 : decode cX7_yards 17 = .ok (.invokestatic 180, 3) := by decide +kernel
theorem dX7_yards_20 : decode cX7_yards 20 = .ok (.ifCond .eq 23, 3) := by decide +kernel
theorem dX7_yards_23 : decode cX7_yards 23 = .ok (.iload 4, 2) := by decide +kernel
theorem dX7_yards_25 : decode cX7_yards 25 = .ok (.invokestatic 183, 3) := by decide +kernel
theorem dX7_yards_28 : decode cX7_yards 28 = .ok (.ifCond .eq 15, 3) := by decide +kernel
theorem dX7_yards_31 : decode cX7_yards 31 = .ok (.aload_n 0, 1) := by decide +kernel
theorem dX7_yards_32 : decode cX7_yards 32 = .ok (.iload_n 1, 1) := by decide +kernel
theorem dX7_yards_33 : decode cX7_yards 33 = .ok (.iload_n 2, 1) := by decide +kernel
theorem dX7_yards_34 : decode cX7_yards 34 = .ok (.iload_n 3, 1) := by decide +kernel
theorem dX7_yards_35 : decode cX7_yards 35 = .ok (.iload 4, 2) := by decide +kernel
theorem dX7_yards_37 : decode cX7_yards 37 = .ok (.invokevirtual 201, 3) := by decide +kernel
theorem dX7_yards_40 : decode cX7_yards 40 = .ok (.goto 5, 3) := by decide +kernel
theorem dX7_yards_43 : decode cX7_yards 43 = .ok (.bipush (-2), 2) := by decide +kernel
theorem dX7_yards_45 : decode cX7_yards 45 = .ok (.ireturn, 1) := by decide +kernel
theorem dX7_goes_0 : decode cX7_goes 0 = .ok (.iload_n 2, 1) := by decide +kernel
theorem dX7_goes_1 : decode cX7_goes 1 = .ok (.sipush 160, 3) := by decide +kernel
theorem dX7_goes_4 : decode cX7_goes 4 = .ok (.if_icmp .ne 7, 3) := by decide +kernel
theorem dX7_goes_7 : decode cX7_goes 7 = .ok (.sipush 160, 3) := by decide +kernel
theorem dX7_goes_10 : decode cX7_goes 10 = .ok (.ireturn, 1) := by decide +kernel
theorem dX7_goes_11 : decode cX7_goes 11 = .ok (.iload_n 2, 1) := by decide +kernel
theorem dX7_goes_12 : decode cX7_goes 12 = .ok (.bipush 20, 2) := by decide +kernel
theorem dX7_goes_14 : decode cX7_goes 14 = .ok (.idiv, 1) := by decide +kernel
theorem dX7_goes_15 : decode cX7_goes 15 = .ok (.istore 5, 2) := by decide +kernel
theorem dX7_goes_17 : decode cX7_goes 17 = .ok (.iload_n 2, 1) := by decide +kernel
theorem dX7_goes_18 : decode cX7_goes 18 = .ok (.bipush 20, 2) := by decide +kernel
theorem dX7_goes_20 : decode cX7_goes 20 = .ok (.irem, 1) := by decide +kernel
theorem dX7_goes_21 : decode cX7_goes 21 = .ok (.aload_n 0, 1) := by decide +kernel
theorem dX7_goes_22 : decode cX7_goes 22 = .ok (.iload_n 1, 1) := by decide +kernel
theorem dX7_goes_23 : decode cX7_goes 23 = .ok (.iload 5, 2) := by decide +kernel
theorem dX7_goes_25 : decode cX7_goes 25 = .ok (.iload_n 3, 1) := by decide +kernel
theorem dX7_goes_26 : decode cX7_goes 26 = .ok (.iload 4, 2) := by decide +kernel
theorem dX7_goes_28 : decode cX7_goes 28 = .ok (.invokevirtual 201, 3) := by decide +kernel
theorem dX7_goes_31 : decode cX7_goes 31 = .ok (.iadd, 1) := by decide +kernel
theorem dX7_goes_32 : decode cX7_goes 32 = .ok (.istore 6, 2) := by decide +kernel
theorem dX7_goes_34 : decode cX7_goes 34 = .ok (.iload 6, 2) := by decide +kernel
theorem dX7_goes_36 : decode cX7_goes 36 = .ok (.aload_n 0, 1) := by decide +kernel
theorem dX7_goes_37 : decode cX7_goes 37 = .ok (.getfield 7, 3) := by decide +kernel
theorem dX7_goes_40 : decode cX7_goes 40 = .ok (.iconst 3, 1) := by decide +kernel
theorem dX7_goes_41 : decode cX7_goes 41 = .ok (.iload 5, 2) := by decide +kernel
theorem dX7_goes_43 : decode cX7_goes 43 = .ok (.imul, 1) := by decide +kernel
theorem dX7_goes_44 : decode cX7_goes 44 = .ok (.iconst 1, 1) := by decide +kernel
theorem dX7_goes_45 : decode cX7_goes 45 = .ok (.iadd, 1) := by decide +kernel
theorem dX7_goes_46 : decode cX7_goes 46 = .ok (.iaload, 1) := by decide +kernel
theorem dX7_goes_47 : decode cX7_goes 47 = .ok (.if_icmp .ge 12, 3) := by decide +kernel
theorem dX7_goes_50 : decode cX7_goes 50 = .ok (.bipush 20, 2) := by decide +kernel
theorem dX7_goes_52 : decode cX7_goes 52 = .ok (.iload 5, 2) := by decide +kernel
theorem dX7_goes_54 : decode cX7_goes 54 = .ok (.imul, 1) := by decide +kernel
theorem dX7_goes_55 : decode cX7_goes 55 = .ok (.iload 6, 2) := by decide +kernel
theorem dX7_goes_57 : decode cX7_goes 57 = .ok (.iadd, 1) := by decide +kernel
theorem dX7_goes_58 : decode cX7_goes 58 = .ok (.ireturn, 1) := by decide +kernel
theorem dX7_goes_59 : decode cX7_goes 59 = .ok (.aload_n 0, 1) := by decide +kernel
theorem dX7_goes_60 : decode cX7_goes 60 = .ok (.getfield 7, 3) := by decide +kernel
theorem dX7_goes_63 : decode cX7_goes 63 = .ok (.iconst 3, 1) := by decide +kernel
theorem dX7_goes_64 : decode cX7_goes 64 = .ok (.iload 5, 2) := by decide +kernel
theorem dX7_goes_66 : decode cX7_goes 66 = .ok (.imul, 1) := by decide +kernel
theorem dX7_goes_67 : decode cX7_goes 67 = .ok (.iconst 2, 1) := by decide +kernel
theorem dX7_goes_68 : decode cX7_goes 68 = .ok (.iadd, 1) := by decide +kernel
theorem dX7_goes_69 : decode cX7_goes 69 = .ok (.iaload, 1) := by decide +kernel
theorem dX7_goes_70 : decode cX7_goes 70 = .ok (.iconst 2, 1) := by decide +kernel
theorem dX7_goes_71 : decode cX7_goes 71 = .ok (.if_icmp .ne 41, 3) := by decide +kernel
theorem dX7_goes_74 : decode cX7_goes 74 = .ok (.aload_n 0, 1) := by decide +kernel
theorem dX7_goes_75 : decode cX7_goes 75 = .ok (.getfield 13, 3) := by decide +kernel
theorem dX7_goes_78 : decode cX7_goes 78 = .ok (.iconst 2, 1) := by decide +kernel
theorem dX7_goes_79 : decode cX7_goes 79 = .ok (.iload 4, 2) := by decide +kernel
theorem dX7_goes_81 : decode cX7_goes 81 = .ok (.imul, 1) := by decide +kernel
theorem dX7_goes_82 : decode cX7_goes 82 = .ok (.iconst 1, 1) := by decide +kernel
theorem dX7_goes_83 : decode cX7_goes 83 = .ok (.iadd, 1) := by decide +kernel
theorem dX7_goes_84 : decode cX7_goes 84 = .ok (.iaload, 1) := by decide +kernel
theorem dX7_goes_85 : decode cX7_goes 85 = .ok (.aload_n 0, 1) := by decide +kernel
theorem dX7_goes_86 : decode cX7_goes 86 = .ok (.getfield 16, 3) := by decide +kernel
theorem dX7_goes_89 : decode cX7_goes 89 = .ok (.if_icmp .le 23, 3) := by decide +kernel
theorem dX7_goes_92 : decode cX7_goes 92 = .ok (.bipush 20, 2) := by decide +kernel
theorem dX7_goes_94 : decode cX7_goes 94 = .ok (.iload 5, 2) := by decide +kernel
theorem dX7_goes_96 : decode cX7_goes 96 = .ok (.imul, 1) := by decide +kernel
theorem dX7_goes_97 : decode cX7_goes 97 = .ok (.aload_n 0, 1) := by decide +kernel
theorem dX7_goes_98 : decode cX7_goes 98 = .ok (.getfield 7, 3) := by decide +kernel
theorem dX7_goes_101 : decode cX7_goes 101 = .ok (.iconst 3, 1) := by decide +kernel
theorem dX7_goes_102 : decode cX7_goes 102 = .ok (.iload 5, 2) := by decide +kernel
theorem dX7_goes_104 : decode cX7_goes 104 = .ok (.imul, 1) := by decide +kernel
theorem dX7_goes_105 : decode cX7_goes 105 = .ok (.iconst 1, 1) := by decide +kernel
theorem dX7_goes_106 : decode cX7_goes 106 = .ok (.iadd, 1) := by decide +kernel
theorem dX7_goes_107 : decode cX7_goes 107 = .ok (.iaload, 1) := by decide +kernel
theorem dX7_goes_108 : decode cX7_goes 108 = .ok (.iadd, 1) := by decide +kernel
theorem dX7_goes_109 : decode cX7_goes 109 = .ok (.iconst 1, 1) := by decide +kernel
theorem dX7_goes_110 : decode cX7_goes 110 = .ok (.isub, 1) := by decide +kernel
theorem dX7_goes_111 : decode cX7_goes 111 = .ok (.ireturn, 1) := by decide +kernel
theorem dX7_goes_112 : decode cX7_goes 112 = .ok (.iload 5, 2) := by decide +kernel
theorem dX7_goes_114 : decode cX7_goes 114 = .ok (.aload_n 0, 1) := by decide +kernel
theorem dX7_goes_115 : decode cX7_goes 115 = .ok (.getfield 160, 3) := by decide +kernel
theorem dX7_goes_118 : decode cX7_goes 118 = .ok (.iconst 1, 1) := by decide +kernel
theorem dX7_goes_119 : decode cX7_goes 119 = .ok (.isub, 1) := by decide +kernel
theorem dX7_goes_120 : decode cX7_goes 120 = .ok (.if_icmp .ne 9, 3) := by decide +kernel
theorem dX7_goes_123 : decode cX7_goes 123 = .ok (.sipush 160, 3) := by decide +kernel
theorem dX7_goes_126 : decode cX7_goes 126 = .ok (.goto 11, 3) := by decide +kernel
theorem dX7_goes_129 : decode cX7_goes 129 = .ok (.bipush 20, 2) := by decide +kernel
theorem dX7_goes_131 : decode cX7_goes 131 = .ok (.iload 5, 2) := by decide +kernel
theorem dX7_goes_133 : decode cX7_goes 133 = .ok (.imul, 1) := by decide +kernel
theorem dX7_goes_134 : decode cX7_goes 134 = .ok (.bipush 20, 2) := by decide +kernel
theorem dX7_goes_136 : decode cX7_goes 136 = .ok (.iadd, 1) := by decide +kernel
theorem dX7_goes_137 : decode cX7_goes 137 = .ok (.ireturn, 1) := by decide +kernel
theorem dX7_cord_0 : decode cX7_cord 0 = .ok (.aload_n 0, 1) := by decide +kernel
theorem dX7_cord_1 : decode cX7_cord 1 = .ok (.iload_n 1, 1) := by decide +kernel
theorem dX7_cord_2 : decode cX7_cord 2 = .ok (.invokevirtual 186, 3) := by decide +kernel
theorem dX7_cord_5 : decode cX7_cord 5 = .ok (.ifCond .ne 6, 3) := by decide +kernel
theorem dX7_cord_8 : decode cX7_cord 8 = .ok (.bipush (-2), 2) := by decide +kernel
theorem dX7_cord_10 : decode cX7_cord 10 = .ok (.ireturn, 1) := by decide +kernel
theorem dX7_cord_11 : decode cX7_cord 11 = .ok (.iload_n 2, 1) := by decide +kernel
theorem dX7_cord_12 : decode cX7_cord 12 = .ok (.invokestatic 180, 3) := by decide +kernel
theorem dX7_cord_15 : decode cX7_cord 15 = .ok (.ifCond .eq 23, 3) := by decide +kernel
theorem dX7_cord_18 : decode cX7_cord 18 = .ok (.iload_n 2, 1) := by decide +kernel
theorem dX7_cord_19 : decode cX7_cord 19 = .ok (.aload_n 0, 1) := by decide +kernel
theorem dX7_cord_20 : decode cX7_cord 20 = .ok (.getfield 29, 3) := by decide +kernel
theorem dX7_cord_23 : decode cX7_cord 23 = .ok (.iconst 4, 1) := by decide +kernel
theorem dX7_cord_24 : decode cX7_cord 24 = .ok (.iload_n 1, 1) := by decide +kernel
theorem dX7_cord_25 : decode cX7_cord 25 = .ok (.iadd, 1) := by decide +kernel
theorem dX7_cord_26 : decode cX7_cord 26 = .ok (.iaload, 1) := by decide +kernel
theorem dX7_cord_27 : decode cX7_cord 27 = .ok (.invokestatic 197, 3) := by decide +kernel
theorem dX7_cord_30 : decode cX7_cord 30 = .ok (.aload_n 0, 1) := by decide +kernel
theorem dX7_cord_31 : decode cX7_cord 31 = .ok (.iload_n 1, 1) := by decide +kernel
theorem dX7_cord_32 : decode cX7_cord 32 = .ok (.invokevirtual 189, 3) := by decide +kernel
theorem dX7_cord_35 : decode cX7_cord 35 = .ok (.if_icmp .le 6, 3) := by decide +kernel
theorem dX7_cord_38 : decode cX7_cord 38 = .ok (.bipush (-3), 2) := by decide +kernel
theorem dX7_cord_40 : decode cX7_cord 40 = .ok (.ireturn, 1) := by decide +kernel
theorem dX7_cord_41 : decode cX7_cord 41 = .ok (.aload_n 0, 1) := by decide +kernel
theorem dX7_cord_42 : decode cX7_cord 42 = .ok (.getfield 29, 3) := by decide +kernel
theorem dX7_cord_45 : decode cX7_cord 45 = .ok (.iload_n 1, 1) := by decide +kernel
theorem dX7_cord_46 : decode cX7_cord 46 = .ok (.iaload, 1) := by decide +kernel
theorem dX7_cord_47 : decode cX7_cord 47 = .ok (.sipush 160, 3) := by decide +kernel
theorem dX7_cord_50 : decode cX7_cord 50 = .ok (.if_icmp .eq 15, 3) := by decide +kernel
theorem dX7_cord_53 : decode cX7_cord 53 = .ok (.aload_n 0, 1) := by decide +kernel
theorem dX7_cord_54 : decode cX7_cord 54 = .ok (.getfield 29, 3) := by decide +kernel
theorem dX7_cord_57 : decode cX7_cord 57 = .ok (.bipush 20, 2) := by decide +kernel
theorem dX7_cord_59 : decode cX7_cord 59 = .ok (.iaload, 1) := by decide +kernel
theorem dX7_cord_60 : decode cX7_cord 60 = .ok (.bipush 24, 2) := by decide +kernel
theorem dX7_cord_62 : decode cX7_cord 62 = .ok (.if_icmp .ne 6, 3) := by decide +kernel
theorem dX7_cord_65 : decode cX7_cord 65 = .ok (.bipush (-4), 2) := by decide +kernel
