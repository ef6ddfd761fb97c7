theorem dX0_init_0 : decode cX0_init 0 = .ok (.aload_n 0, 1) := by decide +kernel
theorem dX0_init_1 : decode cX0_init 1 = .ok (.invokespecial 3, 3) := by decide +kernel
theorem dX0_init_4 : decode cX0_init 4 = .ok (.aload_n 0, 1) := by decide +kernel
theorem dX0_init_5 : decode cX0_init 5 = .ok (.iconst 0, 1) := by decide +kernel
theorem dX0_init_6 : decode cX0_init 6 = .ok (.putfield 9, 3) := by decide +kernel
theorem dX0_init_9 : decode cX0_init 9 = .ok (.aload_n 0, 1) := by decide +kernel
theorem dX0_init_10 : decode cX0_init 10 = .ok (.iconst 4, 1) := by decide +kernel
theorem dX0_init_11 : decode cX0_init 11 = .ok (.newarray .int, 2) := by decide +kernel
theorem dX0_init_13 : decode cX0_init 13 = .ok (.putfield 15, 3) := by decide +kernel
theorem dX0_init_16 : decode cX0_init 16 = .ok (.aload_n 0, 1) := by decide +kernel
theorem dX0_init_17 : decode cX0_init 17 = .ok (.iconst 4, 1) := by decide +kernel
theorem dX0_init_18 : decode cX0_init 18 = .ok (.newarray .int, 2) := by decide +kernel
theorem dX0_init_20 : decode cX0_init 20 = .ok (.putfield 19, 3) := by decide +kernel
theorem dX0_init_23 : decode cX0_init 23 = .ok (.aload_n 0, 1) := by decide +kernel
theorem dX0_init_24 : decode cX0_init 24 = .ok (.iconst 4, 1) := by decide +kernel
theorem dX0_init_25 : decode cX0_init 25 = .ok (.newarray .int, 2) := by decide +kernel
theorem dX0_init_27 : decode cX0_init 27 = .ok (.putfield 22, 3) := by decide +kernel
theorem dX0_init_30 : decode cX0_init 30 = .ok (.aload_n 0, 1) := by decide +kernel
theorem dX0_init_31 : decode cX0_init 31 = .ok (.iconst 4, 1) := by decide +kernel
theorem dX0_init_32 : decode cX0_init 32 = .ok (.newarray .int, 2) := by decide +kernel
theorem dX0_init_34 : decode cX0_init 34 = .ok (.putfield 25, 3) := by decide +kernel
theorem dX0_init_37 : decode cX0_init 37 = .ok (.aload_n 0, 1) := by decide +kernel
theorem dX0_init_38 : decode cX0_init 38 = .ok (.iconst 4, 1) := by decide +kernel
theorem dX0_init_39 : decode cX0_init 39 = .ok (.newarray .int, 2) := by decide +kernel
theorem dX0_init_41 : decode cX0_init 41 = .ok (.putfield 28, 3) := by decide +kernel
theorem dX0_init_44 : decode cX0_init 44 = .ok (.return_, 1) := by decide +kernel
theorem dX0_begin_0 : decode cX0_begin 0 = .ok (.aload_n 0, 1) := by decide +kernel
theorem dX0_begin_1 : decode cX0_begin 1 = .ok (.iconst 0, 1) := by decide +kernel
theorem dX0_begin_2 : decode cX0_begin 2 = .ok (.putfield 9, 3) := by decide +kernel
theorem dX0_begin_5 : decode cX0_begin 5 = .ok (.aload_n 0, 1) := by decide +kernel
theorem dX0_begin_6 : decode cX0_begin 6 = .ok (.getfield 15, 3) := by decide +kernel
theorem dX0_begin_9 : decode cX0_begin 9 = .ok (.iload_n 1, 1) := by decide +kernel
theorem dX0_begin_10 : decode cX0_begin 10 = .ok (.invokestatic 31, 3) := by decide +kernel
theorem dX0_begin_13 : decode cX0_begin 13 = .ok (.aload_n 0, 1) := by decide +kernel
theorem dX0_begin_14 : decode cX0_begin 14 = .ok (.getfield 19, 3) := by decide +kernel
theorem dX0_begin_17 : decode cX0_begin 17 = .ok (.iconst 0, 1) := by decide +kernel
theorem dX0_begin_18 : decode cX0_begin 18 = .ok (.invokestatic 31, 3) := by decide +kernel
theorem dX0_begin_21 : decode cX0_begin 21 = .ok (.aload_n 0, 1) := by decide +kernel
theorem dX0_begin_22 : decode cX0_begin 22 = .ok (.getfield 22, 3) := by decide +kernel
theorem dX0_begin_25 : decode cX0_begin 25 = .ok (.iconst 0, 1) := by decide +kernel
theorem dX0_begin_26 : decode cX0_begin 26 = .ok (.invokestatic 31, 3) := by decide +kernel
theorem dX0_begin_29 : decode cX0_begin 29 = .ok (.aload_n 0, 1) := by decide +kernel
theorem dX0_begin_30 : decode cX0_begin 30 = .ok (.getfield 25, 3) := by decide +kernel
theorem dX0_begin_33 : decode cX0_begin 33 = .ok (.iconst 0, 1) := by decide +kernel
theorem dX0_begin_34 : decode cX0_begin 34 = .ok (.invokestatic 31, 3) := by decide +kernel
theorem dX0_begin_37 : decode cX0_begin 37 = .ok (.aload_n 0, 1) := by decide +kernel
theorem dX0_begin_38 : decode cX0_begin 38 = .ok (.getfield 28, 3) := by decide +kernel
theorem dX0_begin_41 : decode cX0_begin 41 = .ok (.iconst 0, 1) := by decide +kernel
theorem dX0_begin_42 : decode cX0_begin 42 = .ok (.invokestatic 31, 3) := by decide +kernel
theorem dX0_begin_45 : decode cX0_begin 45 = .ok (.return_, 1) := by decide +kernel
theorem dX0_copyFrom_0 : decode cX0_copyFrom 0 = .ok (.aload_n 0, 1) := by decide +kernel
theorem dX0_copyFrom_1 : decode cX0_copyFrom 1 = .ok (.aload_n 1, 1) := by decide +kernel
theorem dX0_copyFrom_2 : decode cX0_copyFrom 2 = .ok (.getfield 9, 3) := by decide +kernel
theorem dX0_copyFrom_5 : decode cX0_copyFrom 5 = .ok (.putfield 9, 3) := by decide +kernel
theorem dX0_copyFrom_8 : decode cX0_copyFrom 8 = .ok (.aload_n 1, 1) := by decide +kernel
theorem dX0_copyFrom_9 : decode cX0_copyFrom 9 = .ok (.getfield 15, 3) := by decide +kernel
theorem dX0_copyFrom_12 : decode cX0_copyFrom 12 = .ok (.iconst 0, 1) := by decide +kernel
theorem dX0_copyFrom_13 : decode cX0_copyFrom 13 = .ok (.aload_n 0, 1) := by decide +kernel
theorem dX0_copyFrom_14 : decode cX0_copyFrom 14 = .ok (.getfield 15, 3) := by decide +kernel
theorem dX0_copyFrom_17 : decode cX0_copyFrom 17 = .ok (.iconst 0, 1) := by decide +kernel
theorem dX0_copyFrom_18 : decode cX0_copyFrom 18 = .ok (.iconst 4, 1) := by decide +kernel
theorem dX0_copyFrom_19 : decode cX0_copyFrom 19 = .ok (.invokestatic 37, 3) := by decide +kernel
theorem dX0_copyFrom_22 : decode cX0_copyFrom 22 = .ok (.aload_n 1, 1) := by decide +kernel
theorem dX0_copyFrom_23 : decode cX0_copyFrom 23 = .ok (.getfield 19, 3) := by decide +kernel
theorem dX0_copyFrom_26 : decode cX0_copyFrom 26 = .ok (.iconst 0, 1) := by decide +kernel
theorem dX0_copyFrom_27 : decode cX0_copyFrom 27 = .ok (.aload_n 0, 1) := by decide +kernel
theorem dX0_copyFrom_28 : decode cX0_copyFrom 28 = .ok (.getfield 19, 3) := by decide +kernel
theorem dX0_copyFrom_31 : decode cX0_copyFrom 31 = .ok (.iconst 0, 1) := by decide +kernel
theorem dX0_copyFrom_32 : decode cX0_copyFrom 32 = .ok (.iconst 4, 1) := by decide +kernel
theorem dX0_copyFrom_33 : decode cX0_copyFrom 33 = .ok (.invokestatic 37, 3) := by decide +kernel
theorem dX0_copyFrom_36 : decode cX0_copyFrom 36 = .ok (.aload_n 1, 1) := by decide +kernel
theorem dX0_copyFrom_37 : decode cX0_copyFrom 37 = .ok (.getfield 22, 3) := by decide +kernel
theorem dX0_copyFrom_40 : decode cX0_copyFrom 40 = .ok (.iconst 0, 1) := by decide +kernel
theorem dX0_copyFrom_41 : decode cX0_copyFrom 41 = .ok (.aload_n 0, 1) := by decide +kernel
theorem dX0_copyFrom_42 : decode cX0_copyFrom 42 = .ok (.getfield 22, 3) := by decide +kernel
theorem dX0_copyFrom_45 : decode cX0_copyFrom 45 = .ok (.iconst 0, 1) := by decide +kernel
theorem dX0_copyFrom_46 : decode cX0_copyFrom 46 = .ok (.iconst 4, 1) := by decide +kernel
theorem dX0_copyFrom_47 : decode cX0_copyFrom 47 = .ok (.invokestatic 37, 3) := by decide +kernel
theorem dX0_copyFrom_50 : decode cX0_copyFrom 50 = .ok (.aload_n 1, 1) := by decide +kernel
theorem dX0_copyFrom_51 : decode cX0_copyFrom 51 = .ok (.getfield 25, 3) := by decide +kernel
theorem dX0_copyFrom_54 : decode cX0_copyFrom 54 = .ok (.iconst 0, 1) := by decide +kernel
theorem dX0_copyFrom_55 : decode cX0_copyFrom 55 = .ok (.aload_n 0, 1) := by decide +kernel
theorem dX0_copyFrom_56 : decode cX0_copyFrom 56 = .ok (.getfield 25, 3) := by decide +kernel
theorem dX0_copyFrom_59 : decode cX0_copyFrom 59 = .ok (.iconst 0, 1) := by decide +kernel
theorem dX0_copyFrom_60 : decode cX0_copyFrom 60 = .ok (.iconst 4, 1) := by decide +kernel
theorem dX0_copyFrom_61 : decode cX0_copyFrom 61 = .ok (.invokestatic 37, 3) := by decide +kernel
theorem dX0_copyFrom_64 : decode cX0_copyFrom 64 = .ok (.aload_n 1, 1) := by decide +kernel
theorem dX0_copyFrom_65 : decode cX0_copyFrom 65 = .ok (.getfield 28, 3) := by decide +kernel
theorem dX0_copyFrom_68 : decode cX0_copyFrom 68 = .ok (.iconst 0, 1) := by decide +kernel
theorem dX0_copyFrom_69 : decode cX0_copyFrom 69 = .ok (.aload_n 0, 1) := by decide +kernel
theorem dX0_copyFrom_70 : decode cX0_copyFrom 70 = .ok (.getfield 28, 3) := by decide +kernel
theorem dX0_copyFrom_73 : decode cX0_copyFrom 73 = .ok (.iconst 0, 1) := by decide +kernel
theorem dX0_copyFrom_74 : decode cX0_copyFrom 74 = .ok (.iconst 4, 1) := by decide +kernel
theorem dX0_copyFrom_75 : decode cX0_copyFrom 75 = .ok (.invokestatic 37, 3) := by decide +kernel
theorem dX0_copyFrom_78 : decode cX0_copyFrom 78 = .ok (.return_, 1) := by decide +kernel
theorem dX0_change_0 : decode cX0_change 0 = .ok (.iload_n 2, 1) := by decide +kernel
theorem dX0_change_1 : decode cX0_change 1 = .ok (.aload_n 0, 1) := by decide +kernel
theorem dX0_change_2 : decode cX0_change 2 = .ok (.getfield 19, 3) := by decide +kernel
theorem dX0_change_5 : decode cX0_change 5 = .ok (.iload_n 1, 1) := by decide +kernel
theorem dX0_change_6 : decode cX0_change 6 = .ok (.iaload, 1) := by decide +kernel
theorem dX0_change_7 : decode cX0_change 7 = .ok (.isub, 1) := by decide +kernel
theorem dX0_change_8 : decode cX0_change 8 = .ok (.invokestatic 43, 3) := by decide +kernel
theorem dX0_change_11 : decode cX0_change 11 = .ok (.istore_n 3, 1) := by decide +kernel
theorem dX0_change_12 : decode cX0_change 12 = .ok (.aload_n 0, 1) := by decide +kernel
theorem dX0_change_13 : decode cX0_change 13 = .ok (.getfield 19, 3) := by decide +kernel
theorem dX0_change_16 : decode cX0_change 16 = .ok (.iload_n 1, 1) := by decide +kernel
theorem dX0_change_17 : decode cX0_change 17 = .ok (.iload_n 2, 1) := by decide +kernel
theorem dX0_change_18 : decode cX0_change 18 = .ok (.iastore, 1) := by decide +kernel
theorem dX0_change_19 : decode cX0_change 19 = .ok (.aload_n 0, 1) := by decide +kernel
theorem dX0_change_20 : decode cX0_change 20 = .ok (.getfield 25, 3) := by decide +kernel
theorem dX0_change_23 : decode cX0_change 23 = .ok (.iload_n 1, 1) := by decide +kernel
theorem dX0_change_24 : decode cX0_change 24 = .ok (.dup2, 1) := by decide +kernel
theorem dX0_change_25 : decode cX0_change 25 = .ok (.iaload, 1) := by decide +kernel
theorem dX0_change_26 : decode cX0_change 26 = .ok (.iload_n 3, 1) := by decide +kernel
theorem dX0_change_27 : decode cX0_change 27 = .ok (.iadd, 1) := by decide +kernel
theorem dX0_change_28 : decode cX0_change 28 = .ok (.iastore, 1) := by decide +kernel
theorem dX0_change_29 : decode cX0_change 29 = .ok (.iload_n 3, 1) := by decide +kernel
theorem dX0_change_30 : decode cX0_change 30 = .ok (.ireturn, 1) := by decide +kernel
theorem dX0_passHour_0 : decode cX0_passHour 0 = .ok (.iconst 0, 1) := by decide +kernel
theorem dX0_passHour_1 : decode cX0_passHour 1 = .ok (.istore_n 3, 1) := by decide +kernel
theorem dX0_passHour_2 : decode cX0_passHour 2 = .ok (.iload_n 3, 1) := by decide +kernel
theorem dX0_passHour_3 : decode cX0_passHour 3 = .ok (.iconst 4, 1) := by decide +kernel
theorem dX0_passHour_4 : decode cX0_passHour 4 = .ok (.if_icmp .ge 95, 3) := by decide +kernel
theorem dX0_passHour_7 : decode cX0_passHour 7 = .ok (.aload_n 1, 1) := by decide +kernel
theorem dX0_passHour_8 : decode cX0_passHour 8 = .ok (.getfield 49, 3) := by decide +kernel
theorem dX0_passHour_11 : decode cX0_passHour 11 = .ok (.iload_n 3, 1) := by decide +kernel
theorem dX0_passHour_12 : decode cX0_passHour 12 = .ok (.baload, 1) := by decide +kernel
theorem dX0_passHour_13 : decode cX0_passHour 13 = .ok (.ifCond .eq 68, 3) := by decide +kernel
theorem dX0_passHour_16 : decode cX0_passHour 16 = .ok (.aload_n 0, 1) := by decide +kernel
theorem dX0_passHour_17 : decode cX0_passHour 17 = .ok (.getfield 15, 3) := by decide +kernel
theorem dX0_passHour_20 : decode cX0_passHour 20 = .ok (.iload_n 3, 1) := by decide +kernel
theorem dX0_passHour_21 : decode cX0_passHour 21 = .ok (.iaload, 1) := by decide +kernel
theorem dX0_passHour_22 : decode cX0_passHour 22 = .ok (.sipush 160, 3) := by decide +kernel
theorem dX0_passHour_25 : decode cX0_passHour 25 = .ok (.if_icmp .eq 56, 3) := by decide +kernel
theorem dX0_passHour_28 : decode cX0_passHour 28 = .ok (.aload_n 1, 1) := by decide +kernel
theorem dX0_passHour_29 : decode cX0_passHour 29 = .ok (.iload_n 3, 1) := by decide +kernel
theorem dX0_passHour_30 : decode cX0_passHour 30 = .ok (.aload_n 0, 1) := by decide +kernel
theorem dX0_passHour_31 : decode cX0_passHour 31 = .ok (.getfield 15, 3) := by decide +kernel
theorem dX0_passHour_34 : decode cX0_passHour 34 = .ok (.iload_n 3, 1) := by decide +kernel
theorem dX0_passHour_35 : decode cX0_passHour 35 = .ok (.iaload, 1) := by decide +kernel
theorem dX0_passHour_36 : decode cX0_passHour 36 = .ok (.aload_n 0, 1) := by decide +kernel
theorem dX0_passHour_37 : decode cX0_passHour 37 = .ok (.getfield 19, 3) := by decide +kernel
theorem dX0_passHour_40 : decode cX0_passHour 40 = .ok (.iload_n 3, 1) := by decide +kernel
theorem dX0_passHour_41 : decode cX0_passHour 41 = .ok (.iaload, 1) := by decide +kernel
theorem dX0_passHour_42 : decode cX0_passHour 42 = .ok (.iload_n 2, 1) := by decide +kernel
theorem dX0_passHour_43 : decode cX0_passHour 43 = .ok (.invokevirtual 55, 3) := by decide +kernel
theorem dX0_passHour_46 : decode cX0_passHour 46 = .ok (.istore 4, 2) := by decide +kernel
theorem dX0_passHour_48 : decode cX0_passHour 48 = .ok (.aload_n 0, 1) := by decide +kernel
theorem dX0_passHour_49 : decode cX0_passHour 49 = .ok (.getfield 28, 3) := by decide +kernel
theorem dX0_passHour_52 : decode cX0_passHour 52 = .ok (.iload_n 3, 1) := by decide +kernel
theorem dX0_passHour_53 : decode cX0_passHour 53 = .ok (.dup2, 1) := by decide +kernel
theorem dX0_passHour_54 : decode cX0_passHour 54 = .ok (.iaload, 1) := by decide +kernel
theorem dX0_passHour_55 : decode cX0_passHour 55 = .ok (.iload 4, 2) := by decide +kernel
theorem dX0_passHour_57 : decode cX0_passHour 57 = .ok (.aload_n 0, 1) := by decide +kernel
theorem dX0_passHour_58 : decode cX0_passHour 58 = .ok (.getfield 15, 3) := by decide +kernel
theorem dX0_passHour_61 : decode cX0_passHour 61 = .ok (.iload_n 3, 1) := by decide +kernel
theorem dX0_passHour_62 : decode cX0_passHour 62 = .ok (.iaload, 1) := by decide +kernel
theorem dX0_passHour_63 : decode cX0_passHour 63 = .ok (.if_icmp .ne 7, 3) := by decide +kernel
theorem dX0_passHour_66 : decode cX0_passHour 66 = .ok (.iconst 1, 1) := by decide +kernel
theorem dX0_passHour_67 : decode cX0_passHour 67 = .ok (.goto 4, 3) := by decide +kernel
theorem dX0_passHour_70 : decode cX0_passHour 70 = .ok (.iconst 0, 1) := by decide +kernel
theorem dX0_passHour_71 : decode cX0_passHour 71 = .ok (.iadd, 1) := by decide +kernel
theorem dX0_passHour_72 : decode cX0_passHour 72 = .ok (.iastore, 1) := by decide +kernel
theorem dX0_passHour_73 : decode cX0_passHour 73 = .ok (.aload_n 0, 1) := by decide +kernel
theorem dX0_passHour_74 : decode cX0_passHour 74 = .ok (.getfield 15, 3) := by decide +kernel
theorem dX0_passHour_77 : decode cX0_passHour 77 = .ok (.iload_n 3, 1) := by decide +kernel
theorem dX0_passHour_78 : decode cX0_passHour 78 = .ok (.iload 4, 2) := by decide +kernel
theorem dX0_passHour_80 : decode cX0_passHour 80 = .ok (.iastore, 1) := by decide +kernel
theorem dX0_passHour_81 : decode cX0_passHour 81 = .ok (.aload_n 0, 1) := by decide +kernel
theorem dX0_passHour_82 : decode cX0_passHour 82 = .ok (.getfield 22, 3) := by decide +kernel
theorem dX0_passHour_85 : decode cX0_passHour 85 = .ok (.iload_n 3, 1) := by decide +kernel
theorem dX0_passHour_86 : decode cX0_passHour 86 = .ok (.aload_n 0, 1) := by decide +kernel
theorem dX0_passHour_87 : decode cX0_passHour 87 = .ok (.getfield 19, 3) := by decide +kernel
theorem dX0_passHour_90 : decode cX0_passHour 90 = .ok (.iload_n 3, 1) := by decide +kernel
theorem dX0_passHour_91 : decode cX0_passHour 91 = .ok (.iaload, 1) := by decide +kernel
theorem dX0_passHour_92 : decode cX0_passHour 92 = .ok (.iastore, 1) := by decide +kernel
theorem dX0_passHour_93 : decode cX0_passHour 93 = .ok (.iinc 3 1, 3) := by decide +kernel
theorem dX0_passHour_96 : decode cX0_passHour 96 = .ok (.goto (-94), 3) := by decide +kernel
theorem dX0_passHour_99 : decode cX0_passHour 99 = .ok (.aload_n 0, 1) := by decide +kernel
theorem dX0_passHour_100 : decode cX0_passHour 100 = .ok (.iload_n 2, 1) := by decide +kernel
theorem dX0_passHour_101 : decode cX0_passHour 101 = .ok (.iconst 1, 1) := by decide +kernel
theorem dX0_passHour_102 : decode cX0_passHour 102 = .ok (.iadd, 1) := by decide +kernel
theorem dX0_passHour_103 : decode cX0_passHour 103 = .ok (.putfield 9, 3) := by decide +kernel
theorem dX0_passHour_106 : decode cX0_passHour 106 = .ok (.return_, 1) := by decide +kernel
theorem dX0_areKnotted_0 : decode cX0_areKnotted 0 = .ok (.aload_n 0, 1) := by decide +kernel
theorem dX0_areKnotted_1 : decode cX0_areKnotted 1 = .ok (.getfield 15, 3) := by decide +kernel
theorem dX0_areKnotted_4 : decode cX0_areKnotted 4 = .ok (.iload_n 1, 1) := by decide +kernel
theorem dX0_areKnotted_5 : decode cX0_areKnotted 5 = .ok (.iaload, 1) := by decide +kernel
theorem dX0_areKnotted_6 : decode cX0_areKnotted 6 = .ok (.aload_n 0, 1) := by decide +kernel
theorem dX0_areKnotted_7 : decode cX0_areKnotted 7 = .ok (.getfield 19, 3) := by decide +kernel
theorem dX0_areKnotted_10 : decode cX0_areKnotted 10 = .ok (.iload_n 1, 1) := by decide +kernel
theorem dX0_areKnotted_11 : decode cX0_areKnotted 11 = .ok (.iaload, 1) := by decide +kernel
theorem dX0_areKnotted_12 : decode cX0_areKnotted 12 = .ok (.aload_n 0, 1) := by decide +kernel
theorem dX0_areKnotted_13 : decode cX0_areKnotted 13 = .ok (.getfield 15, 3) := by decide +kernel
theorem dX0_areKnotted_16 : decode cX0_areKnotted 16 = .ok (.iload_n 2, 1) := by decide +kernel
theorem dX0_areKnotted_17 : decode cX0_areKnotted 17 = .ok (.iaload, 1) := by decide +kernel
theorem dX0_areKnotted_18 : decode cX0_areKnotted 18 = .ok (.aload_n 0, 1) := by decide +kernel
theorem dX0_areKnotted_19 : decode cX0_areKnotted 19 = .ok (.getfield 19, 3) := by decide +kernel
theorem dX0_areKnotted_22 : decode cX0_areKnotted 22 = .ok (.iload_n 2, 1) := by decide +kernel
theorem dX0_areKnotted_23 : decode cX0_areKnotted 23 = .ok (.iaload, 1) := by decide +kernel
theorem dX0_areKnotted_24 : decode cX0_areKnotted 24 = .ok (.invokestatic 59, 3) := by decide +kernel
theorem dX0_areKnotted_27 : decode cX0_areKnotted 27 = .ok (.ireturn, 1) := by decide +kernel
theorem dX1_init_0 : decode cX1_init 0 = .ok (.aload_n 0, 1) := by decide +kernel
theorem dX1_init_1 : decode cX1_init 1 = .ok (.invokespecial 3, 3) := by decide +kernel
theorem dX1_init_4 : decode cX1_init 4 = .ok (.aload_n 0, 1) := by decide +kernel
theorem dX1_init_5 : decode cX1_init 5 = .ok (.bipush 24, 2) := by decide +kernel
theorem dX1_init_7 : decode cX1_init 7 = .ok (.newarray .int, 2) := by decide +kernel
theorem dX1_init_9 : decode cX1_init 9 = .ok (.putfield 9, 3) := by decide +kernel
theorem dX1_init_12 : decode cX1_init 12 = .ok (.aload_n 0, 1) := by decide +kernel
theorem dX1_init_13 : decode cX1_init 13 = .ok (.bipush 24, 2) := by decide +kernel
theorem dX1_init_15 : decode cX1_init 15 = .ok (.newarray .int, 2) := by decide +kernel
theorem dX1_init_17 : decode cX1_init 17 = .ok (.putfield 15, 3) := by decide +kernel
theorem dX1_init_20 : decode cX1_init 20 = .ok (.aload_n 0, 1) := by decide +kernel
theorem dX1_init_21 : decode cX1_init 21 = .ok (.getfield 9, 3) := by decide +kernel
theorem dX1_init_24 : decode cX1_init 24 = .ok (.sipush 160, 3) := by decide +kernel
theorem dX1_init_27 : decode cX1_init 27 = .ok (.invokestatic 18, 3) := by decide +kernel
theorem dX1_init_30 : decode cX1_init 30 = .ok (.return_, 1) := by decide +kernel
theorem dX2_init_0 : decode cX2_init 0 = .ok (.aload_n 0, 1) := by decide +kernel
theorem dX2_init_1 : decode cX2_init 1 = .ok (.invokespecial 3, 3) := by decide +kernel
theorem dX2_init_4 : decode cX2_init 4 = .ok (.aload_n 0, 1) := by decide +kernel
theorem dX2_init_5 : decode cX2_init 5 = .ok (.sipush 512, 3) := by decide +kernel
theorem dX2_init_8 : decode cX2_init 8 = .ok (.newarray .int, 2) := by decide +kernel
theorem dX2_init_10 : decode cX2_init 10 = .ok (.putfield 11, 3) := by decide +kernel
theorem dX2_init_13 : decode cX2_init 13 = .ok (.aload_n 0, 1) := by decide +kernel
theorem dX2_init_14 : decode cX2_init 14 = .ok (.sipush 512, 3) := by decide +kernel
theorem dX2_init_17 : decode cX2_init 17 = .ok (.newarray .long, 2) := by decide +kernel
theorem dX2_init_19 : decode cX2_init 19 = .ok (.putfield 15, 3) := by decide +kernel
theorem dX2_init_22 : decode cX2_init 22 = .ok (.aload_n 0, 1) := by decide +kernel
theorem dX2_init_23 : decode cX2_init 23 = .ok (.sipush 966, 3) := by decide +kernel
theorem dX2_init_26 : decode cX2_init 26 = .ok (.newarray .long, 2) := by decide +kernel
theorem dX2_init_28 : decode cX2_init 28 = .ok (.putfield 19, 3) := by decide +kernel
theorem dX2_init_31 : decode cX2_init 31 = .ok (.aload_n 0, 1) := by decide +kernel
theorem dX2_init_32 : decode cX2_init 32 = .ok (.sipush 966, 3) := by decide +kernel
theorem dX2_init_35 : decode cX2_init 35 = .ok (.newarray .long, 2) := by decide +kernel
theorem dX2_init_37 : decode cX2_init 37 = .ok (.putfield 22, 3) := by decide +kernel
theorem dX2_init_40 : decode cX2_init 40 = .ok (.aload_n 0, 1) := by decide +kernel
theorem dX2_init_41 : decode cX2_init 41 = .ok (.sipush 161, 3) := by decide +kernel
theorem dX2_init_44 : decode cX2_init 44 = .ok (.newarray .int, 2) := by decide +kernel
theorem dX2_init_46 : decode cX2_init 46 = .ok (.putfield 25, 3) := by decide +kernel
theorem dX2_init_49 : decode cX2_init 49 = .ok (.aload_n 0, 1) := by decide +kernel
theorem dX2_init_50 : decode cX2_init 50 = .ok (.bipush 6, 2) := by decide +kernel
theorem dX2_init_52 : decode cX2_init 52 = .ok (.newarray .long, 2) := by decide +kernel
theorem dX2_init_54 : decode cX2_init 54 = .ok (.putfield 28, 3) := by decide +kernel
theorem dX2_init_57 : decode cX2_init 57 = .ok (.aload_n 0, 1) := by decide +kernel
theorem dX2_init_58 : decode cX2_init 58 = .ok (.bipush 6, 2) := by decide +kernel
theorem dX2_init_60 : decode cX2_init 60 = .ok (.newarray .long, 2) := by decide +kernel
theorem dX2_init_62 : decode cX2_init 62 = .ok (.putfield 31, 3) := by decide +kernel
theorem dX2_init_65 : decode cX2_init 65 = .ok (.aload_n 0, 1) := by decide +kernel
theorem dX2_init_66 : decode cX2_init 66 = .ok (.aload_n 1, 1) := by decide +kernel
theorem dX2_init_67 : decode cX2_init 67 = .ok (.putfield 34, 3) := by decide +kernel
theorem dX2_init_70 : decode cX2_init 70 = .ok (.return_, 1) := by decide +kernel
theorem dX2_start_0 : decode cX2_start 0 = .ok (.aload_n 0, 1) := by decide +kernel
theorem dX2_start_1 : decode cX2_start 1 = .ok (.getfield 11, 3) := by decide +kernel
theorem dX2_start_4 : decode cX2_start 4 = .ok (.iconst 1, 1) := by decide +kernel
theorem dX2_start_5 : decode cX2_start 5 = .ok (.aload_n 0, 1) := by decide +kernel
theorem dX2_start_6 : decode cX2_start 6 = .ok (.getfield 34, 3) := by decide +kernel
theorem dX2_start_9 : decode cX2_start 9 = .ok (.invokevirtual 38, 3) := by decide +kernel
theorem dX2_start_12 : decode cX2_start 12 = .ok (.iastore, 1) := by decide +kernel
theorem dX2_start_13 : decode cX2_start 13 = .ok (.aload_n 0, 1) := by decide +kernel
theorem dX2_start_14 : decode cX2_start 14 = .ok (.getfield 15, 3) := by decide +kernel
theorem dX2_start_17 : decode cX2_start 17 = .ok (.iconst 1, 1) := by decide +kernel
theorem dX2_start_18 : decode cX2_start 18 = .ok (.lconst 1, 1) := by decide +kernel
theorem dX2_start_19 : decode cX2_start 19 = .ok (.lastore, 1) := by decide +kernel
theorem dX2_start_20 : decode cX2_start 20 = .ok (.iconst 1, 1) := by decide +kernel
theorem dX2_start_21 : decode cX2_start 21 = .ok (.iload_n 1, 1) := by decide +kernel
theorem dX2_start_22 : decode cX2_start 22 = .ok (.bipush 8, 2) := by decide +kernel
theorem dX2_start_24 : decode cX2_start 24 = .ok (.invokestatic 44, 3) := by decide +kernel
theorem dX2_start_27 : decode cX2_start 27 = .ok (.ishl, 1) := by decide +kernel
theorem dX2_start_28 : decode cX2_start 28 = .ok (.istore_n 3, 1) := by decide +kernel
theorem dX2_start_29 : decode cX2_start 29 = .ok (.iconst 1, 1) := by decide +kernel
theorem dX2_start_30 : decode cX2_start 30 = .ok (.istore 4, 2) := by decide +kernel
theorem dX2_start_32 : decode cX2_start 32 = .ok (.iload 4, 2) := by decide +kernel
theorem dX2_start_34 : decode cX2_start 34 = .ok (.iload_n 3, 1) := by decide +kernel
theorem dX2_start_35 : decode cX2_start 35 = .ok (.if_icmp .ge 52, 3) := by decide +kernel
theorem dX2_start_38 : decode cX2_start 38 = .ok (.aload_n 0, 1) := by decide +kernel
theorem dX2_start_39 : decode cX2_start 39 = .ok (.getfield 15, 3) := by decide +kernel
theorem dX2_start_42 : decode cX2_start 42 = .ok (.iconst 2, 1) := by decide +kernel
theorem dX2_start_43 : decode cX2_start 43 = .ok (.iload 4, 2) := by decide +kernel
theorem dX2_start_45 : decode cX2_start 45 = .ok (.imul, 1) := by decide +kernel
theorem dX2_start_46 : decode cX2_start 46 = .ok (.aload_n 0, 1) := by decide +kernel
theorem dX2_start_47 : decode cX2_start 47 = .ok (.getfield 15, 3) := by decide +kernel
theorem dX2_start_50 : decode cX2_start 50 = .ok (.iload 4, 2) := by decide +kernel
theorem dX2_start_52 : decode cX2_start 52 = .ok (.laload, 1) := by decide +kernel
theorem dX2_start_53 : decode cX2_start 53 = .ok (.iload_n 2, 1) := by decide +kernel
theorem dX2_start_54 : decode cX2_start 54 = .ok (.i2l, 1) := by decide +kernel
theorem dX2_start_55 : decode cX2_start 55 = .ok (.lmul, 1) := by decide +kernel
theorem dX2_start_56 : decode cX2_start 56 = .ok (.lastore, 1) := by decide +kernel
theorem dX2_start_57 : decode cX2_start 57 = .ok (.aload_n 0, 1) := by decide +kernel
theorem dX2_start_58 : decode cX2_start 58 = .ok (.getfield 15, 3) := by decide +kernel
theorem dX2_start_61 : decode cX2_start 61 = .ok (.iconst 2, 1) := by decide +kernel
theorem dX2_start_62 : decode cX2_start 62 = .ok (.iload 4, 2) := by decide +kernel
theorem dX2_start_64 : decode cX2_start 64 = .ok (.imul, 1) := by decide +kernel
theorem dX2_start_65 : decode cX2_start 65 = .ok (.iconst 1, 1) := by decide +kernel
theorem dX2_start_66 : decode cX2_start 66 = .ok (.iadd, 1) := by decide +kernel
theorem dX2_start_67 : decode cX2_start 67 = .ok (.aload_n 0, 1) := by decide +kernel
theorem dX2_start_68 : decode cX2_start 68 = .ok (.getfield 15, 3) := by decide +kernel
theorem dX2_start_71 : decode cX2_start 71 = .ok (.iload 4, 2) := by decide +kernel
theorem dX2_start_73 : decode cX2_start 73 = .ok (.laload, 1) := by decide +kernel
theorem dX2_start_74 : decode cX2_start 74 = .ok (.bipush 10, 2) := by decide +kernel
theorem dX2_start_76 : decode cX2_start 76 = .ok (.iload_n 2, 1) := by decide +kernel
theorem dX2_start_77 : decode cX2_start 77 = .ok (.isub, 1) := by decide +kernel
theorem dX2_start_78 : decode cX2_start 78 = .ok (.i2l, 1) := by decide +kernel
theorem dX2_start_79 : decode cX2_start 79 = .ok (.lmul, 1) := by decide +kernel
theorem dX2_start_80 : decode cX2_start 80 = .ok (.lastore, 1) := by decide +kernel
theorem dX2_start_81 : decode cX2_start 81 = .ok (.iinc 4 1, 3) := by decide +kernel
theorem dX2_start_84 : decode cX2_start 84 = .ok (.goto (-52), 3) := by decide +kernel
theorem dX2_start_87 : decode cX2_start 87 = .ok (.return_, 1) := by decide +kernel
theorem dX2_branch_0 : decode cX2_branch 0 = .ok (.iload_n 2, 1) := by decide +kernel
theorem dX2_branch_1 : decode cX2_branch 1 = .ok (.ifCond .lt 9, 3) := by decide +kernel
theorem dX2_branch_4 : decode cX2_branch 4 = .ok (.iload_n 2, 1) := by decide +kernel
theorem dX2_branch_5 : decode cX2_branch 5 = .ok (.bipush 8, 2) := by decide +kernel
theorem dX2_branch_7 : decode cX2_branch 7 = .ok (.if_icmp .lt 4, 3) := by decide +kernel
theorem dX2_branch_10 : decode cX2_branch 10 = .ok (.return_, 1) := by decide +kernel
theorem dX2_branch_11 : decode cX2_branch 11 = .ok (.iconst 1, 1) := by decide +kernel
theorem dX2_branch_12 : decode cX2_branch 12 = .ok (.iload_n 2, 1) := by decide +kernel
theorem dX2_branch_13 : decode cX2_branch 13 = .ok (.ishl, 1) := by decide +kernel
theorem dX2_branch_14 : decode cX2_branch 14 = .ok (.istore 4, 2) := by decide +kernel
theorem dX2_branch_16 : decode cX2_branch 16 = .ok (.iload 4, 2) := by decide +kernel
theorem dX2_branch_18 : decode cX2_branch 18 = .ok (.iconst 2, 1) := by decide +kernel
theorem dX2_branch_19 : decode cX2_branch 19 = .ok (.iload_n 2, 1) := by decide +kernel
theorem dX2_branch_20 : decode cX2_branch 20 = .ok (.ishl, 1) := by decide +kernel
theorem dX2_branch_21 : decode cX2_branch 21 = .ok (.if_icmp .ge 53, 3) := by decide +kernel
theorem dX2_branch_24 : decode cX2_branch 24 = .ok (.aload_n 0, 1) := by decide +kernel
theorem dX2_branch_25 : decode cX2_branch 25 = .ok (.getfield 11, 3) := by decide +kernel
theorem dX2_branch_28 : decode cX2_branch 28 = .ok (.iconst 2, 1) := by decide +kernel
theorem dX2_branch_29 : decode cX2_branch 29 = .ok (.iload 4, 2) := by decide +kernel
theorem dX2_branch_31 : decode cX2_branch 31 = .ok (.imul, 1) := by decide +kernel
theorem dX2_branch_32 : decode cX2_branch 32 = .ok (.aload_n 0, 1) := by decide +kernel
theorem dX2_branch_33 : decode cX2_branch 33 = .ok (.getfield 11, 3) := by decide +kernel
theorem dX2_branch_36 : decode cX2_branch 36 = .ok (.iload 4, 2) := by decide +kernel
theorem dX2_branch_38 : decode cX2_branch 38 = .ok (.iaload, 1) := by decide +kernel
theorem dX2_branch_39 : decode cX2_branch 39 = .ok (.iastore, 1) := by decide +kernel
theorem dX2_branch_40 : decode cX2_branch 40 = .ok (.aload_n 0, 1) := by decide +kernel
theorem dX2_branch_41 : decode cX2_branch 41 = .ok (.getfield 11, 3) := by decide +kernel
theorem dX2_branch_44 : decode cX2_branch 44 = .ok (.iconst 2, 1) := by decide +kernel
theorem dX2_branch_45 : decode cX2_branch 45 = .ok (.iload 4, 2) := by decide +kernel
theorem dX2_branch_47 : decode cX2_branch 47 = .ok (.imul, 1) := by decide +kernel
theorem dX2_branch_48 : decode cX2_branch 48 = .ok (.iconst 1, 1) := by decide +kernel
theorem dX2_branch_49 : decode cX2_branch 49 = .ok (.iadd, 1) := by decide +kernel
theorem dX2_branch_50 : decode cX2_branch 50 = .ok (.aload_n 0, 1) := by decide +kernel
theorem dX2_branch_51 : decode cX2_branch 51 = .ok (.getfield 34, 3) := by decide +kernel
theorem dX2_branch_54 : decode cX2_branch 54 = .ok (.iload_n 1, 1) := by decide +kernel
theorem dX2_branch_55 : decode cX2_branch 55 = .ok (.aload_n 0, 1) := by decide +kernel
theorem dX2_branch_56 : decode cX2_branch 56 = .ok (.getfield 11, 3) := by decide +kernel
theorem dX2_branch_59 : decode cX2_branch 59 = .ok (.iload 4, 2) := by decide +kernel
theorem dX2_branch_61 : decode cX2_branch 61 = .ok (.iaload, 1) := by decide +kernel
theorem dX2_branch_62 : decode cX2_branch 62 = .ok (.iload_n 3, 1) := by decide +kernel
theorem dX2_branch_63 : decode cX2_branch 63 = .ok (.iload_n 2, 1) := by decide +kernel
theorem dX2_branch_64 : decode cX2_branch 64 = .ok (.invokevirtual 50, 3) := by decide +kernel
theorem dX2_branch_67 : decode cX2_branch 67 = .ok (.iastore, 1) := by decide +kernel
theorem dX2_branch_68 : decode cX2_branch 68 = .ok (.iinc 4 1, 3) := by decide +kernel
theorem dX2_branch_71 : decode cX2_branch 71 = .ok (.goto (-55), 3) := by decide +kernel
theorem dX2_branch_74 : decode cX2_branch 74 = .ok (.return_, 1) := by decide +kernel
theorem dX2_thereAfter_0 : decode cX2_thereAfter 0 = .ok (.lconst 0, 1) := by decide +kernel
theorem dX2_thereAfter_1 : decode cX2_thereAfter 1 = .ok (.lstore_n 2, 1) := by decide +kernel
theorem dX2_thereAfter_2 : decode cX2_thereAfter 2 = .ok (.iload_n 1, 1) := by decide +kernel
theorem dX2_thereAfter_3 : decode cX2_thereAfter 3 = .ok (.ifCond .lt 9, 3) := by decide +kernel
theorem dX2_thereAfter_6 : decode cX2_thereAfter 6 = .ok (.iload_n 1, 1) := by decide +kernel
theorem dX2_thereAfter_7 : decode cX2_thereAfter 7 = .ok (.bipush 8, 2) := by decide +kernel
theorem dX2_thereAfter_9 : decode cX2_thereAfter 9 = .ok (.if_icmp .le 5, 3) := by decide +kernel
theorem dX2_thereAfter_12 : decode cX2_thereAfter 12 = .ok (.lload_n 2, 1) := by decide +kernel
theorem dX2_thereAfter_13 : decode cX2_thereAfter 13 = .ok (.lreturn, 1) := by decide +kernel
theorem dX2_thereAfter_14 : decode cX2_thereAfter 14 = .ok (.iconst 1, 1) := by decide +kernel
theorem dX2_thereAfter_15 : decode cX2_thereAfter 15 = .ok (.iload_n 1, 1) := by decide +kernel
theorem dX2_thereAfter_16 : decode cX2_thereAfter 16 = .ok (.ishl, 1) := by decide +kernel
theorem dX2_thereAfter_17 : decode cX2_thereAfter 17 = .ok (.istore 4, 2) := by decide +kernel
theorem dX2_thereAfter_19 : decode cX2_thereAfter 19 = .ok (.iload 4, 2) := by decide +kernel
theorem dX2_thereAfter_21 : decode cX2_thereAfter 21 = .ok (.iconst 2, 1) := by decide +kernel
theorem dX2_thereAfter_22 : decode cX2_thereAfter 22 = .ok (.iload_n 1, 1) := by decide +kernel
theorem dX2_thereAfter_23 : decode cX2_thereAfter 23 = .ok (.ishl, 1) := by decide +kernel
theorem dX2_thereAfter_24 : decode cX2_thereAfter 24 = .ok (.if_icmp .ge 36, 3) := by decide +kernel
theorem dX2_thereAfter_27 : decode cX2_thereAfter 27 = .ok (.lload_n 2, 1) := by decide +kernel
theorem dX2_thereAfter_28 : decode cX2_thereAfter 28 = .ok (.aload_n 0, 1) := by decide +kernel
theorem dX2_thereAfter_29 : decode cX2_thereAfter 29 = .ok (.getfield 11, 3) := by decide +kernel
theorem dX2_thereAfter_32 : decode cX2_thereAfter 32 = .ok (.iload 4, 2) := by decide +kernel
theorem dX2_thereAfter_34 : decode cX2_thereAfter 34 = .ok (.iaload, 1) := by decide +kernel
theorem dX2_thereAfter_35 : decode cX2_thereAfter 35 = .ok (.sipush 160, 3) := by decide +kernel
theorem dX2_thereAfter_38 : decode cX2_thereAfter 38 = .ok (.if_icmp .ne 13, 3) := by decide +kernel
theorem dX2_thereAfter_41 : decode cX2_thereAfter 41 = .ok (.aload_n 0, 1) := by decide +kernel
theorem dX2_thereAfter_42 : decode cX2_thereAfter 42 = .ok (.getfield 15, 3) := by decide +kernel
theorem dX2_thereAfter_45 : decode cX2_thereAfter 45 = .ok (.iload 4, 2) := by decide +kernel
theorem dX2_thereAfter_47 : decode cX2_thereAfter 47 = .ok (.laload, 1) := by decide +kernel
theorem dX2_thereAfter_48 : decode cX2_thereAfter 48 = .ok (.goto 4, 3) := by decide +kernel
theorem dX2_thereAfter_51 : decode cX2_thereAfter 51 = .ok (.lconst 0, 1) := by decide +kernel
theorem dX2_thereAfter_52 : decode cX2_thereAfter 52 = .ok (.ladd, 1) := by decide +kernel
theorem dX2_thereAfter_53 : decode cX2_thereAfter 53 = .ok (.lstore_n 2, 1) := by decide +kernel
theorem dX2_thereAfter_54 : decode cX2_thereAfter 54 = .ok (.iinc 4 1, 3) := by decide +kernel
theorem dX2_thereAfter_57 : decode cX2_thereAfter 57 = .ok (.goto (-38), 3) := by decide +kernel
theorem dX2_thereAfter_60 : decode cX2_thereAfter 60 = .ok (.lload_n 2, 1) := by decide +kernel
theorem dX2_thereAfter_61 : decode cX2_thereAfter 61 = .ok (.lreturn, 1) := by decide +kernel
theorem dX2_bestBlind_0 : decode cX2_bestBlind 0 = .ok (.aload_n 0, 1) := by decide +kernel
theorem dX2_bestBlind_1 : decode cX2_bestBlind 1 = .ok (.iload_n 2, 1) := by decide +kernel
theorem dX2_bestBlind_2 : decode cX2_bestBlind 2 = .ok (.iload_n 3, 1) := by decide +kernel
theorem dX2_bestBlind_3 : decode cX2_bestBlind 3 = .ok (.invokevirtual 54, 3) := by decide +kernel
theorem dX2_bestBlind_6 : decode cX2_bestBlind 6 = .ok (.aload_n 0, 1) := by decide +kernel
theorem dX2_bestBlind_7 : decode cX2_bestBlind 7 = .ok (.iload_n 1, 1) := by decide +kernel
theorem dX2_bestBlind_8 : decode cX2_bestBlind 8 = .ok (.iload_n 2, 1) := by decide +kernel
theorem dX2_bestBlind_9 : decode cX2_bestBlind 9 = .ok (.iconst 0, 1) := by decide +kernel
theorem dX2_bestBlind_10 : decode cX2_bestBlind 10 = .ok (.iconst 0, 1) := by decide +kernel
theorem dX2_bestBlind_11 : decode cX2_bestBlind 11 = .ok (.invokevirtual 58, 3) := by decide +kernel
theorem dX2_bestBlind_14 : decode cX2_bestBlind 14 = .ok (.lreturn, 1) := by decide +kernel
theorem dX2_bestRow_0 : decode cX2_bestRow 0 = .ok (.iload_n 3, 1) := by decide +kernel
theorem dX2_bestRow_1 : decode cX2_bestRow 1 = .ok (.iload_n 2, 1) := by decide +kernel
theorem dX2_bestRow_2 : decode cX2_bestRow 2 = .ok (.if_icmp .ge 8, 3) := by decide +kernel
theorem dX2_bestRow_5 : decode cX2_bestRow 5 = .ok (.iload_n 3, 1) := by decide +kernel
theorem dX2_bestRow_6 : decode cX2_bestRow 6 = .ok (.iconst 4, 1) := by decide +kernel
theorem dX2_bestRow_7 : decode cX2_bestRow 7 = .ok (.if_icmp .lt 9, 3) := by decide +kernel
theorem dX2_bestRow_10 : decode cX2_bestRow 10 = .ok (.aload_n 0, 1) := by decide +kernel
theorem dX2_bestRow_11 : decode cX2_bestRow 11 = .ok (.iload_n 2, 1) := by decide +kernel
theorem dX2_bestRow_12 : decode cX2_bestRow 12 = .ok (.invokevirtual 62, 3) := by decide +kernel
theorem dX2_bestRow_15 : decode cX2_bestRow 15 = .ok (.lreturn, 1) := by decide +kernel
theorem dX2_bestRow_16 : decode cX2_bestRow 16 = .ok (.lconst 0, 1) := by decide +kernel
theorem dX2_bestRow_17 : decode cX2_bestRow 17 = .ok (.lstore 5, 2) := by decide +kernel
theorem dX2_bestRow_19 : decode cX2_bestRow 19 = .ok (.aload_n 0, 1) := by decide +kernel
theorem dX2_bestRow_20 : decode cX2_bestRow 20 = .ok (.getfield 34, 3) := by decide +kernel
theorem dX2_bestRow_23 : decode cX2_bestRow 23 = .ok (.iload_n 1, 1) := by decide +kernel
theorem dX2_bestRow_24 : decode cX2_bestRow 24 = .ok (.invokevirtual 66, 3) := by decide +kernel
theorem dX2_bestRow_27 : decode cX2_bestRow 27 = .ok (.istore 7, 2) := by decide +kernel
theorem dX2_bestRow_29 : decode cX2_bestRow 29 = .ok (.iconst 5, 1) := by decide +kernel
theorem dX2_bestRow_30 : decode cX2_bestRow 30 = .ok (.iload 4, 2) := by decide +kernel
theorem dX2_bestRow_32 : decode cX2_bestRow 32 = .ok (.iload 7, 2) := by decide +kernel
theorem dX2_bestRow_34 : decode cX2_bestRow 34 = .ok (.iadd, 1) := by decide +kernel
theorem dX2_bestRow_35 : decode cX2_bestRow 35 = .ok (.invokestatic 44, 3) := by decide +kernel
theorem dX2_bestRow_38 : decode cX2_bestRow 38 = .ok (.istore 8, 2) := by decide +kernel
theorem dX2_bestRow_40 : decode cX2_bestRow 40 = .ok (.iconst 0, 1) := by decide +kernel
theorem dX2_bestRow_41 : decode cX2_bestRow 41 = .ok (.iload 4, 2) := by decide +kernel
theorem dX2_bestRow_43 : decode cX2_bestRow 43 = .ok (.iload 7, 2) := by decide +kernel
theorem dX2_bestRow_45 : decode cX2_bestRow 45 = .ok (.isub, 1) := by decide +kernel
theorem dX2_bestRow_46 : decode cX2_bestRow 46 = .ok (.invokestatic 70, 3) := by decide +kernel
theorem dX2_bestRow_49 : decode cX2_bestRow 49 = .ok (.istore 9, 2) := by decide +kernel
theorem dX2_bestRow_51 : decode cX2_bestRow 51 = .ok (.iload 9, 2) := by decide +kernel
theorem dX2_bestRow_53 : decode cX2_bestRow 53 = .ok (.iload 8, 2) := by decide +kernel
theorem dX2_bestRow_55 : decode cX2_bestRow 55 = .ok (.if_icmp .gt 35, 3) := by decide +kernel
theorem dX2_bestRow_58 : decode cX2_bestRow 58 = .ok (.aload_n 0, 1) := by decide +kernel
theorem dX2_bestRow_59 : decode cX2_bestRow 59 = .ok (.iload_n 1, 1) := by decide +kernel
theorem dX2_bestRow_60 : decode cX2_bestRow 60 = .ok (.iload_n 3, 1) := by decide +kernel
theorem dX2_bestRow_61 : decode cX2_bestRow 61 = .ok (.iload 9, 2) := by decide +kernel
theorem dX2_bestRow_63 : decode cX2_bestRow 63 = .ok (.invokevirtual 73, 3) := by decide +kernel
theorem dX2_bestRow_66 : decode cX2_bestRow 66 = .ok (.lload 5, 2) := by decide +kernel
theorem dX2_bestRow_68 : decode cX2_bestRow 68 = .ok (.aload_n 0, 1) := by decide +kernel
theorem dX2_bestRow_69 : decode cX2_bestRow 69 = .ok (.iload_n 1, 1) := by decide +kernel
theorem dX2_bestRow_70 : decode cX2_bestRow 70 = .ok (.iload_n 2, 1) := by decide +kernel
theorem dX2_bestRow_71 : decode cX2_bestRow 71 = .ok (.iload_n 3, 1) := by decide +kernel
theorem dX2_bestRow_72 : decode cX2_bestRow 72 = .ok (.iconst 1, 1) := by decide +kernel
theorem dX2_bestRow_73 : decode cX2_bestRow 73 = .ok (.iadd, 1) := by decide +kernel
theorem dX2_bestRow_74 : decode cX2_bestRow 74 = .ok (.iload 9, 2) := by decide +kernel
theorem dX2_bestRow_76 : decode cX2_bestRow 76 = .ok (.invokevirtual 58, 3) := by decide +kernel
theorem dX2_bestRow_79 : decode cX2_bestRow 79 = .ok (.invokestatic 77, 3) := by decide +kernel
theorem dX2_bestRow_82 : decode cX2_bestRow 82 = .ok (.lstore 5, 2) := by decide +kernel
theorem dX2_bestRow_84 : decode cX2_bestRow 84 = .ok (.iinc 9 1, 3) := by decide +kernel
theorem dX2_bestRow_87 : decode cX2_bestRow 87 = .ok (.goto (-36), 3) := by decide +kernel
theorem dX2_bestRow_90 : decode cX2_bestRow 90 = .ok (.lload 5, 2) := by decide +kernel
theorem dX2_bestRow_92 : decode cX2_bestRow 92 = .ok (.lreturn, 1) := by decide +kernel
theorem dX2_bestSeeing_0 : decode cX2_bestSeeing 0 = .ok (.aload_n 0, 1) := by decide +kernel
theorem dX2_bestSeeing_1 : decode cX2_bestSeeing 1 = .ok (.iload_n 1, 1) := by decide +kernel
theorem dX2_bestSeeing_2 : decode cX2_bestSeeing 2 = .ok (.iload_n 2, 1) := by decide +kernel
theorem dX2_bestSeeing_3 : decode cX2_bestSeeing 3 = .ok (.invokevirtual 80, 3) := by decide +kernel
theorem dX2_bestSeeing_6 : decode cX2_bestSeeing 6 = .ok (.aload_n 0, 1) := by decide +kernel
theorem dX2_bestSeeing_7 : decode cX2_bestSeeing 7 = .ok (.getfield 22, 3) := by decide +kernel
theorem dX2_bestSeeing_10 : decode cX2_bestSeeing 10 = .ok (.lconst 0, 1) := by decide +kernel
theorem dX2_bestSeeing_11 : decode cX2_bestSeeing 11 = .ok (.invokestatic 83, 3) := by decide +kernel
theorem dX2_bestSeeing_14 : decode cX2_bestSeeing 14 = .ok (.iconst 0, 1) := by decide +kernel
theorem dX2_bestSeeing_15 : decode cX2_bestSeeing 15 = .ok (.istore 4, 2) := by decide +kernel
theorem dX2_bestSeeing_17 : decode cX2_bestSeeing 17 = .ok (.iload 4, 2) := by decide +kernel
theorem dX2_bestSeeing_19 : decode cX2_bestSeeing 19 = .ok (.bipush 6, 2) := by decide +kernel
theorem dX2_bestSeeing_21 : decode cX2_bestSeeing 21 = .ok (.if_icmp .ge 21, 3) := by decide +kernel
theorem dX2_bestSeeing_24 : decode cX2_bestSeeing 24 = .ok (.aload_n 0, 1) := by decide +kernel
theorem dX2_bestSeeing_25 : decode cX2_bestSeeing 25 = .ok (.getfield 22, 3) := by decide +kernel
theorem dX2_bestSeeing_28 : decode cX2_bestSeeing 28 = .ok (.sipush 960, 3) := by decide +kernel
theorem dX2_bestSeeing_31 : decode cX2_bestSeeing 31 = .ok (.iload 4, 2) := by decide +kernel
theorem dX2_bestSeeing_33 : decode cX2_bestSeeing 33 = .ok (.iadd, 1) := by decide +kernel
theorem dX2_bestSeeing_34 : decode cX2_bestSeeing 34 = .ok (.lconst 1, 1) := by decide +kernel
theorem dX2_bestSeeing_35 : decode cX2_bestSeeing 35 = .ok (.lastore, 1) := by decide +kernel
theorem dX2_bestSeeing_36 : decode cX2_bestSeeing 36 = .ok (.iinc 4 1, 3) := by decide +kernel
theorem dX2_bestSeeing_39 : decode cX2_bestSeeing 39 = .ok (.goto (-22), 3) := by decide +kernel
theorem dX2_bestSeeing_42 : decode cX2_bestSeeing 42 = .ok (.iload_n 2, 1) := by decide +kernel
theorem dX2_bestSeeing_43 : decode cX2_bestSeeing 43 = .ok (.iconst 1, 1) := by decide +kernel
theorem dX2_bestSeeing_44 : decode cX2_bestSeeing 44 = .ok (.isub, 1) := by decide +kernel
theorem dX2_bestSeeing_45 : decode cX2_bestSeeing 45 = .ok (.istore 4, 2) := by decide +kernel
theorem dX2_bestSeeing_47 : decode cX2_bestSeeing 47 = .ok (.iload 4, 2) := by decide +kernel
theorem dX2_bestSeeing_49 : decode cX2_bestSeeing 49 = .ok (.ifCond .lt 52, 3) := by decide +kernel
theorem dX2_bestSeeing_52 : decode cX2_bestSeeing 52 = .ok (.iconst 0, 1) := by decide +kernel
theorem dX2_bestSeeing_53 : decode cX2_bestSeeing 53 = .ok (.istore 5, 2) := by decide +kernel
theorem dX2_bestSeeing_55 : decode cX2_bestSeeing 55 = .ok (.iload 5, 2) := by decide +kernel
theorem dX2_bestSeeing_57 : decode cX2_bestSeeing 57 = .ok (.sipush 161, 3) := by decide +kernel
theorem dX2_bestSeeing_60 : decode cX2_bestSeeing 60 = .ok (.if_icmp .ge 31, 3) := by decide +kernel
theorem dX2_bestSeeing_63 : decode cX2_bestSeeing 63 = .ok (.aload_n 0, 1) := by decide +kernel
theorem dX2_bestSeeing_64 : decode cX2_bestSeeing 64 = .ok (.getfield 25, 3) := by decide +kernel
theorem dX2_bestSeeing_67 : decode cX2_bestSeeing 67 = .ok (.iload 5, 2) := by decide +kernel
theorem dX2_bestSeeing_69 : decode cX2_bestSeeing 69 = .ok (.iaload, 1) := by decide +kernel
theorem dX2_bestSeeing_70 : decode cX2_bestSeeing 70 = .ok (.iload 4, 2) := by decide +kernel
theorem dX2_bestSeeing_72 : decode cX2_bestSeeing 72 = .ok (.if_icmp .gt 13, 3) := by decide +kernel
theorem dX2_bestSeeing_75 : decode cX2_bestSeeing 75 = .ok (.aload_n 0, 1) := by decide +kernel
theorem dX2_bestSeeing_76 : decode cX2_bestSeeing 76 = .ok (.iload_n 1, 1) := by decide +kernel
theorem dX2_bestSeeing_77 : decode cX2_bestSeeing 77 = .ok (.iload 5, 2) := by decide +kernel
theorem dX2_bestSeeing_79 : decode cX2_bestSeeing 79 = .ok (.iload 4, 2) := by decide +kernel
theorem dX2_bestSeeing_81 : decode cX2_bestSeeing 81 = .ok (.iload_n 3, 1) := by decide +kernel
theorem dX2_bestSeeing_82 : decode cX2_bestSeeing 82 = .ok (.invokevirtual 89, 3) := by decide +kernel
theorem dX2_bestSeeing_85 : decode cX2_bestSeeing 85 = .ok (.iinc 5 1, 3) := by decide +kernel
theorem dX2_bestSeeing_88 : decode cX2_bestSeeing 88 = .ok (.goto (-33), 3) := by decide +kernel
theorem dX2_bestSeeing_91 : decode cX2_bestSeeing 91 = .ok (.aload_n 0, 1) := by decide +kernel
theorem dX2_bestSeeing_92 : decode cX2_bestSeeing 92 = .ok (.invokevirtual 93, 3) := by decide +kernel
theorem dX2_bestSeeing_95 : decode cX2_bestSeeing 95 = .ok (.iinc 4 (-1), 3) := by decide +kernel
theorem dX2_bestSeeing_98 : decode cX2_bestSeeing 98 = .ok (.goto (-51), 3) := by decide +kernel
theorem dX2_bestSeeing_101 : decode cX2_bestSeeing 101 = .ok (.aload_n 0, 1) := by decide +kernel
theorem dX2_bestSeeing_102 : decode cX2_bestSeeing 102 = .ok (.getfield 22, 3) := by decide +kernel
theorem dX2_bestSeeing_105 : decode cX2_bestSeeing 105 = .ok (.aload_n 0, 1) := by decide +kernel
theorem dX2_bestSeeing_106 : decode cX2_bestSeeing 106 = .ok (.getfield 34, 3) := by decide +kernel
theorem dX2_bestSeeing_109 : decode cX2_bestSeeing 109 = .ok (.invokevirtual 38, 3) := by decide +kernel
theorem dX2_bestSeeing_112 : decode cX2_bestSeeing 112 = .ok (.bipush 6, 2) := by decide +kernel
theorem dX2_bestSeeing_114 : decode cX2_bestSeeing 114 = .ok (.imul, 1) := by decide +kernel
theorem dX2_bestSeeing_115 : decode cX2_bestSeeing 115 = .ok (.laload, 1) := by decide +kernel
theorem dX2_bestSeeing_116 : decode cX2_bestSeeing 116 = .ok (.lreturn, 1) := by decide +kernel
theorem dX2_findPlaces_0 : decode cX2_findPlaces 0 = .ok (.aload_n 0, 1) := by decide +kernel
theorem dX2_findPlaces_1 : decode cX2_findPlaces 1 = .ok (.getfield 25, 3) := by decide +kernel
theorem dX2_findPlaces_4 : decode cX2_findPlaces 4 = .ok (.bipush 24, 2) := by decide +kernel
theorem dX2_findPlaces_6 : decode cX2_findPlaces 6 = .ok (.invokestatic 96, 3) := by decide +kernel
theorem dX2_findPlaces_9 : decode cX2_findPlaces 9 = .ok (.aload_n 0, 1) := by decide +kernel
theorem dX2_findPlaces_10 : decode cX2_findPlaces 10 = .ok (.getfield 25, 3) := by decide +kernel
theorem dX2_findPlaces_13 : decode cX2_findPlaces 13 = .ok (.aload_n 0, 1) := by decide +kernel
theorem dX2_findPlaces_14 : decode cX2_findPlaces 14 = .ok (.getfield 34, 3) := by decide +kernel
theorem dX2_findPlaces_17 : decode cX2_findPlaces 17 = .ok (.invokevirtual 38, 3) := by decide +kernel
theorem dX2_findPlaces_20 : decode cX2_findPlaces 20 = .ok (.iconst 0, 1) := by decide +kernel
theorem dX2_findPlaces_21 : decode cX2_findPlaces 21 = .ok (.iastore, 1) := by decide +kernel
theorem dX2_findPlaces_22 : decode cX2_findPlaces 22 = .ok (.iconst 0, 1) := by decide +kernel
theorem dX2_findPlaces_23 : decode cX2_findPlaces 23 = .ok (.istore_n 3, 1) := by decide +kernel
theorem dX2_findPlaces_24 : decode cX2_findPlaces 24 = .ok (.iload_n 3, 1) := by decide +kernel
theorem dX2_findPlaces_25 : decode cX2_findPlaces 25 = .ok (.iload_n 2, 1) := by decide +kernel
theorem dX2_findPlaces_26 : decode cX2_findPlaces 26 = .ok (.iconst 1, 1) := by decide +kernel
theorem dX2_findPlaces_27 : decode cX2_findPlaces 27 = .ok (.isub, 1) := by decide +kernel
theorem dX2_findPlaces_28 : decode cX2_findPlaces 28 = .ok (.if_icmp .ge 45, 3) := by decide +kernel
theorem dX2_findPlaces_31 : decode cX2_findPlaces 31 = .ok (.iconst 0, 1) := by decide +kernel
theorem dX2_findPlaces_32 : decode cX2_findPlaces 32 = .ok (.istore 4, 2) := by decide +kernel
theorem dX2_findPlaces_34 : decode cX2_findPlaces 34 = .ok (.iload 4, 2) := by decide +kernel
theorem dX2_findPlaces_36 : decode cX2_findPlaces 36 = .ok (.sipush 160, 3) := by decide +kernel
theorem dX2_findPlaces_39 : decode cX2_findPlaces 39 = .ok (.if_icmp .ge 28, 3) := by decide +kernel
theorem dX2_findPlaces_42 : decode cX2_findPlaces 42 = .ok (.aload_n 0, 1) := by decide +kernel
theorem dX2_findPlaces_43 : decode cX2_findPlaces 43 = .ok (.getfield 25, 3) := by decide +kernel
theorem dX2_findPlaces_46 : decode cX2_findPlaces 46 = .ok (.iload 4, 2) := by decide +kernel
theorem dX2_findPlaces_48 : decode cX2_findPlaces 48 = .ok (.iaload, 1) := by decide +kernel
theorem dX2_findPlaces_49 : decode cX2_findPlaces 49 = .ok (.iload_n 3, 1) := by decide +kernel
theorem dX2_findPlaces_50 : decode cX2_findPlaces 50 = .ok (.if_icmp .gt 11, 3) := by decide +kernel
theorem dX2_findPlaces_53 : decode cX2_findPlaces 53 = .ok (.aload_n 0, 1) := by decide +kernel
theorem dX2_findPlaces_54 : decode cX2_findPlaces 54 = .ok (.iload_n 1, 1) := by decide +kernel
theorem dX2_findPlaces_55 : decode cX2_findPlaces 55 = .ok (.iload 4, 2) := by decide +kernel
theorem dX2_findPlaces_57 : decode cX2_findPlaces 57 = .ok (.iload_n 3, 1) := by decide +kernel
theorem dX2_findPlaces_58 : decode cX2_findPlaces 58 = .ok (.invokevirtual 99, 3) := by decide +kernel
theorem dX2_findPlaces_61 : decode cX2_findPlaces 61 = .ok (.iinc 4 1, 3) := by decide +kernel
theorem dX2_findPlaces_64 : decode cX2_findPlaces 64 = .ok (.goto (-30), 3) := by decide +kernel
theorem dX2_findPlaces_67 : decode cX2_findPlaces 67 = .ok (.iinc 3 1, 3) := by decide +kernel
theorem dX2_findPlaces_70 : decode cX2_findPlaces 70 = .ok (.goto (-46), 3) := by decide +kernel
theorem dX2_findPlaces_73 : decode cX2_findPlaces 73 = .ok (.return_, 1) := by decide +kernel
theorem dX2_findNext_0 : decode cX2_findNext 0 = .ok (.iconst 0, 1) := by decide +kernel
theorem dX2_findNext_1 : decode cX2_findNext 1 = .ok (.istore 4, 2) := by decide +kernel
theorem dX2_findNext_3 : decode cX2_findNext 3 = .ok (.iload 4, 2) := by decide +kernel
theorem dX2_findNext_5 : decode cX2_findNext 5 = .ok (.bipush 6, 2) := by decide +kernel
theorem dX2_findNext_7 : decode cX2_findNext 7 = .ok (.if_icmp .ge 43, 3) := by decide +kernel
theorem dX2_findNext_10 : decode cX2_findNext 10 = .ok (.aload_n 0, 1) := by decide +kernel
theorem dX2_findNext_11 : decode cX2_findNext 11 = .ok (.getfield 34, 3) := by decide +kernel
theorem dX2_findNext_14 : decode cX2_findNext 14 = .ok (.iload_n 1, 1) := by decide +kernel
theorem dX2_findNext_15 : decode cX2_findNext 15 = .ok (.iload_n 2, 1) := by decide +kernel
theorem dX2_findNext_16 : decode cX2_findNext 16 = .ok (.iload 4, 2) := by decide +kernel
theorem dX2_findNext_18 : decode cX2_findNext 18 = .ok (.iload_n 3, 1) := by decide +kernel
theorem dX2_findNext_19 : decode cX2_findNext 19 = .ok (.invokevirtual 50, 3) := by decide +kernel
theorem dX2_findNext_22 : decode cX2_findNext 22 = .ok (.istore 5, 2) := by decide +kernel
theorem dX2_findNext_24 : decode cX2_findNext 24 = .ok (.aload_n 0, 1) := by decide +kernel
theorem dX2_findNext_25 : decode cX2_findNext 25 = .ok (.getfield 25, 3) := by decide +kernel
theorem dX2_findNext_28 : decode cX2_findNext 28 = .ok (.iload 5, 2) := by decide +kernel
theorem dX2_findNext_30 : decode cX2_findNext 30 = .ok (.aload_n 0, 1) := by decide +kernel
theorem dX2_findNext_31 : decode cX2_findNext 31 = .ok (.getfield 25, 3) := by decide +kernel
theorem dX2_findNext_34 : decode cX2_findNext 34 = .ok (.iload 5, 2) := by decide +kernel
theorem dX2_findNext_36 : decode cX2_findNext 36 = .ok (.iaload, 1) := by decide +kernel
theorem dX2_findNext_37 : decode cX2_findNext 37 = .ok (.iload_n 3, 1) := by decide +kernel
theorem dX2_findNext_38 : decode cX2_findNext 38 = .ok (.iconst 1, 1) := by decide +kernel
theorem dX2_findNext_39 : decode cX2_findNext 39 = .ok (.iadd, 1) := by decide +kernel
theorem dX2_findNext_40 : decode cX2_findNext 40 = .ok (.invokestatic 44, 3) := by decide +kernel
theorem dX2_findNext_43 : decode cX2_findNext 43 = .ok (.iastore, 1) := by decide +kernel
theorem dX2_findNext_44 : decode cX2_findNext 44 = .ok (.iinc 4 1, 3) := by decide +kernel
theorem dX2_findNext_47 : decode cX2_findNext 47 = .ok (.goto (-44), 3) := by decide +kernel
theorem dX2_findNext_50 : decode cX2_findNext 50 = .ok (.return_, 1) := by decide +kernel
theorem dX2_valuePlace_0 : decode cX2_valuePlace 0 = .ok (.iconst 0, 1) := by decide +kernel
theorem dX2_valuePlace_1 : decode cX2_valuePlace 1 = .ok (.istore 5, 2) := by decide +kernel
theorem dX2_valuePlace_3 : decode cX2_valuePlace 3 = .ok (.iload 5, 2) := by decide +kernel
theorem dX2_valuePlace_5 : decode cX2_valuePlace 5 = .ok (.bipush 6, 2) := by decide +kernel
theorem dX2_valuePlace_7 : decode cX2_valuePlace 7 = .ok (.if_icmp .ge 58, 3) := by decide +kernel
theorem dX2_valuePlace_10 : decode cX2_valuePlace 10 = .ok (.aload_n 0, 1) := by decide +kernel
theorem dX2_valuePlace_11 : decode cX2_valuePlace 11 = .ok (.getfield 28, 3) := by decide +kernel
theorem dX2_valuePlace_14 : decode cX2_valuePlace 14 = .ok (.iload 5, 2) := by decide +kernel
theorem dX2_valuePlace_16 : decode cX2_valuePlace 16 = .ok (.aload_n 0, 1) := by decide +kernel
theorem dX2_valuePlace_17 : decode cX2_valuePlace 17 = .ok (.getfield 22, 3) := by decide +kernel
theorem dX2_valuePlace_20 : decode cX2_valuePlace 20 = .ok (.iload_n 2, 1) := by decide +kernel
theorem dX2_valuePlace_21 : decode cX2_valuePlace 21 = .ok (.bipush 6, 2) := by decide +kernel
theorem dX2_valuePlace_23 : decode cX2_valuePlace 23 = .ok (.imul, 1) := by decide +kernel
theorem dX2_valuePlace_24 : decode cX2_valuePlace 24 = .ok (.iload 5, 2) := by decide +kernel
theorem dX2_valuePlace_26 : decode cX2_valuePlace 26 = .ok (.iadd, 1) := by decide +kernel
theorem dX2_valuePlace_27 : decode cX2_valuePlace 27 = .ok (.laload, 1) := by decide +kernel
theorem dX2_valuePlace_28 : decode cX2_valuePlace 28 = .ok (.lastore, 1) := by decide +kernel
theorem dX2_valuePlace_29 : decode cX2_valuePlace 29 = .ok (.aload_n 0, 1) := by decide +kernel
theorem dX2_valuePlace_30 : decode cX2_valuePlace 30 = .ok (.getfield 31, 3) := by decide +kernel
theorem dX2_valuePlace_33 : decode cX2_valuePlace 33 = .ok (.iload 5, 2) := by decide +kernel
theorem dX2_valuePlace_35 : decode cX2_valuePlace 35 = .ok (.aload_n 0, 1) := by decide +kernel
theorem dX2_valuePlace_36 : decode cX2_valuePlace 36 = .ok (.getfield 22, 3) := by decide +kernel
theorem dX2_valuePlace_39 : decode cX2_valuePlace 39 = .ok (.aload_n 0, 1) := by decide +kernel
theorem dX2_valuePlace_40 : decode cX2_valuePlace 40 = .ok (.getfield 34, 3) := by decide +kernel
theorem dX2_valuePlace_43 : decode cX2_valuePlace 43 = .ok (.iload_n 1, 1) := by decide +kernel
theorem dX2_valuePlace_44 : decode cX2_valuePlace 44 = .ok (.iload_n 2, 1) := by decide +kernel
theorem dX2_valuePlace_45 : decode cX2_valuePlace 45 = .ok (.iload 5, 2) := by decide +kernel
theorem dX2_valuePlace_47 : decode cX2_valuePlace 47 = .ok (.iload_n 3, 1) := by decide +kernel
theorem dX2_valuePlace_48 : decode cX2_valuePlace 48 = .ok (.invokevirtual 50, 3) := by decide +kernel
theorem dX2_valuePlace_51 : decode cX2_valuePlace 51 = .ok (.bipush 6, 2) := by decide +kernel
theorem dX2_valuePlace_53 : decode cX2_valuePlace 53 = .ok (.imul, 1) := by decide +kernel
theorem dX2_valuePlace_54 : decode cX2_valuePlace 54 = .ok (.iload 5, 2) := by decide +kernel
theorem dX2_valuePlace_56 : decode cX2_valuePlace 56 = .ok (.iadd, 1) := by decide +kernel
theorem dX2_valuePlace_57 : decode cX2_valuePlace 57 = .ok (.laload, 1) := by decide +kernel
theorem dX2_valuePlace_58 : decode cX2_valuePlace 58 = .ok (.lastore, 1) := by decide +kernel
theorem dX2_valuePlace_59 : decode cX2_valuePlace 59 = .ok (.iinc 5 1, 3) := by decide +kernel
theorem dX2_valuePlace_62 : decode cX2_valuePlace 62 = .ok (.goto (-59), 3) := by decide +kernel
theorem dX2_valuePlace_65 : decode cX2_valuePlace 65 = .ok (.aload_n 0, 1) := by decide +kernel
theorem dX2_valuePlace_66 : decode cX2_valuePlace 66 = .ok (.getfield 34, 3) := by decide +kernel
theorem dX2_valuePlace_69 : decode cX2_valuePlace 69 = .ok (.iload_n 1, 1) := by decide +kernel
theorem dX2_valuePlace_70 : decode cX2_valuePlace 70 = .ok (.invokevirtual 66, 3) := by decide +kernel
theorem dX2_valuePlace_73 : decode cX2_valuePlace 73 = .ok (.istore 5, 2) := by decide +kernel
theorem dX2_valuePlace_75 : decode cX2_valuePlace 75 = .ok (.iconst 0, 1) := by decide +kernel
theorem dX2_valuePlace_76 : decode cX2_valuePlace 76 = .ok (.istore 6, 2) := by decide +kernel
theorem dX2_valuePlace_78 : decode cX2_valuePlace 78 = .ok (.iload 6, 2) := by decide +kernel
theorem dX2_valuePlace_80 : decode cX2_valuePlace 80 = .ok (.bipush 6, 2) := by decide +kernel
theorem dX2_valuePlace_82 : decode cX2_valuePlace 82 = .ok (.if_icmp .ge 55, 3) := by decide +kernel
theorem dX2_valuePlace_85 : decode cX2_valuePlace 85 = .ok (.aload_n 0, 1) := by decide +kernel
theorem dX2_valuePlace_86 : decode cX2_valuePlace 86 = .ok (.getfield 19, 3) := by decide +kernel
theorem dX2_valuePlace_89 : decode cX2_valuePlace 89 = .ok (.iload_n 2, 1) := by decide +kernel
theorem dX2_valuePlace_90 : decode cX2_valuePlace 90 = .ok (.bipush 6, 2) := by decide +kernel
theorem dX2_valuePlace_92 : decode cX2_valuePlace 92 = .ok (.imul, 1) := by decide +kernel
theorem dX2_valuePlace_93 : decode cX2_valuePlace 93 = .ok (.iload 6, 2) := by decide +kernel
theorem dX2_valuePlace_95 : decode cX2_valuePlace 95 = .ok (.iadd, 1) := by decide +kernel
theorem dX2_valuePlace_96 : decode cX2_valuePlace 96 = .ok (.iload 4, 2) := by decide +kernel
theorem dX2_valuePlace_98 : decode cX2_valuePlace 98 = .ok (.i2l, 1) := by decide +kernel
theorem dX2_valuePlace_99 : decode cX2_valuePlace 99 = .ok (.aload_n 0, 1) := by decide +kernel
theorem dX2_valuePlace_100 : decode cX2_valuePlace 100 = .ok (.getfield 28, 3) := by decide +kernel
theorem dX2_valuePlace_103 : decode cX2_valuePlace 103 = .ok (.iload 6, 2) := by decide +kernel
theorem dX2_valuePlace_105 : decode cX2_valuePlace 105 = .ok (.iload 5, 2) := by decide +kernel
theorem dX2_valuePlace_107 : decode cX2_valuePlace 107 = .ok (.invokestatic 102, 3) := by decide +kernel
theorem dX2_valuePlace_110 : decode cX2_valuePlace 110 = .ok (.lmul, 1) := by decide +kernel
theorem dX2_valuePlace_111 : decode cX2_valuePlace 111 = .ok (.bipush 10, 2) := by decide +kernel
theorem dX2_valuePlace_113 : decode cX2_valuePlace 113 = .ok (.iload 4, 2) := by decide +kernel
theorem dX2_valuePlace_115 : decode cX2_valuePlace 115 = .ok (.isub, 1) := by decide +kernel
theorem dX2_valuePlace_116 : decode cX2_valuePlace 116 = .ok (.i2l, 1) := by decide +kernel
theorem dX2_valuePlace_117 : decode cX2_valuePlace 117 = .ok (.aload_n 0, 1) := by decide +kernel
theorem dX2_valuePlace_118 : decode cX2_valuePlace 118 = .ok (.getfield 31, 3) := by decide +kernel
theorem dX2_valuePlace_121 : decode cX2_valuePlace 121 = .ok (.iload 6, 2) := by decide +kernel
theorem dX2_valuePlace_123 : decode cX2_valuePlace 123 = .ok (.iload 5, 2) := by decide +kernel
theorem dX2_valuePlace_125 : decode cX2_valuePlace 125 = .ok (.invokestatic 102, 3) := by decide +kernel
theorem dX2_valuePlace_128 : decode cX2_valuePlace 128 = .ok (.lmul, 1) := by decide +kernel
theorem dX2_valuePlace_129 : decode cX2_valuePlace 129 = .ok (.ladd, 1) := by decide +kernel
theorem dX2_valuePlace_130 : decode cX2_valuePlace 130 = .ok (.lastore, 1) := by decide +kernel
theorem dX2_valuePlace_131 : decode cX2_valuePlace 131 = .ok (.iinc 6 1, 3) := by decide +kernel
theorem dX2_valuePlace_134 : decode cX2_valuePlace 134 = .ok (.goto (-56), 3) := by decide +kernel
theorem dX2_valuePlace_137 : decode cX2_valuePlace 137 = .ok (.return_, 1) := by decide +kernel
theorem dX2_greatest_0 : decode cX2_greatest 0 = .ok (.lconst 0, 1) := by decide +kernel
theorem dX2_greatest_1 : decode cX2_greatest 1 = .ok (.lstore_n 3, 1) := by decide +kernel
theorem dX2_greatest_2 : decode cX2_greatest 2 = .ok (.iconst 5, 1) := by decide +kernel
theorem dX2_greatest_3 : decode cX2_greatest 3 = .ok (.iload_n 1, 1) := by decide +kernel
theorem dX2_greatest_4 : decode cX2_greatest 4 = .ok (.iload_n 2, 1) := by decide +kernel
theorem dX2_greatest_5 : decode cX2_greatest 5 = .ok (.iadd, 1) := by decide +kernel
theorem dX2_greatest_6 : decode cX2_greatest 6 = .ok (.invokestatic 44, 3) := by decide +kernel
theorem dX2_greatest_9 : decode cX2_greatest 9 = .ok (.istore 5, 2) := by decide +kernel
theorem dX2_greatest_11 : decode cX2_greatest 11 = .ok (.iconst 0, 1) := by decide +kernel
theorem dX2_greatest_12 : decode cX2_greatest 12 = .ok (.iload_n 1, 1) := by decide +kernel
theorem dX2_greatest_13 : decode cX2_greatest 13 = .ok (.iload_n 2, 1) := by decide +kernel
theorem dX2_greatest_14 : decode cX2_greatest 14 = .ok (.isub, 1) := by decide +kernel
theorem dX2_greatest_15 : decode cX2_greatest 15 = .ok (.invokestatic 70, 3) := by decide +kernel
theorem dX2_greatest_18 : decode cX2_greatest 18 = .ok (.istore 6, 2) := by decide +kernel
theorem dX2_greatest_20 : decode cX2_greatest 20 = .ok (.iload 6, 2) := by decide +kernel
theorem dX2_greatest_22 : decode cX2_greatest 22 = .ok (.iload 5, 2) := by decide +kernel
theorem dX2_greatest_24 : decode cX2_greatest 24 = .ok (.if_icmp .gt 18, 3) := by decide +kernel
theorem dX2_greatest_27 : decode cX2_greatest 27 = .ok (.lload_n 3, 1) := by decide +kernel
theorem dX2_greatest_28 : decode cX2_greatest 28 = .ok (.aload_n 0, 1) := by decide +kernel
theorem dX2_greatest_29 : decode cX2_greatest 29 = .ok (.iload 6, 2) := by decide +kernel
theorem dX2_greatest_31 : decode cX2_greatest 31 = .ok (.laload, 1) := by decide +kernel
theorem dX2_greatest_32 : decode cX2_greatest 32 = .ok (.invokestatic 77, 3) := by decide +kernel
theorem dX2_greatest_35 : decode cX2_greatest 35 = .ok (.lstore_n 3, 1) := by decide +kernel
theorem dX2_greatest_36 : decode cX2_greatest 36 = .ok (.iinc 6 1, 3) := by decide +kernel
theorem dX2_greatest_39 : decode cX2_greatest 39 = .ok (.goto (-19), 3) := by decide +kernel
theorem dX2_greatest_42 : decode cX2_greatest 42 = .ok (.lload_n 3, 1) := by decide +kernel
theorem dX2_greatest_43 : decode cX2_greatest 43 = .ok (.lreturn, 1) := by decide +kernel
theorem dX2_swap_0 : decode cX2_swap 0 = .ok (.aload_n 0, 1) := by decide +kernel
theorem dX2_swap_1 : decode cX2_swap 1 = .ok (.getfield 19, 3) := by decide +kernel
theorem dX2_swap_4 : decode cX2_swap 4 = .ok (.astore_n 1, 1) := by decide +kernel
theorem dX2_swap_5 : decode cX2_swap 5 = .ok (.aload_n 0, 1) := by decide +kernel
theorem dX2_swap_6 : decode cX2_swap 6 = .ok (.aload_n 0, 1) := by decide +kernel
theorem dX2_swap_7 : decode cX2_swap 7 = .ok (.getfield 22, 3) := by decide +kernel
theorem dX2_swap_10 : decode cX2_swap 10 = .ok (.putfield 19, 3) := by decide +kernel
theorem dX2_swap_13 : decode cX2_swap 13 = .ok (.aload_n 0, 1) := by decide +kernel
theorem dX2_swap_14 : decode cX2_swap 14 = .ok (.aload_n 1, 1) := by decide +kernel
theorem dX2_swap_15 : decode cX2_swap 15 = .ok (.putfield 22, 3) := by decide +kernel
theorem dX2_swap_18 : decode cX2_swap 18 = .ok (.return_, 1) := by decide +kernel
theorem dX3_init_0 : decode cX3_init 0 = .ok (.aload_n 0, 1) := by decide +kernel
theorem dX3_init_1 : decode cX3_init 1 = .ok (.invokespecial 5, 3) := by decide +kernel
theorem dX3_init_4 : decode cX3_init 4 = .ok (.aload_n 0, 1) := by decide +kernel
theorem dX3_init_5 : decode cX3_init 5 = .ok (.bipush 112, 2) := by decide +kernel
theorem dX3_init_7 : decode cX3_init 7 = .ok (.newarray .int, 2) := by decide +kernel
theorem dX3_init_9 : decode cX3_init 9 = .ok (.putfield 11, 3) := by decide +kernel
theorem dX3_init_12 : decode cX3_init 12 = .ok (.aload_n 0, 1) := by decide +kernel
theorem dX3_init_13 : decode cX3_init 13 = .ok (.bipush 112, 2) := by decide +kernel
theorem dX3_init_15 : decode cX3_init 15 = .ok (.newarray .int, 2) := by decide +kernel
theorem dX3_init_17 : decode cX3_init 17 = .ok (.putfield 15, 3) := by decide +kernel
theorem dX3_init_20 : decode cX3_init 20 = .ok (.aload_n 0, 1) := by decide +kernel
theorem dX3_init_21 : decode cX3_init 21 = .ok (.bipush 112, 2) := by decide +kernel
theorem dX3_init_23 : decode cX3_init 23 = .ok (.newarray .long, 2) := by decide +kernel
theorem dX3_init_25 : decode cX3_init 25 = .ok (.putfield 18, 3) := by decide +kernel
theorem dX3_init_28 : decode cX3_init 28 = .ok (.aload_n 0, 1) := by decide +kernel
theorem dX3_init_29 : decode cX3_init 29 = .ok (.new 22, 3) := by decide +kernel
theorem dX3_init_32 : decode cX3_init 32 = .ok (.dup, 1) := by decide +kernel
theorem dX3_init_33 : decode cX3_init 33 = .ok (.invokespecial 24, 3) := by decide +kernel
theorem dX3_init_36 : decode cX3_init 36 = .ok (.putfield 25, 3) := by decide +kernel
theorem dX3_init_39 : decode cX3_init 39 = .ok (.aload_n 0, 1) := by decide +kernel
theorem dX3_init_40 : decode cX3_init 40 = .ok (.new 22, 3) := by decide +kernel
theorem dX3_init_43 : decode cX3_init 43 = .ok (.dup, 1) := by decide +kernel
theorem dX3_init_44 : decode cX3_init 44 = .ok (.invokespecial 24, 3) := by decide +kernel
theorem dX3_init_47 : decode cX3_init 47 = .ok (.putfield 29, 3) := by decide +kernel
theorem dX3_init_50 : decode cX3_init 50 = .ok (.aload_n 0, 1) := by decide +kernel
theorem dX3_init_51 : decode cX3_init 51 = .ok (.sipush 966, 3) := by decide +kernel
theorem dX3_init_54 : decode cX3_init 54 = .ok (.newarray .int, 2) := by decide +kernel
theorem dX3_init_56 : decode cX3_init 56 = .ok (.putfield 32, 3) := by decide +kernel
theorem dX3_init_59 : decode cX3_init 59 = .ok (.aload_n 0, 1) := by decide +kernel
theorem dX3_init_60 : decode cX3_init 60 = .ok (.sipush 966, 3) := by decide +kernel
theorem dX3_init_63 : decode cX3_init 63 = .ok (.newarray .long, 2) := by decide +kernel
theorem dX3_init_65 : decode cX3_init 65 = .ok (.putfield 35, 3) := by decide +kernel
theorem dX3_init_68 : decode cX3_init 68 = .ok (.aload_n 0, 1) := by decide +kernel
theorem dX3_init_69 : decode cX3_init 69 = .ok (.sipush 966, 3) := by decide +kernel
theorem dX3_init_72 : decode cX3_init 72 = .ok (.newarray .int, 2) := by decide +kernel
theorem dX3_init_74 : decode cX3_init 74 = .ok (.putfield 38, 3) := by decide +kernel
theorem dX3_init_77 : decode cX3_init 77 = .ok (.aload_n 0, 1) := by decide +kernel
theorem dX3_init_78 : decode cX3_init 78 = .ok (.sipush 966, 3) := by decide +kernel
theorem dX3_init_81 : decode cX3_init 81 = .ok (.newarray .long, 2) := by decide +kernel
theorem dX3_init_83 : decode cX3_init 83 = .ok (.putfield 41, 3) := by decide +kernel
theorem dX3_init_86 : decode cX3_init 86 = .ok (.aload_n 0, 1) := by decide +kernel
theorem dX3_init_87 : decode cX3_init 87 = .ok (.aload_n 1, 1) := by decide +kernel
theorem dX3_init_88 : decode cX3_init 88 = .ok (.putfield 44, 3) := by decide +kernel
theorem dX3_init_91 : decode cX3_init 91 = .ok (.aload_n 0, 1) := by decide +kernel
theorem dX3_init_92 : decode cX3_init 92 = .ok (.getfield 11, 3) := by decide +kernel
theorem dX3_init_95 : decode cX3_init 95 = .ok (.bipush (-2), 2) := by decide +kernel
theorem dX3_init_97 : decode cX3_init 97 = .ok (.invokestatic 48, 3) := by decide +kernel
theorem dX3_init_100 : decode cX3_init 100 = .ok (.return_, 1) := by decide +kernel
theorem dX3_forget_0 : decode cX3_forget 0 = .ok (.aload_n 0, 1) := by decide +kernel
theorem dX3_forget_1 : decode cX3_forget 1 = .ok (.getfield 11, 3) := by decide +kernel
theorem dX3_forget_4 : decode cX3_forget 4 = .ok (.bipush (-2), 2) := by decide +kernel
theorem dX3_forget_6 : decode cX3_forget 6 = .ok (.invokestatic 48, 3) := by decide +kernel
theorem dX3_forget_9 : decode cX3_forget 9 = .ok (.return_, 1) := by decide +kernel
theorem dX3_soonestOf_0 : decode cX3_soonestOf 0 = .ok (.iload_n 1, 1) := by decide +kernel
theorem dX3_soonestOf_1 : decode cX3_soonestOf 1 = .ok (.bipush 24, 2) := by decide +kernel
theorem dX3_soonestOf_3 : decode cX3_soonestOf 3 = .ok (.imul, 1) := by decide +kernel
theorem dX3_soonestOf_4 : decode cX3_soonestOf 4 = .ok (.iload_n 2, 1) := by decide +kernel
theorem dX3_soonestOf_5 : decode cX3_soonestOf 5 = .ok (.iadd, 1) := by decide +kernel
theorem dX3_soonestOf_6 : decode cX3_soonestOf 6 = .ok (.istore_n 3, 1) := by decide +kernel
theorem dX3_soonestOf_7 : decode cX3_soonestOf 7 = .ok (.aload_n 0, 1) := by decide +kernel
theorem dX3_soonestOf_8 : decode cX3_soonestOf 8 = .ok (.getfield 11, 3) := by decide +kernel
theorem dX3_soonestOf_11 : decode cX3_soonestOf 11 = .ok (.iload_n 3, 1) := by decide +kernel
theorem dX3_soonestOf_12 : decode cX3_soonestOf 12 = .ok (.iaload, 1) := by decide +kernel
theorem dX3_soonestOf_13 : decode cX3_soonestOf 13 = .ok (.bipush (-2), 2) := by decide +kernel
theorem dX3_soonestOf_15 : decode cX3_soonestOf 15 = .ok (.if_icmp .ne 14, 3) := by decide +kernel
theorem dX3_soonestOf_18 : decode cX3_soonestOf 18 = .ok (.aload_n 0, 1) := by decide +kernel
theorem dX3_soonestOf_19 : decode cX3_soonestOf 19 = .ok (.iload_n 3, 1) := by decide +kernel
theorem dX3_soonestOf_20 : decode cX3_soonestOf 20 = .ok (.iload_n 1, 1) := by decide +kernel
theorem dX3_soonestOf_21 : decode cX3_soonestOf 21 = .ok (.iload_n 2, 1) := by decide +kernel
theorem dX3_soonestOf_22 : decode cX3_soonestOf 22 = .ok (.aload_n 0, 1) := by decide +kernel
theorem dX3_soonestOf_23 : decode cX3_soonestOf 23 = .ok (.getfield 25, 3) := by decide +kernel
theorem dX3_soonestOf_26 : decode cX3_soonestOf 26 = .ok (.invokevirtual 54, 3) := by decide +kernel
theorem dX3_soonestOf_29 : decode cX3_soonestOf 29 = .ok (.iload_n 3, 1) := by decide +kernel
theorem dX3_soonestOf_30 : decode cX3_soonestOf 30 = .ok (.ireturn, 1) := by decide +kernel
theorem dX3_clearOf_0 : decode cX3_clearOf 0 = .ok (.bipush 96, 2) := by decide +kernel
theorem dX3_clearOf_2 : decode cX3_clearOf 2 = .ok (.iload_n 1, 1) := by decide +kernel
theorem dX3_clearOf_3 : decode cX3_clearOf 3 = .ok (.iconst 4, 1) := by decide +kernel
theorem dX3_clearOf_4 : decode cX3_clearOf 4 = .ok (.imul, 1) := by decide +kernel
theorem dX3_clearOf_5 : decode cX3_clearOf 5 = .ok (.iadd, 1) := by decide +kernel
theorem dX3_clearOf_6 : decode cX3_clearOf 6 = .ok (.iload_n 2, 1) := by decide +kernel
theorem dX3_clearOf_7 : decode cX3_clearOf 7 = .ok (.iadd, 1) := by decide +kernel
theorem dX3_clearOf_8 : decode cX3_clearOf 8 = .ok (.istore 4, 2) := by decide +kernel
theorem dX3_clearOf_10 : decode cX3_clearOf 10 = .ok (.aload_n 0, 1) := by decide +kernel
theorem dX3_clearOf_11 : decode cX3_clearOf 11 = .ok (.getfield 11, 3) := by decide +kernel
theorem dX3_clearOf_14 : decode cX3_clearOf 14 = .ok (.iload 4, 2) := by decide +kernel
theorem dX3_clearOf_16 : decode cX3_clearOf 16 = .ok (.iaload, 1) := by decide +kernel
theorem dX3_clearOf_17 : decode cX3_clearOf 17 = .ok (.bipush (-2), 2) := by decide +kernel
theorem dX3_clearOf_19 : decode cX3_clearOf 19 = .ok (.if_icmp .ne 21, 3) := by decide +kernel
theorem dX3_clearOf_22 : decode cX3_clearOf 22 = .ok (.aload_n 0, 1) := by decide +kernel
theorem dX3_clearOf_23 : decode cX3_clearOf 23 = .ok (.iload_n 2, 1) := by decide +kernel
theorem dX3_clearOf_24 : decode cX3_clearOf 24 = .ok (.iload_n 3, 1) := by decide +kernel
theorem dX3_clearOf_25 : decode cX3_clearOf 25 = .ok (.invokevirtual 58, 3) := by decide +kernel
theorem dX3_clearOf_28 : decode cX3_clearOf 28 = .ok (.aload_n 0, 1) := by decide +kernel
theorem dX3_clearOf_29 : decode cX3_clearOf 29 = .ok (.iload 4, 2) := by decide +kernel
theorem dX3_clearOf_31 : decode cX3_clearOf 31 = .ok (.iload_n 1, 1) := by decide +kernel
theorem dX3_clearOf_32 : decode cX3_clearOf 32 = .ok (.iconst 1, 1) := by decide +kernel
theorem dX3_clearOf_33 : decode cX3_clearOf 33 = .ok (.aload_n 0, 1) := by decide +kernel
theorem dX3_clearOf_34 : decode cX3_clearOf 34 = .ok (.getfield 29, 3) := by decide +kernel
theorem dX3_clearOf_37 : decode cX3_clearOf 37 = .ok (.invokevirtual 54, 3) := by decide +kernel
theorem dX3_clearOf_40 : decode cX3_clearOf 40 = .ok (.iload 4, 2) := by decide +kernel
theorem dX3_clearOf_42 : decode cX3_clearOf 42 = .ok (.ireturn, 1) := by decide +kernel
theorem dX3_answerOf_0 : decode cX3_answerOf 0 = .ok (.aload_n 0, 1) := by decide +kernel
theorem dX3_answerOf_1 : decode cX3_answerOf 1 = .ok (.getfield 11, 3) := by decide +kernel
theorem dX3_answerOf_4 : decode cX3_answerOf 4 = .ok (.iload_n 1, 1) := by decide +kernel
theorem dX3_answerOf_5 : decode cX3_answerOf 5 = .ok (.iaload, 1) := by decide +kernel
theorem dX3_answerOf_6 : decode cX3_answerOf 6 = .ok (.istore_n 3, 1) := by decide +kernel
theorem dX3_answerOf_7 : decode cX3_answerOf 7 = .ok (.iload_n 3, 1) := by decide +kernel
theorem dX3_answerOf_8 : decode cX3_answerOf 8 = .ok (.iconst (-1), 1) := by decide +kernel
theorem dX3_answerOf_9 : decode cX3_answerOf 9 = .ok (.if_icmp .eq 8, 3) := by decide +kernel
theorem dX3_answerOf_12 : decode cX3_answerOf 12 = .ok (.iload_n 2, 1) := by decide +kernel
theorem dX3_answerOf_13 : decode cX3_answerOf 13 = .ok (.iload_n 3, 1) := by decide +kernel
theorem dX3_answerOf_14 : decode cX3_answerOf 14 = .ok (.if_icmp .lt 5, 3) := by decide +kernel
theorem dX3_answerOf_17 : decode cX3_answerOf 17 = .ok (.iconst (-1), 1) := by decide +kernel
theorem dX3_answerOf_18 : decode cX3_answerOf 18 = .ok (.ireturn, 1) := by decide +kernel
theorem dX3_answerOf_19 : decode cX3_answerOf 19 = .ok (.iload_n 2, 1) := by decide +kernel
theorem dX3_answerOf_20 : decode cX3_answerOf 20 = .ok (.ifCond .ge 19, 3) := by decide +kernel
theorem dX3_answerOf_23 : decode cX3_answerOf 23 = .ok (.iload_n 2, 1) := by decide +kernel
theorem dX3_answerOf_24 : decode cX3_answerOf 24 = .ok (.iconst (-1), 1) := by decide +kernel
theorem dX3_answerOf_25 : decode cX3_answerOf 25 = .ok (.if_icmp .ne 12, 3) := by decide +kernel
theorem dX3_answerOf_28 : decode cX3_answerOf 28 = .ok (.aload_n 0, 1) := by decide +kernel
theorem dX3_answerOf_29 : decode cX3_answerOf 29 = .ok (.getfield 15, 3) := by decide +kernel
theorem dX3_answerOf_32 : decode cX3_answerOf 32 = .ok (.iload_n 1, 1) := by decide +kernel
theorem dX3_answerOf_33 : decode cX3_answerOf 33 = .ok (.iaload, 1) := by decide +kernel
theorem dX3_answerOf_34 : decode cX3_answerOf 34 = .ok (.goto 4, 3) := by decide +kernel
theorem dX3_answerOf_37 : decode cX3_answerOf 37 = .ok (.iload_n 3, 1) := by decide +kernel
theorem dX3_answerOf_38 : decode cX3_answerOf 38 = .ok (.ireturn, 1) := by decide +kernel
theorem dX3_answerOf_39 : decode cX3_answerOf 39 = .ok (.aload_n 0, 1) := by decide +kernel
theorem dX3_answerOf_40 : decode cX3_answerOf 40 = .ok (.iload_n 1, 1) := by decide +kernel
theorem dX3_answerOf_41 : decode cX3_answerOf 41 = .ok (.iload_n 2, 1) := by decide +kernel
theorem dX3_answerOf_42 : decode cX3_answerOf 42 = .ok (.invokevirtual 62, 3) := by decide +kernel
theorem dX3_answerOf_45 : decode cX3_answerOf 45 = .ok (.ireturn, 1) := by decide +kernel
theorem dX3_layerKept_0 : decode cX3_layerKept 0 = .ok (.aload_n 0, 1) := by decide +kernel
theorem dX3_layerKept_1 : decode cX3_layerKept 1 = .ok (.getfield 11, 3) := by decide +kernel
theorem dX3_layerKept_4 : decode cX3_layerKept 4 = .ok (.iload_n 1, 1) := by decide +kernel
theorem dX3_layerKept_5 : decode cX3_layerKept 5 = .ok (.iaload, 1) := by decide +kernel
theorem dX3_layerKept_6 : decode cX3_layerKept 6 = .ok (.istore_n 3, 1) := by decide +kernel
theorem dX3_layerKept_7 : decode cX3_layerKept 7 = .ok (.iload_n 3, 1) := by decide +kernel
theorem dX3_layerKept_8 : decode cX3_layerKept 8 = .ok (.iconst 1, 1) := by decide +kernel
theorem dX3_layerKept_9 : decode cX3_layerKept 9 = .ok (.if_icmp .ge 7, 3) := by decide +kernel
theorem dX3_layerKept_12 : decode cX3_layerKept 12 = .ok (.iconst 0, 1) := by decide +kernel
theorem dX3_layerKept_13 : decode cX3_layerKept 13 = .ok (.goto 15, 3) := by decide +kernel
theorem dX3_layerKept_16 : decode cX3_layerKept 16 = .ok (.aload_n 0, 1) := by decide +kernel
theorem dX3_layerKept_17 : decode cX3_layerKept 17 = .ok (.iload_n 1, 1) := by decide +kernel
theorem dX3_layerKept_18 : decode cX3_layerKept 18 = .ok (.iload_n 2, 1) := by decide +kernel
theorem dX3_layerKept_19 : decode cX3_layerKept 19 = .ok (.iload_n 3, 1) := by decide +kernel
theorem dX3_layerKept_20 : decode cX3_layerKept 20 = .ok (.iconst 1, 1) := by decide +kernel
theorem dX3_layerKept_21 : decode cX3_layerKept 21 = .ok (.isub, 1) := by decide +kernel
theorem dX3_layerKept_22 : decode cX3_layerKept 22 = .ok (.invokestatic 66, 3) := by decide +kernel
theorem dX3_layerKept_25 : decode cX3_layerKept 25 = .ok (.invokevirtual 62, 3) := by decide +kernel
theorem dX3_layerKept_28 : decode cX3_layerKept 28 = .ok (.ireturn, 1) := by decide +kernel
theorem dX3_hourIn_0 : decode cX3_hourIn 0 = .ok (.aload_n 0, 1) := by decide +kernel
theorem dX3_hourIn_1 : decode cX3_hourIn 1 = .ok (.iload_n 1, 1) := by decide +kernel
theorem dX3_hourIn_2 : decode cX3_hourIn 2 = .ok (.iload_n 2, 1) := by decide +kernel
theorem dX3_hourIn_3 : decode cX3_hourIn 3 = .ok (.invokevirtual 58, 3) := by decide +kernel
theorem dX3_hourIn_6 : decode cX3_hourIn 6 = .ok (.iconst 0, 1) := by decide +kernel
theorem dX3_hourIn_7 : decode cX3_hourIn 7 = .ok (.istore 5, 2) := by decide +kernel
theorem dX3_hourIn_9 : decode cX3_hourIn 9 = .ok (.iload 5, 2) := by decide +kernel
theorem dX3_hourIn_11 : decode cX3_hourIn 11 = .ok (.bipush 24, 2) := by decide +kernel
theorem dX3_hourIn_13 : decode cX3_hourIn 13 = .ok (.if_icmp .ge 56, 3) := by decide +kernel
theorem dX3_hourIn_16 : decode cX3_hourIn 16 = .ok (.aload_n 0, 1) := by decide +kernel
theorem dX3_hourIn_17 : decode cX3_hourIn 17 = .ok (.getfield 29, 3) := by decide +kernel
theorem dX3_hourIn_20 : decode cX3_hourIn 20 = .ok (.getfield 71, 3) := by decide +kernel
theorem dX3_hourIn_23 : decode cX3_hourIn 23 = .ok (.iload 5, 2) := by decide +kernel
theorem dX3_hourIn_25 : decode cX3_hourIn 25 = .ok (.iaload, 1) := by decide +kernel
theorem dX3_hourIn_26 : decode cX3_hourIn 26 = .ok (.istore 6, 2) := by decide +kernel
theorem dX3_hourIn_28 : decode cX3_hourIn 28 = .ok (.iload 6, 2) := by decide +kernel
theorem dX3_hourIn_30 : decode cX3_hourIn 30 = .ok (.sipush 160, 3) := by decide +kernel
theorem dX3_hourIn_33 : decode cX3_hourIn 33 = .ok (.if_icmp .eq 30, 3) := by decide +kernel
theorem dX3_hourIn_36 : decode cX3_hourIn 36 = .ok (.iload 6, 2) := by decide +kernel
theorem dX3_hourIn_38 : decode cX3_hourIn 38 = .ok (.bipush 20, 2) := by decide +kernel
theorem dX3_hourIn_40 : decode cX3_hourIn 40 = .ok (.idiv, 1) := by decide +kernel
theorem dX3_hourIn_41 : decode cX3_hourIn 41 = .ok (.iload_n 3, 1) := by decide +kernel
theorem dX3_hourIn_42 : decode cX3_hourIn 42 = .ok (.if_icmp .ne 21, 3) := by decide +kernel
theorem dX3_hourIn_45 : decode cX3_hourIn 45 = .ok (.aload_n 0, 1) := by decide +kernel
theorem dX3_hourIn_46 : decode cX3_hourIn 46 = .ok (.getfield 29, 3) := by decide +kernel
theorem dX3_hourIn_49 : decode cX3_hourIn 49 = .ok (.getfield 74, 3) := by decide +kernel
theorem dX3_hourIn_52 : decode cX3_hourIn 52 = .ok (.iload 5, 2) := by decide +kernel
theorem dX3_hourIn_54 : decode cX3_hourIn 54 = .ok (.iaload, 1) := by decide +kernel
theorem dX3_hourIn_55 : decode cX3_hourIn 55 = .ok (.iload 4, 2) := by decide +kernel
theorem dX3_hourIn_57 : decode cX3_hourIn 57 = .ok (.if_icmp .ne 6, 3) := by decide +kernel
theorem dX3_hourIn_60 : decode cX3_hourIn 60 = .ok (.iload 5, 2) := by decide +kernel
theorem dX3_hourIn_62 : decode cX3_hourIn 62 = .ok (.ireturn, 1) := by decide +kernel
theorem dX3_hourIn_63 : decode cX3_hourIn 63 = .ok (.iinc 5 1, 3) := by decide +kernel
theorem dX3_hourIn_66 : decode cX3_hourIn 66 = .ok (.goto (-57), 3) := by decide +kernel
theorem dX3_hourIn_69 : decode cX3_hourIn 69 = .ok (.iconst (-1), 1) := by decide +kernel
theorem dX3_hourIn_70 : decode cX3_hourIn 70 = .ok (.ireturn, 1) := by decide +kernel
theorem dX3_layerIn_0 : decode cX3_layerIn 0 = .ok (.aload_n 0, 1) := by decide +kernel
theorem dX3_layerIn_1 : decode cX3_layerIn 1 = .ok (.getfield 18, 3) := by decide +kernel
theorem dX3_layerIn_4 : decode cX3_layerIn 4 = .ok (.iload_n 1, 1) := by decide +kernel
theorem dX3_layerIn_5 : decode cX3_layerIn 5 = .ok (.laload, 1) := by decide +kernel
theorem dX3_layerIn_6 : decode cX3_layerIn 6 = .ok (.lstore_n 3, 1) := by decide +kernel
theorem dX3_layerIn_7 : decode cX3_layerIn 7 = .ok (.aload_n 0, 1) := by decide +kernel
theorem dX3_layerIn_8 : decode cX3_layerIn 8 = .ok (.getfield 11, 3) := by decide +kernel
theorem dX3_layerIn_11 : decode cX3_layerIn 11 = .ok (.iload_n 1, 1) := by decide +kernel
theorem dX3_layerIn_12 : decode cX3_layerIn 12 = .ok (.iaload, 1) := by decide +kernel
theorem dX3_layerIn_13 : decode cX3_layerIn 13 = .ok (.iconst 1, 1) := by decide +kernel
theorem dX3_layerIn_14 : decode cX3_layerIn 14 = .ok (.isub, 1) := by decide +kernel
theorem dX3_layerIn_15 : decode cX3_layerIn 15 = .ok (.istore 5, 2) := by decide +kernel
theorem dX3_layerIn_17 : decode cX3_layerIn 17 = .ok (.iload 5, 2) := by decide +kernel
theorem dX3_layerIn_19 : decode cX3_layerIn 19 = .ok (.iload_n 2, 1) := by decide +kernel
theorem dX3_layerIn_20 : decode cX3_layerIn 20 = .ok (.if_icmp .le 15, 3) := by decide +kernel
theorem dX3_layerIn_23 : decode cX3_layerIn 23 = .ok (.lload_n 3, 1) := by decide +kernel
theorem dX3_layerIn_24 : decode cX3_layerIn 24 = .ok (.ldc2_w 77, 3) := by decide +kernel
theorem dX3_layerIn_27 : decode cX3_layerIn 27 = .ok (.ldiv, 1) := by decide +kernel
theorem dX3_layerIn_28 : decode cX3_layerIn 28 = .ok (.lstore_n 3, 1) := by decide +kernel
theorem dX3_layerIn_29 : decode cX3_layerIn 29 = .ok (.iinc 5 (-1), 3) := by decide +kernel
theorem dX3_layerIn_32 : decode cX3_layerIn 32 = .ok (.goto (-15), 3) := by decide +kernel
theorem dX3_layerIn_35 : decode cX3_layerIn 35 = .ok (.lload_n 3, 1) := by decide +kernel
theorem dX3_layerIn_36 : decode cX3_layerIn 36 = .ok (.ldc2_w 77, 3) := by decide +kernel
theorem dX3_layerIn_39 : decode cX3_layerIn 39 = .ok (.lrem, 1) := by decide +kernel
theorem dX3_layerIn_40 : decode cX3_layerIn 40 = .ok (.l2i, 1) := by decide +kernel
theorem dX3_layerIn_41 : decode cX3_layerIn 41 = .ok (.ireturn, 1) := by decide +kernel
theorem dX3_draw_0 : decode cX3_draw 0 = .ok (.aload_n 0, 1) := by decide +kernel
theorem dX3_draw_1 : decode cX3_draw 1 = .ok (.getfield 44, 3) := by decide +kernel
theorem dX3_draw_4 : decode cX3_draw 4 = .ok (.invokevirtual 79, 3) := by decide +kernel
theorem dX3_draw_7 : decode cX3_draw 7 = .ok (.istore_n 3, 1) := by decide +kernel
theorem dX3_draw_8 : decode cX3_draw 8 = .ok (.iconst 0, 1) := by decide +kernel
theorem dX3_draw_9 : decode cX3_draw 9 = .ok (.istore 4, 2) := by decide +kernel
theorem dX3_draw_11 : decode cX3_draw 11 = .ok (.iload 4, 2) := by decide +kernel
theorem dX3_draw_13 : decode cX3_draw 13 = .ok (.bipush 24, 2) := by decide +kernel
theorem dX3_draw_15 : decode cX3_draw 15 = .ok (.if_icmp .ge 86, 3) := by decide +kernel
theorem dX3_draw_18 : decode cX3_draw 18 = .ok (.iload 4, 2) := by decide +kernel
theorem dX3_draw_20 : decode cX3_draw 20 = .ok (.aload_n 0, 1) := by decide +kernel
theorem dX3_draw_21 : decode cX3_draw 21 = .ok (.getfield 11, 3) := by decide +kernel
theorem dX3_draw_24 : decode cX3_draw 24 = .ok (.iload_n 2, 1) := by decide +kernel
theorem dX3_draw_25 : decode cX3_draw 25 = .ok (.iaload, 1) := by decide +kernel
theorem dX3_draw_26 : decode cX3_draw 26 = .ok (.if_icmp .ge 56, 3) := by decide +kernel
theorem dX3_draw_29 : decode cX3_draw 29 = .ok (.aload_n 0, 1) := by decide +kernel
theorem dX3_draw_30 : decode cX3_draw 30 = .ok (.getfield 29, 3) := by decide +kernel
theorem dX3_draw_33 : decode cX3_draw 33 = .ok (.getfield 74, 3) := by decide +kernel
theorem dX3_draw_36 : decode cX3_draw 36 = .ok (.iload 4, 2) := by decide +kernel
theorem dX3_draw_38 : decode cX3_draw 38 = .ok (.aload_n 0, 1) := by decide +kernel
theorem dX3_draw_39 : decode cX3_draw 39 = .ok (.iload_n 2, 1) := by decide +kernel
theorem dX3_draw_40 : decode cX3_draw 40 = .ok (.iload 4, 2) := by decide +kernel
theorem dX3_draw_42 : decode cX3_draw 42 = .ok (.invokevirtual 62, 3) := by decide +kernel
theorem dX3_draw_45 : decode cX3_draw 45 = .ok (.iastore, 1) := by decide +kernel
theorem dX3_draw_46 : decode cX3_draw 46 = .ok (.aload_n 0, 1) := by decide +kernel
theorem dX3_draw_47 : decode cX3_draw 47 = .ok (.getfield 44, 3) := by decide +kernel
theorem dX3_draw_50 : decode cX3_draw 50 = .ok (.iload_n 1, 1) := by decide +kernel
theorem dX3_draw_51 : decode cX3_draw 51 = .ok (.iload_n 3, 1) := by decide +kernel
theorem dX3_draw_52 : decode cX3_draw 52 = .ok (.aload_n 0, 1) := by decide +kernel
theorem dX3_draw_53 : decode cX3_draw 53 = .ok (.getfield 29, 3) := by decide +kernel
theorem dX3_draw_56 : decode cX3_draw 56 = .ok (.getfield 74, 3) := by decide +kernel
theorem dX3_draw_59 : decode cX3_draw 59 = .ok (.iload 4, 2) := by decide +kernel
theorem dX3_draw_61 : decode cX3_draw 61 = .ok (.iaload, 1) := by decide +kernel
theorem dX3_draw_62 : decode cX3_draw 62 = .ok (.iload 4, 2) := by decide +kernel
theorem dX3_draw_64 : decode cX3_draw 64 = .ok (.invokevirtual 85, 3) := by decide +kernel
theorem dX3_draw_67 : decode cX3_draw 67 = .ok (.istore_n 3, 1) := by decide +kernel
theorem dX3_draw_68 : decode cX3_draw 68 = .ok (.aload_n 0, 1) := by decide +kernel
theorem dX3_draw_69 : decode cX3_draw 69 = .ok (.getfield 29, 3) := by decide +kernel
theorem dX3_draw_72 : decode cX3_draw 72 = .ok (.getfield 71, 3) := by decide +kernel
theorem dX3_draw_75 : decode cX3_draw 75 = .ok (.iload 4, 2) := by decide +kernel
theorem dX3_draw_77 : decode cX3_draw 77 = .ok (.iload_n 3, 1) := by decide +kernel
theorem dX3_draw_78 : decode cX3_draw 78 = .ok (.iastore, 1) := by decide +kernel
theorem dX3_draw_79 : decode cX3_draw 79 = .ok (.goto 16, 3) := by decide +kernel
theorem dX3_draw_82 : decode cX3_draw 82 = .ok (.aload_n 0, 1) := by decide +kernel
theorem dX3_draw_83 : decode cX3_draw 83 = .ok (.getfield 29, 3) := by decide +kernel
theorem dX3_draw_86 : decode cX3_draw 86 = .ok (.getfield 71, 3) := by decide +kernel
theorem dX3_draw_89 : decode cX3_draw 89 = .ok (.iload 4, 2) := by decide +kernel
theorem dX3_draw_91 : decode cX3_draw 91 = .ok (.sipush 160, 3) := by decide +kernel
theorem dX3_draw_94 : decode cX3_draw 94 = .ok (.iastore, 1) := by decide +kernel
theorem dX3_draw_95 : decode cX3_draw 95 = .ok (.iinc 4 1, 3) := by decide +kernel
theorem dX3_draw_98 : decode cX3_draw 98 = .ok (.goto (-87), 3) := by decide +kernel
theorem dX3_draw_101 : decode cX3_draw 101 = .ok (.return_, 1) := by decide +kernel
theorem dX3_search_0 : decode cX3_search 0 = .ok (.aload_n 0, 1) := by decide +kernel
theorem dX3_search_1 : decode cX3_search 1 = .ok (.getfield 32, 3) := by decide +kernel
theorem dX3_search_4 : decode cX3_search 4 = .ok (.iconst (-1), 1) := by decide +kernel
theorem dX3_search_5 : decode cX3_search 5 = .ok (.invokestatic 48, 3) := by decide +kernel
theorem dX3_search_8 : decode cX3_search 8 = .ok (.aload_n 0, 1) := by decide +kernel
theorem dX3_search_9 : decode cX3_search 9 = .ok (.getfield 32, 3) := by decide +kernel
theorem dX3_search_12 : decode cX3_search 12 = .ok (.aload_n 0, 1) := by decide +kernel
theorem dX3_search_13 : decode cX3_search 13 = .ok (.getfield 44, 3) := by decide +kernel
theorem dX3_search_16 : decode cX3_search 16 = .ok (.invokevirtual 79, 3) := by decide +kernel
theorem dX3_search_19 : decode cX3_search 19 = .ok (.bipush 6, 2) := by decide +kernel
theorem dX3_search_21 : decode cX3_search 21 = .ok (.imul, 1) := by decide +kernel
theorem dX3_search_22 : decode cX3_search 22 = .ok (.iconst 0, 1) := by decide +kernel
theorem dX3_search_23 : decode cX3_search 23 = .ok (.iastore, 1) := by decide +kernel
theorem dX3_search_24 : decode cX3_search 24 = .ok (.aload_n 0, 1) := by decide +kernel
theorem dX3_search_25 : decode cX3_search 25 = .ok (.getfield 35, 3) := by decide +kernel
theorem dX3_search_28 : decode cX3_search 28 = .ok (.aload_n 0, 1) := by decide +kernel
theorem dX3_search_29 : decode cX3_search 29 = .ok (.getfield 44, 3) := by decide +kernel
theorem dX3_search_32 : decode cX3_search 32 = .ok (.invokevirtual 79, 3) := by decide +kernel
theorem dX3_search_35 : decode cX3_search 35 = .ok (.bipush 6, 2) := by decide +kernel
theorem dX3_search_37 : decode cX3_search 37 = .ok (.imul, 1) := by decide +kernel
theorem dX3_search_38 : decode cX3_search 38 = .ok (.lconst 0, 1) := by decide +kernel
theorem dX3_search_39 : decode cX3_search 39 = .ok (.lastore, 1) := by decide +kernel
theorem dX3_search_40 : decode cX3_search 40 = .ok (.aload_n 0, 1) := by decide +kernel
theorem dX3_search_41 : decode cX3_search 41 = .ok (.iload_n 1, 1) := by decide +kernel
theorem dX3_search_42 : decode cX3_search 42 = .ok (.iconst 0, 1) := by decide +kernel
theorem dX3_search_43 : decode cX3_search 43 = .ok (.invokevirtual 89, 3) := by decide +kernel
theorem dX3_search_46 : decode cX3_search 46 = .ok (.istore 5, 2) := by decide +kernel
theorem dX3_search_48 : decode cX3_search 48 = .ok (.iload_n 3, 1) := by decide +kernel
theorem dX3_search_49 : decode cX3_search 49 = .ok (.istore 6, 2) := by decide +kernel
theorem dX3_search_51 : decode cX3_search 51 = .ok (.iload 6, 2) := by decide +kernel
theorem dX3_search_53 : decode cX3_search 53 = .ok (.bipush 24, 2) := by decide +kernel
theorem dX3_search_55 : decode cX3_search 55 = .ok (.if_icmp .ge 40, 3) := by decide +kernel
theorem dX3_search_58 : decode cX3_search 58 = .ok (.iload 5, 2) := by decide +kernel
theorem dX3_search_60 : decode cX3_search 60 = .ok (.ifCond .ne 35, 3) := by decide +kernel
theorem dX3_search_63 : decode cX3_search 63 = .ok (.aload_n 0, 1) := by decide +kernel
theorem dX3_search_64 : decode cX3_search 64 = .ok (.iload_n 2, 1) := by decide +kernel
theorem dX3_search_65 : decode cX3_search 65 = .ok (.iload 6, 2) := by decide +kernel
theorem dX3_search_67 : decode cX3_search 67 = .ok (.iload 6, 2) := by decide +kernel
theorem dX3_search_69 : decode cX3_search 69 = .ok (.iload_n 3, 1) := by decide +kernel
theorem dX3_search_70 : decode cX3_search 70 = .ok (.isub, 1) := by decide +kernel
theorem dX3_search_71 : decode cX3_search 71 = .ok (.aload 4, 2) := by decide +kernel
theorem dX3_search_73 : decode cX3_search 73 = .ok (.invokevirtual 93, 3) := by decide +kernel
theorem dX3_search_76 : decode cX3_search 76 = .ok (.aload_n 0, 1) := by decide +kernel
theorem dX3_search_77 : decode cX3_search 77 = .ok (.iload_n 1, 1) := by decide +kernel
theorem dX3_search_78 : decode cX3_search 78 = .ok (.iload 6, 2) := by decide +kernel
theorem dX3_search_80 : decode cX3_search 80 = .ok (.iload_n 3, 1) := by decide +kernel
theorem dX3_search_81 : decode cX3_search 81 = .ok (.isub, 1) := by decide +kernel
theorem dX3_search_82 : decode cX3_search 82 = .ok (.iconst 1, 1) := by decide +kernel
theorem dX3_search_83 : decode cX3_search 83 = .ok (.iadd, 1) := by decide +kernel
theorem dX3_search_84 : decode cX3_search 84 = .ok (.invokevirtual 89, 3) := by decide +kernel
theorem dX3_search_87 : decode cX3_search 87 = .ok (.istore 5, 2) := by decide +kernel
theorem dX3_search_89 : decode cX3_search 89 = .ok (.iinc 6 1, 3) := by decide +kernel
theorem dX3_search_92 : decode cX3_search 92 = .ok (.goto (-41), 3) := by decide +kernel
theorem dX3_search_95 : decode cX3_search 95 = .ok (.return_, 1) := by decide +kernel
theorem dX3_spread_0 : decode cX3_spread 0 = .ok (.aload_n 0, 1) := by decide +kernel
theorem dX3_spread_1 : decode cX3_spread 1 = .ok (.getfield 38, 3) := by decide +kernel
theorem dX3_spread_4 : decode cX3_spread 4 = .ok (.iconst (-1), 1) := by decide +kernel
theorem dX3_spread_5 : decode cX3_spread 5 = .ok (.invokestatic 48, 3) := by decide +kernel
theorem dX3_spread_8 : decode cX3_spread 8 = .ok (.aload_n 0, 1) := by decide +kernel
theorem dX3_spread_9 : decode cX3_spread 9 = .ok (.getfield 44, 3) := by decide +kernel
theorem dX3_spread_12 : decode cX3_spread 12 = .ok (.iload_n 1, 1) := by decide +kernel
theorem dX3_spread_13 : decode cX3_spread 13 = .ok (.invokevirtual 96, 3) := by decide +kernel
theorem dX3_spread_16 : decode cX3_spread 16 = .ok (.istore 5, 2) := by decide +kernel
theorem dX3_spread_18 : decode cX3_spread 18 = .ok (.aload_n 0, 1) := by decide +kernel
theorem dX3_spread_19 : decode cX3_spread 19 = .ok (.getfield 44, 3) := by decide +kernel
theorem dX3_spread_22 : decode cX3_spread 22 = .ok (.getfield 100, 3) := by decide +kernel
theorem dX3_spread_25 : decode cX3_spread 25 = .ok (.iload_n 3, 1) := by decide +kernel
theorem dX3_spread_26 : decode cX3_spread 26 = .ok (.iconst 1, 1) := by decide +kernel
theorem dX3_spread_27 : decode cX3_spread 27 = .ok (.iadd, 1) := by decide +kernel
theorem dX3_spread_28 : decode cX3_spread 28 = .ok (.invokestatic 66, 3) := by decide +kernel
theorem dX3_spread_31 : decode cX3_spread 31 = .ok (.bipush 20, 2) := by decide +kernel
theorem dX3_spread_33 : decode cX3_spread 33 = .ok (.imul, 1) := by decide +kernel
theorem dX3_spread_34 : decode cX3_spread 34 = .ok (.bipush 6, 2) := by decide +kernel
theorem dX3_spread_36 : decode cX3_spread 36 = .ok (.imul, 1) := by decide +kernel
theorem dX3_spread_37 : decode cX3_spread 37 = .ok (.istore 6, 2) := by decide +kernel
theorem dX3_spread_39 : decode cX3_spread 39 = .ok (.iconst 0, 1) := by decide +kernel
theorem dX3_spread_40 : decode cX3_spread 40 = .ok (.istore 7, 2) := by decide +kernel
theorem dX3_spread_42 : decode cX3_spread 42 = .ok (.iload 7, 2) := by decide +kernel
theorem dX3_spread_44 : decode cX3_spread 44 = .ok (.iload 6, 2) := by decide +kernel
theorem dX3_spread_46 : decode cX3_spread 46 = .ok (.if_icmp .ge 150, 3) := by decide +kernel
theorem dX3_spread_49 : decode cX3_spread 49 = .ok (.aload_n 0, 1) := by decide +kernel
theorem dX3_spread_50 : decode cX3_spread 50 = .ok (.getfield 32, 3) := by decide +kernel
theorem dX3_spread_53 : decode cX3_spread 53 = .ok (.iload 7, 2) := by decide +kernel
theorem dX3_spread_55 : decode cX3_spread 55 = .ok (.iaload, 1) := by decide +kernel
theorem dX3_spread_56 : decode cX3_spread 56 = .ok (.iconst (-1), 1) := by decide +kernel
theorem dX3_spread_57 : decode cX3_spread 57 = .ok (.if_icmp .ne 6, 3) := by decide +kernel
theorem dX3_spread_60 : decode cX3_spread 60 = .ok (.goto 130, 3) := by decide +kernel
theorem dX3_spread_63 : decode cX3_spread 63 = .ok (.iload 7, 2) := by decide +kernel
theorem dX3_spread_65 : decode cX3_spread 65 = .ok (.bipush 6, 2) := by decide +kernel
theorem dX3_spread_67 : decode cX3_spread 67 = .ok (.irem, 1) := by decide +kernel
theorem dX3_spread_68 : decode cX3_spread 68 = .ok (.istore 8, 2) := by decide +kernel
theorem dX3_spread_70 : decode cX3_spread 70 = .ok (.iconst 5, 1) := by decide +kernel
theorem dX3_spread_71 : decode cX3_spread 71 = .ok (.iload 8, 2) := by decide +kernel
theorem dX3_spread_73 : decode cX3_spread 73 = .ok (.iload 5, 2) := by decide +kernel
theorem dX3_spread_75 : decode cX3_spread 75 = .ok (.iadd, 1) := by decide +kernel
theorem dX3_spread_76 : decode cX3_spread 76 = .ok (.invokestatic 66, 3) := by decide +kernel
theorem dX3_spread_79 : decode cX3_spread 79 = .ok (.istore 9, 2) := by decide +kernel
theorem dX3_spread_81 : decode cX3_spread 81 = .ok (.iconst 0, 1) := by decide +kernel
theorem dX3_spread_82 : decode cX3_spread 82 = .ok (.iload 8, 2) := by decide +kernel
theorem dX3_spread_84 : decode cX3_spread 84 = .ok (.iload 5, 2) := by decide +kernel
theorem dX3_spread_86 : decode cX3_spread 86 = .ok (.isub, 1) := by decide +kernel
theorem dX3_spread_87 : decode cX3_spread 87 = .ok (.invokestatic 104, 3) := by decide +kernel
theorem dX3_spread_90 : decode cX3_spread 90 = .ok (.istore 10, 2) := by decide +kernel
theorem dX3_spread_92 : decode cX3_spread 92 = .ok (.iload 10, 2) := by decide +kernel
theorem dX3_spread_94 : decode cX3_spread 94 = .ok (.iload 9, 2) := by decide +kernel
theorem dX3_spread_96 : decode cX3_spread 96 = .ok (.if_icmp .gt 94, 3) := by decide +kernel
theorem dX3_spread_99 : decode cX3_spread 99 = .ok (.aload_n 0, 1) := by decide +kernel
theorem dX3_spread_100 : decode cX3_spread 100 = .ok (.getfield 44, 3) := by decide +kernel
theorem dX3_spread_103 : decode cX3_spread 103 = .ok (.iload_n 1, 1) := by decide +kernel
theorem dX3_spread_104 : decode cX3_spread 104 = .ok (.iload 7, 2) := by decide +kernel
theorem dX3_spread_106 : decode cX3_spread 106 = .ok (.bipush 6, 2) := by decide +kernel
theorem dX3_spread_108 : decode cX3_spread 108 = .ok (.idiv, 1) := by decide +kernel
theorem dX3_spread_109 : decode cX3_spread 109 = .ok (.iload 10, 2) := by decide +kernel
theorem dX3_spread_111 : decode cX3_spread 111 = .ok (.iload_n 2, 1) := by decide +kernel
theorem dX3_spread_112 : decode cX3_spread 112 = .ok (.invokevirtual 85, 3) := by decide +kernel
theorem dX3_spread_115 : decode cX3_spread 115 = .ok (.istore 11, 2) := by decide +kernel
theorem dX3_spread_117 : decode cX3_spread 117 = .ok (.iload 11, 2) := by decide +kernel
theorem dX3_spread_119 : decode cX3_spread 119 = .ok (.iload 10, 2) := by decide +kernel
theorem dX3_spread_121 : decode cX3_spread 121 = .ok (.aload 4, 2) := by decide +kernel
theorem dX3_spread_123 : decode cX3_spread 123 = .ok (.getfield 71, 3) := by decide +kernel
theorem dX3_spread_126 : decode cX3_spread 126 = .ok (.iload_n 2, 1) := by decide +kernel
theorem dX3_spread_127 : decode cX3_spread 127 = .ok (.iaload, 1) := by decide +kernel
theorem dX3_spread_128 : decode cX3_spread 128 = .ok (.aload 4, 2) := by decide +kernel
theorem dX3_spread_130 : decode cX3_spread 130 = .ok (.getfield 74, 3) := by decide +kernel
theorem dX3_spread_133 : decode cX3_spread 133 = .ok (.iload_n 2, 1) := by decide +kernel
theorem dX3_spread_134 : decode cX3_spread 134 = .ok (.iaload, 1) := by decide +kernel
theorem dX3_spread_135 : decode cX3_spread 135 = .ok (.invokestatic 107, 3) := by decide +kernel
theorem dX3_spread_138 : decode cX3_spread 138 = .ok (.ifCond .ne 46, 3) := by decide +kernel
theorem dX3_spread_141 : decode cX3_spread 141 = .ok (.aload_n 0, 1) := by decide +kernel
theorem dX3_spread_142 : decode cX3_spread 142 = .ok (.iload 11, 2) := by decide +kernel
theorem dX3_spread_144 : decode cX3_spread 144 = .ok (.bipush 6, 2) := by decide +kernel
theorem dX3_spread_146 : decode cX3_spread 146 = .ok (.imul, 1) := by decide +kernel
theorem dX3_spread_147 : decode cX3_spread 147 = .ok (.iload 10, 2) := by decide +kernel
theorem dX3_spread_149 : decode cX3_spread 149 = .ok (.iadd, 1) := by decide +kernel
theorem dX3_spread_150 : decode cX3_spread 150 = .ok (.aload_n 0, 1) := by decide +kernel
theorem dX3_spread_151 : decode cX3_spread 151 = .ok (.getfield 32, 3) := by decide +kernel
theorem dX3_spread_154 : decode cX3_spread 154 = .ok (.iload 7, 2) := by decide +kernel
theorem dX3_spread_156 : decode cX3_spread 156 = .ok (.iaload, 1) := by decide +kernel
theorem dX3_spread_157 : decode cX3_spread 157 = .ok (.iload 10, 2) := by decide +kernel
theorem dX3_spread_159 : decode cX3_spread 159 = .ok (.iload 8, 2) := by decide +kernel
theorem dX3_spread_161 : decode cX3_spread 161 = .ok (.isub, 1) := by decide +kernel
theorem dX3_spread_162 : decode cX3_spread 162 = .ok (.invokestatic 111, 3) := by decide +kernel
theorem dX3_spread_165 : decode cX3_spread 165 = .ok (.iadd, 1) := by decide +kernel
theorem dX3_spread_166 : decode cX3_spread 166 = .ok (.aload_n 0, 1) := by decide +kernel
theorem dX3_spread_167 : decode cX3_spread 167 = .ok (.getfield 35, 3) := by decide +kernel
theorem dX3_spread_170 : decode cX3_spread 170 = .ok (.iload 7, 2) := by decide +kernel
theorem dX3_spread_172 : decode cX3_spread 172 = .ok (.laload, 1) := by decide +kernel
theorem dX3_spread_173 : decode cX3_spread 173 = .ok (.ldc2_w 77, 3) := by decide +kernel
theorem dX3_spread_176 : decode cX3_spread 176 = .ok (.lmul, 1) := by decide +kernel
theorem dX3_spread_177 : decode cX3_spread 177 = .ok (.iload 10, 2) := by decide +kernel
theorem dX3_spread_179 : decode cX3_spread 179 = .ok (.i2l, 1) := by decide +kernel
theorem dX3_spread_180 : decode cX3_spread 180 = .ok (.ladd, 1) := by decide +kernel
theorem dX3_spread_181 : decode cX3_spread 181 = .ok (.invokevirtual 114, 3) := by decide +kernel
theorem dX3_spread_184 : decode cX3_spread 184 = .ok (.iinc 10 1, 3) := by decide +kernel
theorem dX3_spread_187 : decode cX3_spread 187 = .ok (.goto (-95), 3) := by decide +kernel
theorem dX3_spread_190 : decode cX3_spread 190 = .ok (.iinc 7 1, 3) := by decide +kernel
theorem dX3_spread_193 : decode cX3_spread 193 = .ok (.goto (-151), 3) := by decide +kernel
theorem dX3_spread_196 : decode cX3_spread 196 = .ok (.aload_n 0, 1) := by decide +kernel
theorem dX3_spread_197 : decode cX3_spread 197 = .ok (.invokevirtual 118, 3) := by decide +kernel
theorem dX3_spread_200 : decode cX3_spread 200 = .ok (.return_, 1) := by decide +kernel
theorem dX3_offer_0 : decode cX3_offer 0 = .ok (.aload_n 0, 1) := by decide +kernel
theorem dX3_offer_1 : decode cX3_offer 1 = .ok (.getfield 38, 3) := by decide +kernel
theorem dX3_offer_4 : decode cX3_offer 4 = .ok (.iload_n 1, 1) := by decide +kernel
theorem dX3_offer_5 : decode cX3_offer 5 = .ok (.iaload, 1) := by decide +kernel
theorem dX3_offer_6 : decode cX3_offer 6 = .ok (.istore 5, 2) := by decide +kernel
theorem dX3_offer_8 : decode cX3_offer 8 = .ok (.iload 5, 2) := by decide +kernel
theorem dX3_offer_10 : decode cX3_offer 10 = .ok (.iconst (-1), 1) := by decide +kernel
theorem dX3_offer_11 : decode cX3_offer 11 = .ok (.if_icmp .eq 26, 3) := by decide +kernel
theorem dX3_offer_14 : decode cX3_offer 14 = .ok (.iload_n 2, 1) := by decide +kernel
theorem dX3_offer_15 : decode cX3_offer 15 = .ok (.iload 5, 2) := by decide +kernel
theorem dX3_offer_17 : decode cX3_offer 17 = .ok (.if_icmp .lt 20, 3) := by decide +kernel
theorem dX3_offer_20 : decode cX3_offer 20 = .ok (.iload_n 2, 1) := by decide +kernel
theorem dX3_offer_21 : decode cX3_offer 21 = .ok (.iload 5, 2) := by decide +kernel
theorem dX3_offer_23 : decode cX3_offer 23 = .ok (.if_icmp .ne 28, 3) := by decide +kernel
theorem dX3_offer_26 : decode cX3_offer 26 = .ok (.lload_n 3, 1) := by decide +kernel
theorem dX3_offer_27 : decode cX3_offer 27 = .ok (.aload_n 0, 1) := by decide +kernel
theorem dX3_offer_28 : decode cX3_offer 28 = .ok (.getfield 41, 3) := by decide +kernel
theorem dX3_offer_31 : decode cX3_offer 31 = .ok (.iload_n 1, 1) := by decide +kernel
theorem dX3_offer_32 : decode cX3_offer 32 = .ok (.laload, 1) := by decide +kernel
theorem dX3_offer_33 : decode cX3_offer 33 = .ok (.lcmp, 1) := by decide +kernel
theorem dX3_offer_34 : decode cX3_offer 34 = .ok (.ifCond .ge 17, 3) := by decide +kernel
theorem dX3_offer_37 : decode cX3_offer 37 = .ok (.aload_n 0, 1) := by decide +kernel
theorem dX3_offer_38 : decode cX3_offer 38 = .ok (.getfield 38, 3) := by decide +kernel
theorem dX3_offer_41 : decode cX3_offer 41 = .ok (.iload_n 1, 1) := by decide +kernel
theorem dX3_offer_42 : decode cX3_offer 42 = .ok (.iload_n 2, 1) := by decide +kernel
theorem dX3_offer_43 : decode cX3_offer 43 = .ok (.iastore, 1) := by decide +kernel
theorem dX3_offer_44 : decode cX3_offer 44 = .ok (.aload_n 0, 1) := by decide +kernel
theorem dX3_offer_45 : decode cX3_offer 45 = .ok (.getfield 41, 3) := by decide +kernel
theorem dX3_offer_48 : decode cX3_offer 48 = .ok (.iload_n 1, 1) := by decide +kernel
theorem dX3_offer_49 : decode cX3_offer 49 = .ok (.lload_n 3, 1) := by decide +kernel
theorem dX3_offer_50 : decode cX3_offer 50 = .ok (.lastore, 1) := by decide +kernel
theorem dX3_offer_51 : decode cX3_offer 51 = .ok (.return_, 1) := by decide +kernel
theorem dX3_swap_0 : decode cX3_swap 0 = .ok (.aload_n 0, 1) := by decide +kernel
theorem dX3_swap_1 : decode cX3_swap 1 = .ok (.getfield 32, 3) := by decide +kernel
theorem dX3_swap_4 : decode cX3_swap 4 = .ok (.astore_n 1, 1) := by decide +kernel
theorem dX3_swap_5 : decode cX3_swap 5 = .ok (.aload_n 0, 1) := by decide +kernel
theorem dX3_swap_6 : decode cX3_swap 6 = .ok (.getfield 35, 3) := by decide +kernel
theorem dX3_swap_9 : decode cX3_swap 9 = .ok (.astore_n 2, 1) := by decide +kernel
theorem dX3_swap_10 : decode cX3_swap 10 = .ok (.aload_n 0, 1) := by decide +kernel
theorem dX3_swap_11 : decode cX3_swap 11 = .ok (.aload_n 0, 1) := by decide +kernel
theorem dX3_swap_12 : decode cX3_swap 12 = .ok (.getfield 38, 3) := by decide +kernel
theorem dX3_swap_15 : decode cX3_swap 15 = .ok (.putfield 32, 3) := by decide +kernel
theorem dX3_swap_18 : decode cX3_swap 18 = .ok (.aload_n 0, 1) := by decide +kernel
theorem dX3_swap_19 : decode cX3_swap 19 = .ok (.aload_n 0, 1) := by decide +kernel
theorem dX3_swap_20 : decode cX3_swap 20 = .ok (.getfield 41, 3) := by decide +kernel
theorem dX3_swap_23 : decode cX3_swap 23 = .ok (.putfield 35, 3) := by decide +kernel
theorem dX3_swap_26 : decode cX3_swap 26 = .ok (.aload_n 0, 1) := by decide +kernel
theorem dX3_swap_27 : decode cX3_swap 27 = .ok (.aload_n 1, 1) := by decide +kernel
theorem dX3_swap_28 : decode cX3_swap 28 = .ok (.putfield 38, 3) := by decide +kernel
theorem dX3_swap_31 : decode cX3_swap 31 = .ok (.aload_n 0, 1) := by decide +kernel
theorem dX3_swap_32 : decode cX3_swap 32 = .ok (.aload_n 2, 1) := by decide +kernel
theorem dX3_swap_33 : decode cX3_swap 33 = .ok (.putfield 41, 3) := by decide +kernel
theorem dX3_swap_36 : decode cX3_swap 36 = .ok (.return_, 1) := by decide +kernel
theorem dX3_settle_0 : decode cX3_settle 0 = .ok (.aload_n 0, 1) := by decide +kernel
theorem dX3_settle_1 : decode cX3_settle 1 = .ok (.getfield 11, 3) := by decide +kernel
theorem dX3_settle_4 : decode cX3_settle 4 = .ok (.iload_n 1, 1) := by decide +kernel
theorem dX3_settle_5 : decode cX3_settle 5 = .ok (.iconst (-1), 1) := by decide +kernel
theorem dX3_settle_6 : decode cX3_settle 6 = .ok (.iastore, 1) := by decide +kernel
theorem dX3_settle_7 : decode cX3_settle 7 = .ok (.sipush 960, 3) := by decide +kernel
theorem dX3_settle_10 : decode cX3_settle 10 = .ok (.istore_n 3, 1) := by decide +kernel
theorem dX3_settle_11 : decode cX3_settle 11 = .ok (.iload_n 3, 1) := by decide +kernel
theorem dX3_settle_12 : decode cX3_settle 12 = .ok (.sipush 966, 3) := by decide +kernel
theorem dX3_settle_15 : decode cX3_settle 15 = .ok (.if_icmp .ge 110, 3) := by decide +kernel
theorem dX3_settle_18 : decode cX3_settle 18 = .ok (.aload_n 0, 1) := by decide +kernel
theorem dX3_settle_19 : decode cX3_settle 19 = .ok (.getfield 32, 3) := by decide +kernel
theorem dX3_settle_22 : decode cX3_settle 22 = .ok (.iload_n 3, 1) := by decide +kernel
theorem dX3_settle_23 : decode cX3_settle 23 = .ok (.iaload, 1) := by decide +kernel
theorem dX3_settle_24 : decode cX3_settle 24 = .ok (.istore 4, 2) := by decide +kernel
theorem dX3_settle_26 : decode cX3_settle 26 = .ok (.aload_n 0, 1) := by decide +kernel
theorem dX3_settle_27 : decode cX3_settle 27 = .ok (.getfield 11, 3) := by decide +kernel
theorem dX3_settle_30 : decode cX3_settle 30 = .ok (.iload_n 1, 1) := by decide +kernel
theorem dX3_settle_31 : decode cX3_settle 31 = .ok (.iaload, 1) := by decide +kernel
theorem dX3_settle_32 : decode cX3_settle 32 = .ok (.iconst (-1), 1) := by decide +kernel
theorem dX3_settle_33 : decode cX3_settle 33 = .ok (.if_icmp .eq 41, 3) := by decide +kernel
theorem dX3_settle_36 : decode cX3_settle 36 = .ok (.iload 4, 2) := by decide +kernel
theorem dX3_settle_38 : decode cX3_settle 38 = .ok (.aload_n 0, 1) := by decide +kernel
theorem dX3_settle_39 : decode cX3_settle 39 = .ok (.getfield 15, 3) := by decide +kernel
theorem dX3_settle_42 : decode cX3_settle 42 = .ok (.iload_n 1, 1) := by decide +kernel
theorem dX3_settle_43 : decode cX3_settle 43 = .ok (.iaload, 1) := by decide +kernel
theorem dX3_settle_44 : decode cX3_settle 44 = .ok (.if_icmp .lt 30, 3) := by decide +kernel
theorem dX3_settle_47 : decode cX3_settle 47 = .ok (.iload 4, 2) := by decide +kernel
theorem dX3_settle_49 : decode cX3_settle 49 = .ok (.aload_n 0, 1) := by decide +kernel
theorem dX3_settle_50 : decode cX3_settle 50 = .ok (.getfield 15, 3) := by decide +kernel
theorem dX3_settle_53 : decode cX3_settle 53 = .ok (.iload_n 1, 1) := by decide +kernel
theorem dX3_settle_54 : decode cX3_settle 54 = .ok (.iaload, 1) := by decide +kernel
theorem dX3_settle_55 : decode cX3_settle 55 = .ok (.if_icmp .ne 23, 3) := by decide +kernel
theorem dX3_settle_58 : decode cX3_settle 58 = .ok (.aload_n 0, 1) := by decide +kernel
theorem dX3_settle_59 : decode cX3_settle 59 = .ok (.getfield 35, 3) := by decide +kernel
theorem dX3_settle_62 : decode cX3_settle 62 = .ok (.iload_n 3, 1) := by decide +kernel
theorem dX3_settle_63 : decode cX3_settle 63 = .ok (.laload, 1) := by decide +kernel
theorem dX3_settle_64 : decode cX3_settle 64 = .ok (.aload_n 0, 1) := by decide +kernel
theorem dX3_settle_65 : decode cX3_settle 65 = .ok (.getfield 18, 3) := by decide +kernel
theorem dX3_settle_68 : decode cX3_settle 68 = .ok (.iload_n 1, 1) := by decide +kernel
theorem dX3_settle_69 : decode cX3_settle 69 = .ok (.laload, 1) := by decide +kernel
theorem dX3_settle_70 : decode cX3_settle 70 = .ok (.lcmp, 1) := by decide +kernel
theorem dX3_settle_71 : decode cX3_settle 71 = .ok (.ifCond .ge 7, 3) := by decide +kernel
theorem dX3_settle_74 : decode cX3_settle 74 = .ok (.iconst 1, 1) := by decide +kernel
theorem dX3_settle_75 : decode cX3_settle 75 = .ok (.goto 4, 3) := by decide +kernel
theorem dX3_settle_78 : decode cX3_settle 78 = .ok (.iconst 0, 1) := by decide +kernel
theorem dX3_settle_79 : decode cX3_settle 79 = .ok (.istore 5, 2) := by decide +kernel
theorem dX3_settle_81 : decode cX3_settle 81 = .ok (.iload 4, 2) := by decide +kernel
theorem dX3_settle_83 : decode cX3_settle 83 = .ok (.iconst (-1), 1) := by decide +kernel
theorem dX3_settle_84 : decode cX3_settle 84 = .ok (.if_icmp .eq 35, 3) := by decide +kernel
theorem dX3_settle_87 : decode cX3_settle 87 = .ok (.iload 5, 2) := by decide +kernel
theorem dX3_settle_89 : decode cX3_settle 89 = .ok (.ifCond .eq 30, 3) := by decide +kernel
theorem dX3_settle_92 : decode cX3_settle 92 = .ok (.aload_n 0, 1) := by decide +kernel
theorem dX3_settle_93 : decode cX3_settle 93 = .ok (.getfield 11, 3) := by decide +kernel
theorem dX3_settle_96 : decode cX3_settle 96 = .ok (.iload_n 1, 1) := by decide +kernel
theorem dX3_settle_97 : decode cX3_settle 97 = .ok (.iload_n 2, 1) := by decide +kernel
theorem dX3_settle_98 : decode cX3_settle 98 = .ok (.iastore, 1) := by decide +kernel
theorem dX3_settle_99 : decode cX3_settle 99 = .ok (.aload_n 0, 1) := by decide +kernel
theorem dX3_settle_100 : decode cX3_settle 100 = .ok (.getfield 15, 3) := by decide +kernel
theorem dX3_settle_103 : decode cX3_settle 103 = .ok (.iload_n 1, 1) := by decide +kernel
theorem dX3_settle_104 : decode cX3_settle 104 = .ok (.iload 4, 2) := by decide +kernel
theorem dX3_settle_106 : decode cX3_settle 106 = .ok (.iastore, 1) := by decide +kernel
theorem dX3_settle_107 : decode cX3_settle 107 = .ok (.aload_n 0, 1) := by decide +kernel
theorem dX3_settle_108 : decode cX3_settle 108 = .ok (.getfield 18, 3) := by decide +kernel
theorem dX3_settle_111 : decode cX3_settle 111 = .ok (.iload_n 1, 1) := by decide +kernel
theorem dX3_settle_112 : decode cX3_settle 112 = .ok (.aload_n 0, 1) := by decide +kernel
theorem dX3_settle_113 : decode cX3_settle 113 = .ok (.getfield 35, 3) := by decide +kernel
theorem dX3_settle_116 : decode cX3_settle 116 = .ok (.iload_n 3, 1) := by decide +kernel
theorem dX3_settle_117 : decode cX3_settle 117 = .ok (.laload, 1) := by decide +kernel
theorem dX3_settle_118 : decode cX3_settle 118 = .ok (.lastore, 1) := by decide +kernel
theorem dX3_settle_119 : decode cX3_settle 119 = .ok (.iinc 3 1, 3) := by decide +kernel
theorem dX3_settle_122 : decode cX3_settle 122 = .ok (.goto (-111), 3) := by decide +kernel
theorem dX3_settle_125 : decode cX3_settle 125 = .ok (.aload_n 0, 1) := by decide +kernel
theorem dX3_settle_126 : decode cX3_settle 126 = .ok (.getfield 11, 3) := by decide +kernel
theorem dX3_settle_129 : decode cX3_settle 129 = .ok (.iload_n 1, 1) := by decide +kernel
theorem dX3_settle_130 : decode cX3_settle 130 = .ok (.iaload, 1) := by decide +kernel
theorem dX3_settle_131 : decode cX3_settle 131 = .ok (.iconst (-1), 1) := by decide +kernel
theorem dX3_settle_132 : decode cX3_settle 132 = .ok (.if_icmp .eq 7, 3) := by decide +kernel
theorem dX3_settle_135 : decode cX3_settle 135 = .ok (.iconst 1, 1) := by decide +kernel
theorem dX3_settle_136 : decode cX3_settle 136 = .ok (.goto 4, 3) := by decide +kernel
theorem dX3_settle_139 : decode cX3_settle 139 = .ok (.iconst 0, 1) := by decide +kernel
theorem dX3_settle_140 : decode cX3_settle 140 = .ok (.ireturn, 1) := by decide +kernel
theorem dX4_init_0 : decode cX4_init 0 = .ok (.aload_n 0, 1) := by decide +kernel
theorem dX4_init_1 : decode cX4_init 1 = .ok (.invokespecial 3, 3) := by decide +kernel
theorem dX4_init_4 : decode cX4_init 4 = .ok (.aload_n 0, 1) := by decide +kernel
theorem dX4_init_5 : decode cX4_init 5 = .ok (.iconst 0, 1) := by decide +kernel
theorem dX4_init_6 : decode cX4_init 6 = .ok (.putfield 9, 3) := by decide +kernel
theorem dX4_init_9 : decode cX4_init 9 = .ok (.aload_n 0, 1) := by decide +kernel
theorem dX4_init_10 : decode cX4_init 10 = .ok (.iconst 2, 1) := by decide +kernel
theorem dX4_init_11 : decode cX4_init 11 = .ok (.putfield 15, 3) := by decide +kernel
theorem dX4_init_14 : decode cX4_init 14 = .ok (.aload_n 0, 1) := by decide +kernel
theorem dX4_init_15 : decode cX4_init 15 = .ok (.bipush 8, 2) := by decide +kernel
theorem dX4_init_17 : decode cX4_init 17 = .ok (.newarray .int, 2) := by decide +kernel
theorem dX4_init_19 : decode cX4_init 19 = .ok (.putfield 18, 3) := by decide +kernel
theorem dX4_init_22 : decode cX4_init 22 = .ok (.aload_n 0, 1) := by decide +kernel
theorem dX4_init_23 : decode cX4_init 23 = .ok (.bipush 8, 2) := by decide +kernel
theorem dX4_init_25 : decode cX4_init 25 = .ok (.newarray .int, 2) := by decide +kernel
theorem dX4_init_27 : decode cX4_init 27 = .ok (.putfield 22, 3) := by decide +kernel
theorem dX4_init_30 : decode cX4_init 30 = .ok (.aload_n 0, 1) := by decide +kernel
theorem dX4_init_31 : decode cX4_init 31 = .ok (.bipush 8, 2) := by decide +kernel
theorem dX4_init_33 : decode cX4_init 33 = .ok (.newarray .int, 2) := by decide +kernel
theorem dX4_init_35 : decode cX4_init 35 = .ok (.putfield 25, 3) := by decide +kernel
theorem dX4_init_38 : decode cX4_init 38 = .ok (.aload_n 0, 1) := by decide +kernel
theorem dX4_init_39 : decode cX4_init 39 = .ok (.sipush 144, 3) := by decide +kernel
theorem dX4_init_42 : decode cX4_init 42 = .ok (.newarray .int, 2) := by decide +kernel
theorem dX4_init_44 : decode cX4_init 44 = .ok (.putfield 28, 3) := by decide +kernel
theorem dX4_init_47 : decode cX4_init 47 = .ok (.aload_n 0, 1) := by decide +kernel
theorem dX4_init_48 : decode cX4_init 48 = .ok (.sipush 144, 3) := by decide +kernel
theorem dX4_init_51 : decode cX4_init 51 = .ok (.newarray .int, 2) := by decide +kernel
theorem dX4_init_53 : decode cX4_init 53 = .ok (.putfield 31, 3) := by decide +kernel
theorem dX4_init_56 : decode cX4_init 56 = .ok (.aload_n 0, 1) := by decide +kernel
theorem dX4_init_57 : decode cX4_init 57 = .ok (.iconst 4, 1) := by decide +kernel
theorem dX4_init_58 : decode cX4_init 58 = .ok (.newarray .boolean, 2) := by decide +kernel
theorem dX4_init_60 : decode cX4_init 60 = .ok (.putfield 34, 3) := by decide +kernel
theorem dX4_init_63 : decode cX4_init 63 = .ok (.aload_n 0, 1) := by decide +kernel
theorem dX4_init_64 : decode cX4_init 64 = .ok (.iconst 4, 1) := by decide +kernel
theorem dX4_init_65 : decode cX4_init 65 = .ok (.newarray .int, 2) := by decide +kernel
theorem dX4_init_67 : decode cX4_init 67 = .ok (.putfield 38, 3) := by decide +kernel
theorem dX4_init_70 : decode cX4_init 70 = .ok (.aload_n 0, 1) := by decide +kernel
theorem dX4_init_71 : decode cX4_init 71 = .ok (.iconst 4, 1) := by decide +kernel
theorem dX4_init_72 : decode cX4_init 72 = .ok (.newarray .int, 2) := by decide +kernel
theorem dX4_init_74 : decode cX4_init 74 = .ok (.putfield 41, 3) := by decide +kernel
theorem dX4_init_77 : decode cX4_init 77 = .ok (.aload_n 0, 1) := by decide +kernel
theorem dX4_init_78 : decode cX4_init 78 = .ok (.iconst 4, 1) := by decide +kernel
theorem dX4_init_79 : decode cX4_init 79 = .ok (.newarray .int, 2) := by decide +kernel
theorem dX4_init_81 : decode cX4_init 81 = .ok (.putfield 44, 3) := by decide +kernel
theorem dX4_init_84 : decode cX4_init 84 = .ok (.aload_n 0, 1) := by decide +kernel
theorem dX4_init_85 : decode cX4_init 85 = .ok (.iconst 4, 1) := by decide +kernel
theorem dX4_init_86 : decode cX4_init 86 = .ok (.newarray .int, 2) := by decide +kernel
theorem dX4_init_88 : decode cX4_init 88 = .ok (.putfield 47, 3) := by decide +kernel
theorem dX4_init_91 : decode cX4_init 91 = .ok (.return_, 1) := by decide +kernel
theorem dX4_hasReach_0 : decode cX4_hasReach 0 = .ok (.iload_n 1, 1) := by decide +kernel
theorem dX4_hasReach_1 : decode cX4_hasReach 1 = .ok (.ifCond .lt 15, 3) := by decide +kernel
theorem dX4_hasReach_4 : decode cX4_hasReach 4 = .ok (.iload_n 1, 1) := by decide +kernel
theorem dX4_hasReach_5 : decode cX4_hasReach 5 = .ok (.aload_n 0, 1) := by decide +kernel
theorem dX4_hasReach_6 : decode cX4_hasReach 6 = .ok (.getfield 9, 3) := by decide +kernel
theorem dX4_hasReach_9 : decode cX4_hasReach 9 = .ok (.if_icmp .ge 7, 3) := by decide +kernel
theorem dX4_hasReach_12 : decode cX4_hasReach 12 = .ok (.iconst 1, 1) := by decide +kernel
theorem dX4_hasReach_13 : decode cX4_hasReach 13 = .ok (.goto 4, 3) := by decide +kernel
theorem dX4_hasReach_16 : decode cX4_hasReach 16 = .ok (.iconst 0, 1) := by decide +kernel
theorem dX4_hasReach_17 : decode cX4_hasReach 17 = .ok (.ireturn, 1) := by decide +kernel
theorem dX4_hasBarge_0 : decode cX4_hasBarge 0 = .ok (.iload_n 1, 1) := by decide +kernel
theorem dX4_hasBarge_1 : decode cX4_hasBarge 1 = .ok (.ifCond .lt 21, 3) := by decide +kernel
theorem dX4_hasBarge_4 : decode cX4_hasBarge 4 = .ok (.iload_n 1, 1) := by decide +kernel
theorem dX4_hasBarge_5 : decode cX4_hasBarge 5 = .ok (.iconst 4, 1) := by decide +kernel
theorem dX4_hasBarge_6 : decode cX4_hasBarge 6 = .ok (.if_icmp .ge 16, 3) := by decide +kernel
theorem dX4_hasBarge_9 : decode cX4_hasBarge 9 = .ok (.aload_n 0, 1) := by decide +kernel
theorem dX4_hasBarge_10 : decode cX4_hasBarge 10 = .ok (.getfield 34, 3) := by decide +kernel
theorem dX4_hasBarge_13 : decode cX4_hasBarge 13 = .ok (.iload_n 1, 1) := by decide +kernel
theorem dX4_hasBarge_14 : decode cX4_hasBarge 14 = .ok (.baload, 1) := by decide +kernel
theorem dX4_hasBarge_15 : decode cX4_hasBarge 15 = .ok (.ifCond .eq 7, 3) := by decide +kernel
theorem dX4_hasBarge_18 : decode cX4_hasBarge 18 = .ok (.iconst 1, 1) := by decide +kernel
theorem dX4_hasBarge_19 : decode cX4_hasBarge 19 = .ok (.goto 4, 3) := by decide +kernel
theorem dX4_hasBarge_22 : decode cX4_hasBarge 22 = .ok (.iconst 0, 1) := by decide +kernel
theorem dX4_hasBarge_23 : decode cX4_hasBarge 23 = .ok (.ireturn, 1) := by decide +kernel
theorem dX4_cordOf_0 : decode cX4_cordOf 0 = .ok (.aload_n 0, 1) := by decide +kernel
theorem dX4_cordOf_1 : decode cX4_cordOf 1 = .ok (.getfield 44, 3) := by decide +kernel
theorem dX4_cordOf_4 : decode cX4_cordOf 4 = .ok (.iload_n 1, 1) := by decide +kernel
theorem dX4_cordOf_5 : decode cX4_cordOf 5 = .ok (.iaload, 1) := by decide +kernel
theorem dX4_cordOf_6 : decode cX4_cordOf 6 = .ok (.iconst 2, 1) := by decide +kernel
theorem dX4_cordOf_7 : decode cX4_cordOf 7 = .ok (.if_icmp .ne 7, 3) := by decide +kernel
theorem dX4_cordOf_10 : decode cX4_cordOf 10 = .ok (.iconst 1, 1) := by decide +kernel
theorem dX4_cordOf_11 : decode cX4_cordOf 11 = .ok (.goto 9, 3) := by decide +kernel
theorem dX4_cordOf_14 : decode cX4_cordOf 14 = .ok (.aload_n 0, 1) := by decide +kernel
theorem dX4_cordOf_15 : decode cX4_cordOf 15 = .ok (.getfield 41, 3) := by decide +kernel
theorem dX4_cordOf_18 : decode cX4_cordOf 18 = .ok (.iload_n 1, 1) := by decide +kernel
theorem dX4_cordOf_19 : decode cX4_cordOf 19 = .ok (.iaload, 1) := by decide +kernel
theorem dX4_cordOf_20 : decode cX4_cordOf 20 = .ok (.ireturn, 1) := by decide +kernel
theorem dX4_begin_0 : decode cX4_begin 0 = .ok (.aload_n 0, 1) := by decide +kernel
theorem dX4_begin_1 : decode cX4_begin 1 = .ok (.getfield 9, 3) := by decide +kernel
theorem dX4_begin_4 : decode cX4_begin 4 = .ok (.ifCond .ne 9, 3) := by decide +kernel
theorem dX4_begin_7 : decode cX4_begin 7 = .ok (.sipush 160, 3) := by decide +kernel
theorem dX4_begin_10 : decode cX4_begin 10 = .ok (.goto 4, 3) := by decide +kernel
theorem dX4_begin_13 : decode cX4_begin 13 = .ok (.iconst 0, 1) := by decide +kernel
theorem dX4_begin_14 : decode cX4_begin 14 = .ok (.ireturn, 1) := by decide +kernel
theorem dX4_toldBits_0 : decode cX4_toldBits 0 = .ok (.iconst 0, 1) := by decide +kernel
theorem dX4_toldBits_1 : decode cX4_toldBits 1 = .ok (.istore_n 1, 1) := by decide +kernel
theorem dX4_toldBits_2 : decode cX4_toldBits 2 = .ok (.iconst 0, 1) := by decide +kernel
theorem dX4_toldBits_3 : decode cX4_toldBits 3 = .ok (.istore_n 2, 1) := by decide +kernel
theorem dX4_toldBits_4 : decode cX4_toldBits 4 = .ok (.iload_n 2, 1) := by decide +kernel
theorem dX4_toldBits_5 : decode cX4_toldBits 5 = .ok (.iconst 4, 1) := by decide +kernel
theorem dX4_toldBits_6 : decode cX4_toldBits 6 = .ok (.if_icmp .ge 28, 3) := by decide +kernel
theorem dX4_toldBits_9 : decode cX4_toldBits 9 = .ok (.iload_n 1, 1) := by decide +kernel
theorem dX4_toldBits_10 : decode cX4_toldBits 10 = .ok (.aload_n 0, 1) := by decide +kernel
theorem dX4_toldBits_11 : decode cX4_toldBits 11 = .ok (.getfield 34, 3) := by decide +kernel
theorem dX4_toldBits_14 : decode cX4_toldBits 14 = .ok (.iload_n 2, 1) := by decide +kernel
theorem dX4_toldBits_15 : decode cX4_toldBits 15 = .ok (.baload, 1) := by decide +kernel
theorem dX4_toldBits_16 : decode cX4_toldBits 16 = .ok (.ifCond .eq 9, 3) := by decide +kernel
theorem dX4_toldBits_19 : decode cX4_toldBits 19 = .ok (.iconst 1, 1) := by decide +kernel
theorem dX4_toldBits_20 : decode cX4_toldBits 20 = .ok (.iload_n 2, 1) := by decide +kernel
theorem dX4_toldBits_21 : decode cX4_toldBits 21 = .ok (.ishl, 1) := by decide +kernel
theorem dX4_toldBits_22 : decode cX4_toldBits 22 = .ok (.goto 4, 3) := by decide +kernel
theorem dX4_toldBits_25 : decode cX4_toldBits 25 = .ok (.iconst 0, 1) := by decide +kernel
theorem dX4_toldBits_26 : decode cX4_toldBits 26 = .ok (.ior, 1) := by decide +kernel
theorem dX4_toldBits_27 : decode cX4_toldBits 27 = .ok (.istore_n 1, 1) := by decide +kernel
theorem dX4_toldBits_28 : decode cX4_toldBits 28 = .ok (.iinc 2 1, 3) := by decide +kernel
theorem dX4_toldBits_31 : decode cX4_toldBits 31 = .ok (.goto (-27), 3) := by decide +kernel
theorem dX4_toldBits_34 : decode cX4_toldBits 34 = .ok (.iload_n 1, 1) := by decide +kernel
theorem dX4_toldBits_35 : decode cX4_toldBits 35 = .ok (.ireturn, 1) := by decide +kernel
theorem dX4_wholeLength_0 : decode cX4_wholeLength 0 = .ok (.iconst 0, 1) := by decide +kernel
theorem dX4_wholeLength_1 : decode cX4_wholeLength 1 = .ok (.istore_n 1, 1) := by decide +kernel
theorem dX4_wholeLength_2 : decode cX4_wholeLength 2 = .ok (.iconst 0, 1) := by decide +kernel
theorem dX4_wholeLength_3 : decode cX4_wholeLength 3 = .ok (.istore_n 2, 1) := by decide +kernel
theorem dX4_wholeLength_4 : decode cX4_wholeLength 4 = .ok (.iload_n 2, 1) := by decide +kernel
theorem dX4_wholeLength_5 : decode cX4_wholeLength 5 = .ok (.aload_n 0, 1) := by decide +kernel
theorem dX4_wholeLength_6 : decode cX4_wholeLength 6 = .ok (.getfield 9, 3) := by decide +kernel
theorem dX4_wholeLength_9 : decode cX4_wholeLength 9 = .ok (.if_icmp .ge 18, 3) := by decide +kernel
theorem dX4_wholeLength_12 : decode cX4_wholeLength 12 = .ok (.iload_n 1, 1) := by decide +kernel
theorem dX4_wholeLength_13 : decode cX4_wholeLength 13 = .ok (.aload_n 0, 1) := by decide +kernel
theorem dX4_wholeLength_14 : decode cX4_wholeLength 14 = .ok (.getfield 22, 3) := by decide +kernel
theorem dX4_wholeLength_17 : decode cX4_wholeLength 17 = .ok (.iload_n 2, 1) := by decide +kernel
theorem dX4_wholeLength_18 : decode cX4_wholeLength 18 = .ok (.iaload, 1) := by decide +kernel
theorem dX4_wholeLength_19 : decode cX4_wholeLength 19 = .ok (.iadd, 1) := by decide +kernel
theorem dX4_wholeLength_20 : decode cX4_wholeLength 20 = .ok (.istore_n 1, 1) := by decide +kernel
theorem dX4_wholeLength_21 : decode cX4_wholeLength 21 = .ok (.iinc 2 1, 3) := by decide +kernel
theorem dX4_wholeLength_24 : decode cX4_wholeLength 24 = .ok (.goto (-20), 3) := by decide +kernel
theorem dX4_wholeLength_27 : decode cX4_wholeLength 27 = .ok (.iload_n 1, 1) := by decide +kernel
theorem dX4_wholeLength_28 : decode cX4_wholeLength 28 = .ok (.ireturn, 1) := by decide +kernel
theorem dX4_tell_0 : decode cX4_tell 0 = .ok (.iload_n 1, 1) := by decide +kernel
theorem dX4_tell_1 : decode cX4_tell 1 = .ok (.tableswitch 81 3 7 #[35, 43, 51, 59, 71], 35) := by decide +kernel
theorem dX4_tell_36 : decode cX4_tell 36 = .ok (.aload_n 0, 1) := by decide +kernel
theorem dX4_tell_37 : decode cX4_tell 37 = .ok (.iconst 0, 1) := by decide +kernel
theorem dX4_tell_38 : decode cX4_tell 38 = .ok (.putfield 9, 3) := by decide +kernel
theorem dX4_tell_41 : decode cX4_tell 41 = .ok (.goto 52, 3) := by decide +kernel
theorem dX4_tell_44 : decode cX4_tell 44 = .ok (.aload_n 0, 1) := by decide +kernel
theorem dX4_tell_45 : decode cX4_tell 45 = .ok (.aload_n 2, 1) := by decide +kernel
theorem dX4_tell_46 : decode cX4_tell 46 = .ok (.invokevirtual 50, 3) := by decide +kernel
theorem dX4_tell_49 : decode cX4_tell 49 = .ok (.goto 44, 3) := by decide +kernel
theorem dX4_tell_52 : decode cX4_tell 52 = .ok (.aload_n 0, 1) := by decide +kernel
theorem dX4_tell_53 : decode cX4_tell 53 = .ok (.aload_n 2, 1) := by decide +kernel
theorem dX4_tell_54 : decode cX4_tell 54 = .ok (.invokevirtual 54, 3) := by decide +kernel
theorem dX4_tell_57 : decode cX4_tell 57 = .ok (.goto 36, 3) := by decide +kernel
theorem dX4_tell_60 : decode cX4_tell 60 = .ok (.aload_n 0, 1) := by decide +kernel
theorem dX4_tell_61 : decode cX4_tell 61 = .ok (.getfield 34, 3) := by decide +kernel
theorem dX4_tell_64 : decode cX4_tell 64 = .ok (.aload_n 2, 1) := by decide +kernel
theorem dX4_tell_65 : decode cX4_tell 65 = .ok (.iconst 0, 1) := by decide +kernel
theorem dX4_tell_66 : decode cX4_tell 66 = .ok (.iaload, 1) := by decide +kernel
theorem dX4_tell_67 : decode cX4_tell 67 = .ok (.iconst 0, 1) := by decide +kernel
theorem dX4_tell_68 : decode cX4_tell 68 = .ok (.bastore, 1) := by decide +kernel
theorem dX4_tell_69 : decode cX4_tell 69 = .ok (.goto 24, 3) := by decide +kernel
theorem dX4_tell_72 : decode cX4_tell 72 = .ok (.aload_n 0, 1) := by decide +kernel
theorem dX4_tell_73 : decode cX4_tell 73 = .ok (.aload_n 2, 1) := by decide +kernel
theorem dX4_tell_74 : decode cX4_tell 74 = .ok (.iconst 0, 1) := by decide +kernel
theorem dX4_tell_75 : decode cX4_tell 75 = .ok (.iaload, 1) := by decide +kernel
theorem dX4_tell_76 : decode cX4_tell 76 = .ok (.putfield 15, 3) := by decide +kernel
theorem dX4_tell_79 : decode cX4_tell 79 = .ok (.goto 14, 3) := by decide +kernel
theorem dX4_tell_82 : decode cX4_tell 82 = .ok (.aload_n 0, 1) := by decide +kernel
theorem dX4_tell_83 : decode cX4_tell 83 = .ok (.iload_n 1, 1) := by decide +kernel
theorem dX4_tell_84 : decode cX4_tell 84 = .ok (.aload_n 2, 1) := by decide +kernel
theorem dX4_tell_85 : decode cX4_tell 85 = .ok (.iconst 0, 1) := by decide +kernel
theorem dX4_tell_86 : decode cX4_tell 86 = .ok (.iaload, 1) := by decide +kernel
theorem dX4_tell_87 : decode cX4_tell 87 = .ok (.aload_n 2, 1) := by decide +kernel
theorem dX4_tell_88 : decode cX4_tell 88 = .ok (.iconst 1, 1) := by decide +kernel
theorem dX4_tell_89 : decode cX4_tell 89 = .ok (.iaload, 1) := by decide +kernel
theorem dX4_tell_90 : decode cX4_tell 90 = .ok (.invokevirtual 57, 3) := by decide +kernel
theorem dX4_tell_93 : decode cX4_tell 93 = .ok (.return_, 1) := by decide +kernel
theorem dX4_addReach_0 : decode cX4_addReach 0 = .ok (.aload_n 0, 1) := by decide +kernel
theorem dX4_addReach_1 : decode cX4_addReach 1 = .ok (.getfield 9, 3) := by decide +kernel
theorem dX4_addReach_4 : decode cX4_addReach 4 = .ok (.bipush 8, 2) := by decide +kernel
theorem dX4_addReach_6 : decode cX4_addReach 6 = .ok (.if_icmp .lt 4, 3) := by decide +kernel
theorem dX4_addReach_9 : decode cX4_addReach 9 = .ok (.return_, 1) := by decide +kernel
theorem dX4_addReach_10 : decode cX4_addReach 10 = .ok (.aload_n 0, 1) := by decide +kernel
theorem dX4_addReach_11 : decode cX4_addReach 11 = .ok (.getfield 25, 3) := by decide +kernel
theorem dX4_addReach_14 : decode cX4_addReach 14 = .ok (.aload_n 0, 1) := by decide +kernel
theorem dX4_addReach_15 : decode cX4_addReach 15 = .ok (.getfield 9, 3) := by decide +kernel
theorem dX4_addReach_18 : decode cX4_addReach 18 = .ok (.iload_n 1, 1) := by decide +kernel
theorem dX4_addReach_19 : decode cX4_addReach 19 = .ok (.iastore, 1) := by decide +kernel
theorem dX4_addReach_20 : decode cX4_addReach 20 = .ok (.aload_n 0, 1) := by decide +kernel
theorem dX4_addReach_21 : decode cX4_addReach 21 = .ok (.getfield 18, 3) := by decide +kernel
theorem dX4_addReach_24 : decode cX4_addReach 24 = .ok (.aload_n 0, 1) := by decide +kernel
theorem dX4_addReach_25 : decode cX4_addReach 25 = .ok (.getfield 9, 3) := by decide +kernel
theorem dX4_addReach_28 : decode cX4_addReach 28 = .ok (.iload_n 2, 1) := by decide +kernel
theorem dX4_addReach_29 : decode cX4_addReach 29 = .ok (.iastore, 1) := by decide +kernel
theorem dX4_addReach_30 : decode cX4_addReach 30 = .ok (.aload_n 0, 1) := by decide +kernel
theorem dX4_addReach_31 : decode cX4_addReach 31 = .ok (.getfield 22, 3) := by decide +kernel
theorem dX4_addReach_34 : decode cX4_addReach 34 = .ok (.aload_n 0, 1) := by decide +kernel
theorem dX4_addReach_35 : decode cX4_addReach 35 = .ok (.getfield 9, 3) := by decide +kernel
theorem dX4_addReach_38 : decode cX4_addReach 38 = .ok (.iload_n 3, 1) := by decide +kernel
theorem dX4_addReach_39 : decode cX4_addReach 39 = .ok (.iastore, 1) := by decide +kernel
theorem dX4_addReach_40 : decode cX4_addReach 40 = .ok (.aload_n 0, 1) := by decide +kernel
theorem dX4_addReach_41 : decode cX4_addReach 41 = .ok (.dup, 1) := by decide +kernel
theorem dX4_addReach_42 : decode cX4_addReach 42 = .ok (.getfield 9, 3) := by decide +kernel
theorem dX4_addReach_45 : decode cX4_addReach 45 = .ok (.iconst 1, 1) := by decide +kernel
theorem dX4_addReach_46 : decode cX4_addReach 46 = .ok (.iadd, 1) := by decide +kernel
theorem dX4_addReach_47 : decode cX4_addReach 47 = .ok (.putfield 9, 3) := by decide +kernel
theorem dX4_addReach_50 : decode cX4_addReach 50 = .ok (.return_, 1) := by decide +kernel
theorem dX4_tellWind_0 : decode cX4_tellWind 0 = .ok (.aload_n 1, 1) := by decide +kernel
theorem dX4_tellWind_1 : decode cX4_tellWind 1 = .ok (.iconst 1, 1) := by decide +kernel
theorem dX4_tellWind_2 : decode cX4_tellWind 2 = .ok (.iaload, 1) := by decide +kernel
theorem dX4_tellWind_3 : decode cX4_tellWind 3 = .ok (.istore_n 2, 1) := by decide +kernel
theorem dX4_tellWind_4 : decode cX4_tellWind 4 = .ok (.iload_n 2, 1) := by decide +kernel
theorem dX4_tellWind_5 : decode cX4_tellWind 5 = .ok (.aload_n 1, 1) := by decide +kernel
theorem dX4_tellWind_6 : decode cX4_tellWind 6 = .ok (.iconst 2, 1) := by decide +kernel
theorem dX4_tellWind_7 : decode cX4_tellWind 7 = .ok (.iaload, 1) := by decide +kernel
theorem dX4_tellWind_8 : decode cX4_tellWind 8 = .ok (.if_icmp .gt 41, 3) := by decide +kernel
theorem dX4_tellWind_11 : decode cX4_tellWind 11 = .ok (.aload_n 0, 1) := by decide +kernel
theorem dX4_tellWind_12 : decode cX4_tellWind 12 = .ok (.getfield 28, 3) := by decide +kernel
theorem dX4_tellWind_15 : decode cX4_tellWind 15 = .ok (.aload_n 1, 1) := by decide +kernel
theorem dX4_tellWind_16 : decode cX4_tellWind 16 = .ok (.iconst 0, 1) := by decide +kernel
theorem dX4_tellWind_17 : decode cX4_tellWind 17 = .ok (.iaload, 1) := by decide +kernel
theorem dX4_tellWind_18 : decode cX4_tellWind 18 = .ok (.bipush 24, 2) := by decide +kernel
theorem dX4_tellWind_20 : decode cX4_tellWind 20 = .ok (.imul, 1) := by decide +kernel
theorem dX4_tellWind_21 : decode cX4_tellWind 21 = .ok (.iload_n 2, 1) := by decide +kernel
theorem dX4_tellWind_22 : decode cX4_tellWind 22 = .ok (.iadd, 1) := by decide +kernel
theorem dX4_tellWind_23 : decode cX4_tellWind 23 = .ok (.aload_n 1, 1) := by decide +kernel
theorem dX4_tellWind_24 : decode cX4_tellWind 24 = .ok (.iconst 3, 1) := by decide +kernel
theorem dX4_tellWind_25 : decode cX4_tellWind 25 = .ok (.iaload, 1) := by decide +kernel
theorem dX4_tellWind_26 : decode cX4_tellWind 26 = .ok (.iastore, 1) := by decide +kernel
theorem dX4_tellWind_27 : decode cX4_tellWind 27 = .ok (.aload_n 0, 1) := by decide +kernel
theorem dX4_tellWind_28 : decode cX4_tellWind 28 = .ok (.getfield 31, 3) := by decide +kernel
theorem dX4_tellWind_31 : decode cX4_tellWind 31 = .ok (.aload_n 1, 1) := by decide +kernel
theorem dX4_tellWind_32 : decode cX4_tellWind 32 = .ok (.iconst 0, 1) := by decide +kernel
theorem dX4_tellWind_33 : decode cX4_tellWind 33 = .ok (.iaload, 1) := by decide +kernel
theorem dX4_tellWind_34 : decode cX4_tellWind 34 = .ok (.bipush 24, 2) := by decide +kernel
theorem dX4_tellWind_36 : decode cX4_tellWind 36 = .ok (.imul, 1) := by decide +kernel
theorem dX4_tellWind_37 : decode cX4_tellWind 37 = .ok (.iload_n 2, 1) := by decide +kernel
theorem dX4_tellWind_38 : decode cX4_tellWind 38 = .ok (.iadd, 1) := by decide +kernel
theorem dX4_tellWind_39 : decode cX4_tellWind 39 = .ok (.aload_n 1, 1) := by decide +kernel
theorem dX4_tellWind_40 : decode cX4_tellWind 40 = .ok (.iconst 4, 1) := by decide +kernel
theorem dX4_tellWind_41 : decode cX4_tellWind 41 = .ok (.iaload, 1) := by decide +kernel
theorem dX4_tellWind_42 : decode cX4_tellWind 42 = .ok (.iastore, 1) := by decide +kernel
theorem dX4_tellWind_43 : decode cX4_tellWind 43 = .ok (.iinc 2 1, 3) := by decide +kernel
theorem dX4_tellWind_46 : decode cX4_tellWind 46 = .ok (.goto (-42), 3) := by decide +kernel
theorem dX4_tellWind_49 : decode cX4_tellWind 49 = .ok (.return_, 1) := by decide +kernel
theorem dX4_tellBarge_0 : decode cX4_tellBarge 0 = .ok (.aload_n 1, 1) := by decide +kernel
theorem dX4_tellBarge_1 : decode cX4_tellBarge 1 = .ok (.iconst 0, 1) := by decide +kernel
theorem dX4_tellBarge_2 : decode cX4_tellBarge 2 = .ok (.iaload, 1) := by decide +kernel
theorem dX4_tellBarge_3 : decode cX4_tellBarge 3 = .ok (.istore_n 2, 1) := by decide +kernel
theorem dX4_tellBarge_4 : decode cX4_tellBarge 4 = .ok (.aload_n 0, 1) := by decide +kernel
theorem dX4_tellBarge_5 : decode cX4_tellBarge 5 = .ok (.getfield 34, 3) := by decide +kernel
theorem dX4_tellBarge_8 : decode cX4_tellBarge 8 = .ok (.iload_n 2, 1) := by decide +kernel
theorem dX4_tellBarge_9 : decode cX4_tellBarge 9 = .ok (.iconst 1, 1) := by decide +kernel
theorem dX4_tellBarge_10 : decode cX4_tellBarge 10 = .ok (.bastore, 1) := by decide +kernel
theorem dX4_tellBarge_11 : decode cX4_tellBarge 11 = .ok (.aload_n 0, 1) := by decide +kernel
theorem dX4_tellBarge_12 : decode cX4_tellBarge 12 = .ok (.getfield 38, 3) := by decide +kernel
theorem dX4_tellBarge_15 : decode cX4_tellBarge 15 = .ok (.iload_n 2, 1) := by decide +kernel
theorem dX4_tellBarge_16 : decode cX4_tellBarge 16 = .ok (.aload_n 1, 1) := by decide +kernel
theorem dX4_tellBarge_17 : decode cX4_tellBarge 17 = .ok (.iconst 1, 1) := by decide +kernel
theorem dX4_tellBarge_18 : decode cX4_tellBarge 18 = .ok (.iaload, 1) := by decide +kernel
theorem dX4_tellBarge_19 : decode cX4_tellBarge 19 = .ok (.iastore, 1) := by decide +kernel
theorem dX4_tellBarge_20 : decode cX4_tellBarge 20 = .ok (.aload_n 0, 1) := by decide +kernel
theorem dX4_tellBarge_21 : decode cX4_tellBarge 21 = .ok (.getfield 41, 3) := by decide +kernel
theorem dX4_tellBarge_24 : decode cX4_tellBarge 24 = .ok (.iload_n 2, 1) := by decide +kernel
theorem dX4_tellBarge_25 : decode cX4_tellBarge 25 = .ok (.aload_n 1, 1) := by decide +kernel
theorem dX4_tellBarge_26 : decode cX4_tellBarge 26 = .ok (.iconst 2, 1) := by decide +kernel
theorem dX4_tellBarge_27 : decode cX4_tellBarge 27 = .ok (.iaload, 1) := by decide +kernel
theorem dX4_tellBarge_28 : decode cX4_tellBarge 28 = .ok (.iastore, 1) := by decide +kernel
theorem dX4_tellBarge_29 : decode cX4_tellBarge 29 = .ok (.aload_n 0, 1) := by decide +kernel
theorem dX4_tellBarge_30 : decode cX4_tellBarge 30 = .ok (.getfield 44, 3) := by decide +kernel
theorem dX4_tellBarge_33 : decode cX4_tellBarge 33 = .ok (.iload_n 2, 1) := by decide +kernel
theorem dX4_tellBarge_34 : decode cX4_tellBarge 34 = .ok (.aload_n 1, 1) := by decide +kernel
theorem dX4_tellBarge_35 : decode cX4_tellBarge 35 = .ok (.iconst 3, 1) := by decide +kernel
theorem dX4_tellBarge_36 : decode cX4_tellBarge 36 = .ok (.iaload, 1) := by decide +kernel
theorem dX4_tellBarge_37 : decode cX4_tellBarge 37 = .ok (.iastore, 1) := by decide +kernel
theorem dX4_tellBarge_38 : decode cX4_tellBarge 38 = .ok (.aload_n 0, 1) := by decide +kernel
theorem dX4_tellBarge_39 : decode cX4_tellBarge 39 = .ok (.getfield 47, 3) := by decide +kernel
theorem dX4_tellBarge_42 : decode cX4_tellBarge 42 = .ok (.iload_n 2, 1) := by decide +kernel
theorem dX4_tellBarge_43 : decode cX4_tellBarge 43 = .ok (.aload_n 1, 1) := by decide +kernel
theorem dX4_tellBarge_44 : decode cX4_tellBarge 44 = .ok (.iconst 4, 1) := by decide +kernel
theorem dX4_tellBarge_45 : decode cX4_tellBarge 45 = .ok (.iaload, 1) := by decide +kernel
theorem dX4_tellBarge_46 : decode cX4_tellBarge 46 = .ok (.iastore, 1) := by decide +kernel
theorem dX4_tellBarge_47 : decode cX4_tellBarge 47 = .ok (.return_, 1) := by decide +kernel
theorem dX4_pulled_0 : decode cX4_pulled 0 = .ok (.iload_n 0, 1) := by decide +kernel
theorem dX4_pulled_1 : decode cX4_pulled 1 = .ok (.iconst 3, 1) := by decide +kernel
theorem dX4_pulled_2 : decode cX4_pulled 2 = .ok (.if_icmp .eq 8, 3) := by decide +kernel
theorem dX4_pulled_5 : decode cX4_pulled 5 = .ok (.iload_n 0, 1) := by decide +kernel
theorem dX4_pulled_6 : decode cX4_pulled 6 = .ok (.iconst 4, 1) := by decide +kernel
theorem dX4_pulled_7 : decode cX4_pulled 7 = .ok (.if_icmp .ne 7, 3) := by decide +kernel
theorem dX4_pulled_10 : decode cX4_pulled 10 = .ok (.iconst 1, 1) := by decide +kernel
theorem dX4_pulled_11 : decode cX4_pulled 11 = .ok (.goto 4, 3) := by decide +kernel
theorem dX4_pulled_14 : decode cX4_pulled 14 = .ok (.iconst 0, 1) := by decide +kernel
theorem dX4_pulled_15 : decode cX4_pulled 15 = .ok (.istore_n 3, 1) := by decide +kernel
theorem dX4_pulled_16 : decode cX4_pulled 16 = .ok (.iload_n 2, 1) := by decide +kernel
theorem dX4_pulled_17 : decode cX4_pulled 17 = .ok (.iload_n 3, 1) := by decide +kernel
theorem dX4_pulled_18 : decode cX4_pulled 18 = .ok (.ifCond .eq 14, 3) := by decide +kernel
theorem dX4_pulled_21 : decode cX4_pulled 21 = .ok (.getstatic 61, 3) := by decide +kernel
theorem dX4_pulled_24 : decode cX4_pulled 24 = .ok (.iload_n 1, 1) := by decide +kernel
theorem dX4_pulled_25 : decode cX4_pulled 25 = .ok (.bipush 7, 2) := by decide +kernel
theorem dX4_pulled_27 : decode cX4_pulled 27 = .ok (.iand, 1) := by decide +kernel
theorem dX4_pulled_28 : decode cX4_pulled 28 = .ok (.iaload, 1) := by decide +kernel
theorem dX4_pulled_29 : decode cX4_pulled 29 = .ok (.goto 11, 3) := by decide +kernel
theorem dX4_pulled_32 : decode cX4_pulled 32 = .ok (.getstatic 64, 3) := by decide +kernel
theorem dX4_pulled_35 : decode cX4_pulled 35 = .ok (.iload_n 1, 1) := by decide +kernel
theorem dX4_pulled_36 : decode cX4_pulled 36 = .ok (.bipush 7, 2) := by decide +kernel
theorem dX4_pulled_38 : decode cX4_pulled 38 = .ok (.iand, 1) := by decide +kernel
theorem dX4_pulled_39 : decode cX4_pulled 39 = .ok (.iaload, 1) := by decide +kernel
theorem dX4_pulled_40 : decode cX4_pulled 40 = .ok (.imul, 1) := by decide +kernel
theorem dX4_pulled_41 : decode cX4_pulled 41 = .ok (.istore 4, 2) := by decide +kernel
theorem dX4_pulled_43 : decode cX4_pulled 43 = .ok (.iload_n 0, 1) := by decide +kernel
theorem dX4_pulled_44 : decode cX4_pulled 44 = .ok (.iconst 1, 1) := by decide +kernel
theorem dX4_pulled_45 : decode cX4_pulled 45 = .ok (.if_icmp .ne 8, 3) := by decide +kernel
theorem dX4_pulled_48 : decode cX4_pulled 48 = .ok (.iconst 2, 1) := by decide +kernel
theorem dX4_pulled_49 : decode cX4_pulled 49 = .ok (.iload 4, 2) := by decide +kernel
theorem dX4_pulled_51 : decode cX4_pulled 51 = .ok (.imul, 1) := by decide +kernel
theorem dX4_pulled_52 : decode cX4_pulled 52 = .ok (.ireturn, 1) := by decide +kernel
theorem dX4_pulled_53 : decode cX4_pulled 53 = .ok (.iload_n 0, 1) := by decide +kernel
theorem dX4_pulled_54 : decode cX4_pulled 54 = .ok (.iconst 4, 1) := by decide +kernel
theorem dX4_pulled_55 : decode cX4_pulled 55 = .ok (.if_icmp .ne 10, 3) := by decide +kernel
theorem dX4_pulled_58 : decode cX4_pulled 58 = .ok (.iload 4, 2) := by decide +kernel
theorem dX4_pulled_60 : decode cX4_pulled 60 = .ok (.iconst 2, 1) := by decide +kernel
theorem dX4_pulled_61 : decode cX4_pulled 61 = .ok (.idiv, 1) := by decide +kernel
theorem dX4_pulled_62 : decode cX4_pulled 62 = .ok (.goto 5, 3) := by decide +kernel
theorem dX4_pulled_65 : decode cX4_pulled 65 = .ok (.iload 4, 2) := by decide +kernel
theorem dX4_pulled_67 : decode cX4_pulled 67 = .ok (.ireturn, 1) := by decide +kernel
theorem dX4_stepOf_0 : decode cX4_stepOf 0 = .ok (.aload_n 0, 1) := by decide +kernel
theorem dX4_stepOf_1 : decode cX4_stepOf 1 = .ok (.getfield 25, 3) := by decide +kernel
theorem dX4_stepOf_4 : decode cX4_stepOf 4 = .ok (.iload_n 2, 1) := by decide +kernel
theorem dX4_stepOf_5 : decode cX4_stepOf 5 = .ok (.iaload, 1) := by decide +kernel
theorem dX4_stepOf_6 : decode cX4_stepOf 6 = .ok (.iconst 1, 1) := by decide +kernel
theorem dX4_stepOf_7 : decode cX4_stepOf 7 = .ok (.if_icmp .ne 8, 3) := by decide +kernel
theorem dX4_stepOf_10 : decode cX4_stepOf 10 = .ok (.iload_n 3, 1) := by decide +kernel
theorem dX4_stepOf_11 : decode cX4_stepOf 11 = .ok (.iconst 1, 1) := by decide +kernel
theorem dX4_stepOf_12 : decode cX4_stepOf 12 = .ok (.if_icmp .gt 13, 3) := by decide +kernel
theorem dX4_stepOf_15 : decode cX4_stepOf 15 = .ok (.aload_n 0, 1) := by decide +kernel
theorem dX4_stepOf_16 : decode cX4_stepOf 16 = .ok (.getfield 38, 3) := by decide +kernel
theorem dX4_stepOf_19 : decode cX4_stepOf 19 = .ok (.iload_n 1, 1) := by decide +kernel
theorem dX4_stepOf_20 : decode cX4_stepOf 20 = .ok (.iaload, 1) := by decide +kernel
theorem dX4_stepOf_21 : decode cX4_stepOf 21 = .ok (.iconst 1, 1) := by decide +kernel
theorem dX4_stepOf_22 : decode cX4_stepOf 22 = .ok (.if_icmp .ge 5, 3) := by decide +kernel
theorem dX4_stepOf_25 : decode cX4_stepOf 25 = .ok (.iconst 0, 1) := by decide +kernel
theorem dX4_stepOf_26 : decode cX4_stepOf 26 = .ok (.ireturn, 1) := by decide +kernel
theorem dX4_stepOf_27 : decode cX4_stepOf 27 = .ok (.iload_n 3, 1) := by decide +kernel
theorem dX4_stepOf_28 : decode cX4_stepOf 28 = .ok (.bipush 24, 2) := by decide +kernel
theorem dX4_stepOf_30 : decode cX4_stepOf 30 = .ok (.imul, 1) := by decide +kernel
theorem dX4_stepOf_31 : decode cX4_stepOf 31 = .ok (.iload 4, 2) := by decide +kernel
theorem dX4_stepOf_33 : decode cX4_stepOf 33 = .ok (.iadd, 1) := by decide +kernel
theorem dX4_stepOf_34 : decode cX4_stepOf 34 = .ok (.istore 5, 2) := by decide +kernel
theorem dX4_stepOf_36 : decode cX4_stepOf 36 = .ok (.aload_n 0, 1) := by decide +kernel
theorem dX4_stepOf_37 : decode cX4_stepOf 37 = .ok (.getfield 44, 3) := by decide +kernel
theorem dX4_stepOf_40 : decode cX4_stepOf 40 = .ok (.iload_n 1, 1) := by decide +kernel
theorem dX4_stepOf_41 : decode cX4_stepOf 41 = .ok (.iaload, 1) := by decide +kernel
theorem dX4_stepOf_42 : decode cX4_stepOf 42 = .ok (.aload_n 0, 1) := by decide +kernel
theorem dX4_stepOf_43 : decode cX4_stepOf 43 = .ok (.getfield 28, 3) := by decide +kernel
theorem dX4_stepOf_46 : decode cX4_stepOf 46 = .ok (.iload 5, 2) := by decide +kernel
theorem dX4_stepOf_48 : decode cX4_stepOf 48 = .ok (.iaload, 1) := by decide +kernel
theorem dX4_stepOf_49 : decode cX4_stepOf 49 = .ok (.aload_n 0, 1) := by decide +kernel
theorem dX4_stepOf_50 : decode cX4_stepOf 50 = .ok (.getfield 18, 3) := by decide +kernel
theorem dX4_stepOf_53 : decode cX4_stepOf 53 = .ok (.iload_n 2, 1) := by decide +kernel
theorem dX4_stepOf_54 : decode cX4_stepOf 54 = .ok (.iaload, 1) := by decide +kernel
theorem dX4_stepOf_55 : decode cX4_stepOf 55 = .ok (.isub, 1) := by decide +kernel
theorem dX4_stepOf_56 : decode cX4_stepOf 56 = .ok (.aload_n 0, 1) := by decide +kernel
theorem dX4_stepOf_57 : decode cX4_stepOf 57 = .ok (.getfield 31, 3) := by decide +kernel
theorem dX4_stepOf_60 : decode cX4_stepOf 60 = .ok (.iload 5, 2) := by decide +kernel
theorem dX4_stepOf_62 : decode cX4_stepOf 62 = .ok (.iaload, 1) := by decide +kernel
theorem dX4_stepOf_63 : decode cX4_stepOf 63 = .ok (.invokestatic 67, 3) := by decide +kernel
theorem dX4_stepOf_66 : decode cX4_stepOf 66 = .ok (.aload_n 0, 1) := by decide +kernel
theorem dX4_stepOf_67 : decode cX4_stepOf 67 = .ok (.getfield 38, 3) := by decide +kernel
theorem dX4_stepOf_70 : decode cX4_stepOf 70 = .ok (.iload_n 1, 1) := by decide +kernel
theorem dX4_stepOf_71 : decode cX4_stepOf 71 = .ok (.iaload, 1) := by decide +kernel
theorem dX4_stepOf_72 : decode cX4_stepOf 72 = .ok (.idiv, 1) := by decide +kernel
theorem dX4_stepOf_73 : decode cX4_stepOf 73 = .ok (.ireturn, 1) := by decide +kernel
theorem dX4_moved_0 : decode cX4_moved 0 = .ok (.iload_n 2, 1) := by decide +kernel
theorem dX4_moved_1 : decode cX4_moved 1 = .ok (.sipush 160, 3) := by decide +kernel
theorem dX4_moved_4 : decode cX4_moved 4 = .ok (.if_icmp .lt 7, 3) := by decide +kernel
theorem dX4_moved_7 : decode cX4_moved 7 = .ok (.sipush 160, 3) := by decide +kernel
theorem dX4_moved_10 : decode cX4_moved 10 = .ok (.ireturn, 1) := by decide +kernel
theorem dX4_moved_11 : decode cX4_moved 11 = .ok (.iload_n 2, 1) := by decide +kernel
theorem dX4_moved_12 : decode cX4_moved 12 = .ok (.bipush 20, 2) := by decide +kernel
theorem dX4_moved_14 : decode cX4_moved 14 = .ok (.idiv, 1) := by decide +kernel
theorem dX4_moved_15 : decode cX4_moved 15 = .ok (.istore 5, 2) := by decide +kernel
theorem dX4_moved_17 : decode cX4_moved 17 = .ok (.iload_n 2, 1) := by decide +kernel
theorem dX4_moved_18 : decode cX4_moved 18 = .ok (.bipush 20, 2) := by decide +kernel
theorem dX4_moved_20 : decode cX4_moved 20 = .ok (.irem, 1) := by decide +kernel
theorem dX4_moved_21 : decode cX4_moved 21 = .ok (.aload_n 0, 1) := by decide +kernel
theorem dX4_moved_22 : decode cX4_moved 22 = .ok (.iload_n 1, 1) := by decide +kernel
theorem dX4_moved_23 : decode cX4_moved 23 = .ok (.iload 5, 2) := by decide +kernel
theorem dX4_moved_25 : decode cX4_moved 25 = .ok (.iload_n 3, 1) := by decide +kernel
theorem dX4_moved_26 : decode cX4_moved 26 = .ok (.iload 4, 2) := by decide +kernel
theorem dX4_moved_28 : decode cX4_moved 28 = .ok (.invokevirtual 71, 3) := by decide +kernel
theorem dX4_moved_31 : decode cX4_moved 31 = .ok (.iadd, 1) := by decide +kernel
theorem dX4_moved_32 : decode cX4_moved 32 = .ok (.istore 6, 2) := by decide +kernel
theorem dX4_moved_34 : decode cX4_moved 34 = .ok (.iload 6, 2) := by decide +kernel
theorem dX4_moved_36 : decode cX4_moved 36 = .ok (.aload_n 0, 1) := by decide +kernel
theorem dX4_moved_37 : decode cX4_moved 37 = .ok (.getfield 22, 3) := by decide +kernel
theorem dX4_moved_40 : decode cX4_moved 40 = .ok (.iload 5, 2) := by decide +kernel
theorem dX4_moved_42 : decode cX4_moved 42 = .ok (.iaload, 1) := by decide +kernel
theorem dX4_moved_43 : decode cX4_moved 43 = .ok (.if_icmp .ge 12, 3) := by decide +kernel
theorem dX4_moved_46 : decode cX4_moved 46 = .ok (.iload 5, 2) := by decide +kernel
theorem dX4_moved_48 : decode cX4_moved 48 = .ok (.bipush 20, 2) := by decide +kernel
theorem dX4_moved_50 : decode cX4_moved 50 = .ok (.imul, 1) := by decide +kernel
theorem dX4_moved_51 : decode cX4_moved 51 = .ok (.iload 6, 2) := by decide +kernel
theorem dX4_moved_53 : decode cX4_moved 53 = .ok (.iadd, 1) := by decide +kernel
theorem dX4_moved_54 : decode cX4_moved 54 = .ok (.ireturn, 1) := by decide +kernel
theorem dX4_moved_55 : decode cX4_moved 55 = .ok (.aload_n 0, 1) := by decide +kernel
theorem dX4_moved_56 : decode cX4_moved 56 = .ok (.getfield 25, 3) := by decide +kernel
theorem dX4_moved_59 : decode cX4_moved 59 = .ok (.iload 5, 2) := by decide +kernel
theorem dX4_moved_61 : decode cX4_moved 61 = .ok (.iaload, 1) := by decide +kernel
theorem dX4_moved_62 : decode cX4_moved 62 = .ok (.iconst 2, 1) := by decide +kernel
theorem dX4_moved_63 : decode cX4_moved 63 = .ok (.if_icmp .ne 33, 3) := by decide +kernel
theorem dX4_moved_66 : decode cX4_moved 66 = .ok (.aload_n 0, 1) := by decide +kernel
theorem dX4_moved_67 : decode cX4_moved 67 = .ok (.getfield 31, 3) := by decide +kernel
theorem dX4_moved_70 : decode cX4_moved 70 = .ok (.iload 4, 2) := by decide +kernel
theorem dX4_moved_72 : decode cX4_moved 72 = .ok (.iaload, 1) := by decide +kernel
theorem dX4_moved_73 : decode cX4_moved 73 = .ok (.aload_n 0, 1) := by decide +kernel
theorem dX4_moved_74 : decode cX4_moved 74 = .ok (.getfield 15, 3) := by decide +kernel
theorem dX4_moved_77 : decode cX4_moved 77 = .ok (.if_icmp .le 19, 3) := by decide +kernel
theorem dX4_moved_80 : decode cX4_moved 80 = .ok (.iload 5, 2) := by decide +kernel
theorem dX4_moved_82 : decode cX4_moved 82 = .ok (.bipush 20, 2) := by decide +kernel
theorem dX4_moved_84 : decode cX4_moved 84 = .ok (.imul, 1) := by decide +kernel
theorem dX4_moved_85 : decode cX4_moved 85 = .ok (.aload_n 0, 1) := by decide +kernel
theorem dX4_moved_86 : decode cX4_moved 86 = .ok (.getfield 22, 3) := by decide +kernel
theorem dX4_moved_89 : decode cX4_moved 89 = .ok (.iload 5, 2) := by decide +kernel
theorem dX4_moved_91 : decode cX4_moved 91 = .ok (.iaload, 1) := by decide +kernel
theorem dX4_moved_92 : decode cX4_moved 92 = .ok (.iadd, 1) := by decide +kernel
theorem dX4_moved_93 : decode cX4_moved 93 = .ok (.iconst 1, 1) := by decide +kernel
theorem dX4_moved_94 : decode cX4_moved 94 = .ok (.isub, 1) := by decide +kernel
theorem dX4_moved_95 : decode cX4_moved 95 = .ok (.ireturn, 1) := by decide +kernel
theorem dX4_moved_96 : decode cX4_moved 96 = .ok (.iload 5, 2) := by decide +kernel
theorem dX4_moved_98 : decode cX4_moved 98 = .ok (.iconst 1, 1) := by decide +kernel
theorem dX4_moved_99 : decode cX4_moved 99 = .ok (.iadd, 1) := by decide +kernel
theorem dX4_moved_100 : decode cX4_moved 100 = .ok (.aload_n 0, 1) := by decide +kernel
theorem dX4_moved_101 : decode cX4_moved 101 = .ok (.getfield 9, 3) := by decide +kernel
theorem dX4_moved_104 : decode cX4_moved 104 = .ok (.if_icmp .ge 13, 3) := by decide +kernel
theorem dX4_moved_107 : decode cX4_moved 107 = .ok (.iload 5, 2) := by decide +kernel
theorem dX4_moved_109 : decode cX4_moved 109 = .ok (.iconst 1, 1) := by decide +kernel
theorem dX4_moved_110 : decode cX4_moved 110 = .ok (.iadd, 1) := by decide +kernel
theorem dX4_moved_111 : decode cX4_moved 111 = .ok (.bipush 20, 2) := by decide +kernel
theorem dX4_moved_113 : decode cX4_moved 113 = .ok (.imul, 1) := by decide +kernel
theorem dX4_moved_114 : decode cX4_moved 114 = .ok (.goto 6, 3) := by decide +kernel
theorem dX4_moved_117 : decode cX4_moved 117 = .ok (.sipush 160, 3) := by decide +kernel
theorem dX4_moved_120 : decode cX4_moved 120 = .ok (.ireturn, 1) := by decide +kernel
theorem dX5_init_0 : decode cX5_init 0 = .ok (.aload_n 0, 1) := by decide +kernel
theorem dX5_init_1 : decode cX5_init 1 = .ok (.invokespecial 3, 3) := by decide +kernel
theorem dX5_init_4 : decode cX5_init 4 = .ok (.aload_n 0, 1) := by decide +kernel
theorem dX5_init_5 : decode cX5_init 5 = .ok (.iconst 0, 1) := by decide +kernel
theorem dX5_init_6 : decode cX5_init 6 = .ok (.putfield 9, 3) := by decide +kernel
theorem dX5_init_9 : decode cX5_init 9 = .ok (.aload_n 0, 1) := by decide +kernel
theorem dX5_init_10 : decode cX5_init 10 = .ok (.iconst 0, 1) := by decide +kernel
theorem dX5_init_11 : decode cX5_init 11 = .ok (.putfield 15, 3) := by decide +kernel
theorem dX5_init_14 : decode cX5_init 14 = .ok (.aload_n 0, 1) := by decide +kernel
theorem dX5_init_15 : decode cX5_init 15 = .ok (.sipush 200, 3) := by decide +kernel
theorem dX5_init_18 : decode cX5_init 18 = .ok (.newarray .int, 2) := by decide +kernel
theorem dX5_init_20 : decode cX5_init 20 = .ok (.putfield 18, 3) := by decide +kernel
theorem dX5_init_23 : decode cX5_init 23 = .ok (.aload_n 0, 1) := by decide +kernel
theorem dX5_init_24 : decode cX5_init 24 = .ok (.iconst 3, 1) := by decide +kernel
theorem dX5_init_25 : decode cX5_init 25 = .ok (.putfield 22, 3) := by decide +kernel
theorem dX5_init_28 : decode cX5_init 28 = .ok (.aload_n 0, 1) := by decide +kernel
theorem dX5_init_29 : decode cX5_init 29 = .ok (.iconst 0, 1) := by decide +kernel
theorem dX5_init_30 : decode cX5_init 30 = .ok (.putfield 25, 3) := by decide +kernel
theorem dX5_init_33 : decode cX5_init 33 = .ok (.aload_n 0, 1) := by decide +kernel
theorem dX5_init_34 : decode cX5_init 34 = .ok (.iconst 0, 1) := by decide +kernel
theorem dX5_init_35 : decode cX5_init 35 = .ok (.putfield 28, 3) := by decide +kernel
theorem dX5_init_38 : decode cX5_init 38 = .ok (.aload_n 0, 1) := by decide +kernel
theorem dX5_init_39 : decode cX5_init 39 = .ok (.iconst (-1), 1) := by decide +kernel
theorem dX5_init_40 : decode cX5_init 40 = .ok (.putfield 31, 3) := by decide +kernel
theorem dX5_init_43 : decode cX5_init 43 = .ok (.aload_n 0, 1) := by decide +kernel
theorem dX5_init_44 : decode cX5_init 44 = .ok (.iconst 0, 1) := by decide +kernel
