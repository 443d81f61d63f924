/-! decode rows: X1 X2 X3 X4 X5 J -/
theorem dX1_init_0 : decode cX1_init 0 = .ok (.aload_n 0, 1) := by decide +kernel
theorem dX1_init_1 : decode cX1_init 1 = .ok (.invokespecial 3, 3) := by decide +kernel
theorem dX1_init_4 : decode cX1_init 4 = .ok (.aload_n 0, 1) := by decide +kernel
theorem dX1_init_5 : decode cX1_init 5 = .ok (.bipush 8, 2) := by decide +kernel
theorem dX1_init_7 : decode cX1_init 7 = .ok (.newarray .int, 2) := by decide +kernel
theorem dX1_init_9 : decode cX1_init 9 = .ok (.putfield 9, 3) := by decide +kernel
theorem dX1_init_12 : decode cX1_init 12 = .ok (.aload_n 0, 1) := by decide +kernel
theorem dX1_init_13 : decode cX1_init 13 = .ok (.bipush 8, 2) := by decide +kernel
theorem dX1_init_15 : decode cX1_init 15 = .ok (.newarray .int, 2) := by decide +kernel
theorem dX1_init_17 : decode cX1_init 17 = .ok (.putfield 15, 3) := by decide +kernel
theorem dX1_init_20 : decode cX1_init 20 = .ok (.return_, 1) := by decide +kernel
theorem dX1_size_0 : decode cX1_size 0 = .ok (.aload_n 0, 1) := by decide +kernel
theorem dX1_size_1 : decode cX1_size 1 = .ok (.getfield 18, 3) := by decide +kernel
theorem dX1_size_4 : decode cX1_size 4 = .ok (.ireturn, 1) := by decide +kernel
theorem dX1_clear_0 : decode cX1_clear 0 = .ok (.aload_n 0, 1) := by decide +kernel
theorem dX1_clear_1 : decode cX1_clear 1 = .ok (.iconst 0, 1) := by decide +kernel
theorem dX1_clear_2 : decode cX1_clear 2 = .ok (.putfield 18, 3) := by decide +kernel
theorem dX1_clear_5 : decode cX1_clear 5 = .ok (.return_, 1) := by decide +kernel
theorem dX1_push_0 : decode cX1_push 0 = .ok (.aload_n 0, 1) := by decide +kernel
theorem dX1_push_1 : decode cX1_push 1 = .ok (.getfield 9, 3) := by decide +kernel
theorem dX1_push_4 : decode cX1_push 4 = .ok (.aload_n 0, 1) := by decide +kernel
theorem dX1_push_5 : decode cX1_push 5 = .ok (.getfield 22, 3) := by decide +kernel
theorem dX1_push_8 : decode cX1_push 8 = .ok (.iload_n 1, 1) := by decide +kernel
theorem dX1_push_9 : decode cX1_push 9 = .ok (.iastore, 1) := by decide +kernel
theorem dX1_push_10 : decode cX1_push 10 = .ok (.aload_n 0, 1) := by decide +kernel
theorem dX1_push_11 : decode cX1_push 11 = .ok (.getfield 15, 3) := by decide +kernel
theorem dX1_push_14 : decode cX1_push 14 = .ok (.aload_n 0, 1) := by decide +kernel
theorem dX1_push_15 : decode cX1_push 15 = .ok (.getfield 22, 3) := by decide +kernel
theorem dX1_push_18 : decode cX1_push 18 = .ok (.iload_n 2, 1) := by decide +kernel
theorem dX1_push_19 : decode cX1_push 19 = .ok (.iastore, 1) := by decide +kernel
theorem dX1_push_20 : decode cX1_push 20 = .ok (.aload_n 0, 1) := by decide +kernel
theorem dX1_push_21 : decode cX1_push 21 = .ok (.aload_n 0, 1) := by decide +kernel
theorem dX1_push_22 : decode cX1_push 22 = .ok (.getfield 22, 3) := by decide +kernel
theorem dX1_push_25 : decode cX1_push 25 = .ok (.iconst 1, 1) := by decide +kernel
theorem dX1_push_26 : decode cX1_push 26 = .ok (.iadd, 1) := by decide +kernel
theorem dX1_push_27 : decode cX1_push 27 = .ok (.bipush 8, 2) := by decide +kernel
theorem dX1_push_29 : decode cX1_push 29 = .ok (.irem, 1) := by decide +kernel
theorem dX1_push_30 : decode cX1_push 30 = .ok (.putfield 22, 3) := by decide +kernel
theorem dX1_push_33 : decode cX1_push 33 = .ok (.aload_n 0, 1) := by decide +kernel
theorem dX1_push_34 : decode cX1_push 34 = .ok (.aload_n 0, 1) := by decide +kernel
theorem dX1_push_35 : decode cX1_push 35 = .ok (.getfield 18, 3) := by decide +kernel
theorem dX1_push_38 : decode cX1_push 38 = .ok (.iconst 1, 1) := by decide +kernel
theorem dX1_push_39 : decode cX1_push 39 = .ok (.iadd, 1) := by decide +kernel
theorem dX1_push_40 : decode cX1_push 40 = .ok (.bipush 8, 2) := by decide +kernel
theorem dX1_push_42 : decode cX1_push 42 = .ok (.invokestatic 25, 3) := by decide +kernel
theorem dX1_push_45 : decode cX1_push 45 = .ok (.putfield 18, 3) := by decide +kernel
theorem dX1_push_48 : decode cX1_push 48 = .ok (.return_, 1) := by decide +kernel
theorem dX1_revertLatest_0 : decode cX1_revertLatest 0 = .ok (.aload_n 0, 1) := by decide +kernel
theorem dX1_revertLatest_1 : decode cX1_revertLatest 1 = .ok (.getfield 18, 3) := by decide +kernel
theorem dX1_revertLatest_4 : decode cX1_revertLatest 4 = .ok (.ifCond .ne 4, 3) := by decide +kernel
theorem dX1_revertLatest_7 : decode cX1_revertLatest 7 = .ok (.return_, 1) := by decide +kernel
theorem dX1_revertLatest_8 : decode cX1_revertLatest 8 = .ok (.aload_n 0, 1) := by decide +kernel
theorem dX1_revertLatest_9 : decode cX1_revertLatest 9 = .ok (.dup, 1) := by decide +kernel
theorem dX1_revertLatest_10 : decode cX1_revertLatest 10 = .ok (.getfield 18, 3) := by decide +kernel
theorem dX1_revertLatest_13 : decode cX1_revertLatest 13 = .ok (.iconst 1, 1) := by decide +kernel
theorem dX1_revertLatest_14 : decode cX1_revertLatest 14 = .ok (.isub, 1) := by decide +kernel
theorem dX1_revertLatest_15 : decode cX1_revertLatest 15 = .ok (.putfield 18, 3) := by decide +kernel
theorem dX1_revertLatest_18 : decode cX1_revertLatest 18 = .ok (.aload_n 0, 1) := by decide +kernel
theorem dX1_revertLatest_19 : decode cX1_revertLatest 19 = .ok (.aload_n 0, 1) := by decide +kernel
theorem dX1_revertLatest_20 : decode cX1_revertLatest 20 = .ok (.getfield 22, 3) := by decide +kernel
theorem dX1_revertLatest_23 : decode cX1_revertLatest 23 = .ok (.bipush 8, 2) := by decide +kernel
theorem dX1_revertLatest_25 : decode cX1_revertLatest 25 = .ok (.iadd, 1) := by decide +kernel
theorem dX1_revertLatest_26 : decode cX1_revertLatest 26 = .ok (.iconst 1, 1) := by decide +kernel
theorem dX1_revertLatest_27 : decode cX1_revertLatest 27 = .ok (.isub, 1) := by decide +kernel
theorem dX1_revertLatest_28 : decode cX1_revertLatest 28 = .ok (.bipush 8, 2) := by decide +kernel
theorem dX1_revertLatest_30 : decode cX1_revertLatest 30 = .ok (.irem, 1) := by decide +kernel
theorem dX1_revertLatest_31 : decode cX1_revertLatest 31 = .ok (.putfield 22, 3) := by decide +kernel
theorem dX1_revertLatest_34 : decode cX1_revertLatest 34 = .ok (.aload_n 0, 1) := by decide +kernel
theorem dX1_revertLatest_35 : decode cX1_revertLatest 35 = .ok (.getfield 9, 3) := by decide +kernel
theorem dX1_revertLatest_38 : decode cX1_revertLatest 38 = .ok (.aload_n 0, 1) := by decide +kernel
theorem dX1_revertLatest_39 : decode cX1_revertLatest 39 = .ok (.getfield 22, 3) := by decide +kernel
theorem dX1_revertLatest_42 : decode cX1_revertLatest 42 = .ok (.iaload, 1) := by decide +kernel
theorem dX1_revertLatest_43 : decode cX1_revertLatest 43 = .ok (.iconst (-1), 1) := by decide +kernel
theorem dX1_revertLatest_44 : decode cX1_revertLatest 44 = .ok (.if_icmp .ne 19, 3) := by decide +kernel
theorem dX1_revertLatest_47 : decode cX1_revertLatest 47 = .ok (.aload_n 1, 1) := by decide +kernel
theorem dX1_revertLatest_48 : decode cX1_revertLatest 48 = .ok (.aload_n 0, 1) := by decide +kernel
theorem dX1_revertLatest_49 : decode cX1_revertLatest 49 = .ok (.getfield 15, 3) := by decide +kernel
theorem dX1_revertLatest_52 : decode cX1_revertLatest 52 = .ok (.aload_n 0, 1) := by decide +kernel
theorem dX1_revertLatest_53 : decode cX1_revertLatest 53 = .ok (.getfield 22, 3) := by decide +kernel
theorem dX1_revertLatest_56 : decode cX1_revertLatest 56 = .ok (.iaload, 1) := by decide +kernel
theorem dX1_revertLatest_57 : decode cX1_revertLatest 57 = .ok (.putfield 31, 3) := by decide +kernel
theorem dX1_revertLatest_60 : decode cX1_revertLatest 60 = .ok (.goto 26, 3) := by decide +kernel
theorem dX1_revertLatest_63 : decode cX1_revertLatest 63 = .ok (.aload_n 1, 1) := by decide +kernel
theorem dX1_revertLatest_64 : decode cX1_revertLatest 64 = .ok (.aload_n 0, 1) := by decide +kernel
theorem dX1_revertLatest_65 : decode cX1_revertLatest 65 = .ok (.getfield 9, 3) := by decide +kernel
theorem dX1_revertLatest_68 : decode cX1_revertLatest 68 = .ok (.aload_n 0, 1) := by decide +kernel
theorem dX1_revertLatest_69 : decode cX1_revertLatest 69 = .ok (.getfield 22, 3) := by decide +kernel
theorem dX1_revertLatest_72 : decode cX1_revertLatest 72 = .ok (.iaload, 1) := by decide +kernel
theorem dX1_revertLatest_73 : decode cX1_revertLatest 73 = .ok (.aload_n 0, 1) := by decide +kernel
theorem dX1_revertLatest_74 : decode cX1_revertLatest 74 = .ok (.getfield 15, 3) := by decide +kernel
theorem dX1_revertLatest_77 : decode cX1_revertLatest 77 = .ok (.aload_n 0, 1) := by decide +kernel
theorem dX1_revertLatest_78 : decode cX1_revertLatest 78 = .ok (.getfield 22, 3) := by decide +kernel
theorem dX1_revertLatest_81 : decode cX1_revertLatest 81 = .ok (.iaload, 1) := by decide +kernel
theorem dX1_revertLatest_82 : decode cX1_revertLatest 82 = .ok (.ineg, 1) := by decide +kernel
theorem dX1_revertLatest_83 : decode cX1_revertLatest 83 = .ok (.invokevirtual 36, 3) := by decide +kernel
theorem dX1_revertLatest_86 : decode cX1_revertLatest 86 = .ok (.return_, 1) := by decide +kernel
theorem dX2_init_0 : decode cX2_init 0 = .ok (.aload_n 0, 1) := by decide +kernel
theorem dX2_init_1 : decode cX2_init 1 = .ok (.invokespecial 3, 3) := by decide +kernel
theorem dX2_init_4 : decode cX2_init 4 = .ok (.aload_n 0, 1) := by decide +kernel
theorem dX2_init_5 : decode cX2_init 5 = .ok (.bipush 16, 2) := by decide +kernel
theorem dX2_init_7 : decode cX2_init 7 = .ok (.newarray .int, 2) := by decide +kernel
theorem dX2_init_9 : decode cX2_init 9 = .ok (.putfield 9, 3) := by decide +kernel
theorem dX2_init_12 : decode cX2_init 12 = .ok (.aload_n 0, 1) := by decide +kernel
theorem dX2_init_13 : decode cX2_init 13 = .ok (.bipush 16, 2) := by decide +kernel
theorem dX2_init_15 : decode cX2_init 15 = .ok (.newarray .int, 2) := by decide +kernel
theorem dX2_init_17 : decode cX2_init 17 = .ok (.putfield 15, 3) := by decide +kernel
theorem dX2_init_20 : decode cX2_init 20 = .ok (.aload_n 0, 1) := by decide +kernel
theorem dX2_init_21 : decode cX2_init 21 = .ok (.bipush 16, 2) := by decide +kernel
theorem dX2_init_23 : decode cX2_init 23 = .ok (.newarray .int, 2) := by decide +kernel
theorem dX2_init_25 : decode cX2_init 25 = .ok (.putfield 18, 3) := by decide +kernel
theorem dX2_init_28 : decode cX2_init 28 = .ok (.aload_n 0, 1) := by decide +kernel
theorem dX2_init_29 : decode cX2_init 29 = .ok (.bipush 16, 2) := by decide +kernel
theorem dX2_init_31 : decode cX2_init 31 = .ok (.newarray .int, 2) := by decide +kernel
theorem dX2_init_33 : decode cX2_init 33 = .ok (.putfield 21, 3) := by decide +kernel
theorem dX2_init_36 : decode cX2_init 36 = .ok (.aload_n 0, 1) := by decide +kernel
theorem dX2_init_37 : decode cX2_init 37 = .ok (.iconst 2, 1) := by decide +kernel
theorem dX2_init_38 : decode cX2_init 38 = .ok (.invokevirtual 24, 3) := by decide +kernel
theorem dX2_init_41 : decode cX2_init 41 = .ok (.return_, 1) := by decide +kernel
theorem dX2_begin_0 : decode cX2_begin 0 = .ok (.aload_n 0, 1) := by decide +kernel
theorem dX2_begin_1 : decode cX2_begin 1 = .ok (.iload_n 1, 1) := by decide +kernel
theorem dX2_begin_2 : decode cX2_begin 2 = .ok (.putfield 28, 3) := by decide +kernel
theorem dX2_begin_5 : decode cX2_begin 5 = .ok (.aload_n 0, 1) := by decide +kernel
theorem dX2_begin_6 : decode cX2_begin 6 = .ok (.iconst 0, 1) := by decide +kernel
theorem dX2_begin_7 : decode cX2_begin 7 = .ok (.putfield 32, 3) := by decide +kernel
theorem dX2_begin_10 : decode cX2_begin 10 = .ok (.aload_n 0, 1) := by decide +kernel
theorem dX2_begin_11 : decode cX2_begin 11 = .ok (.iconst 0, 1) := by decide +kernel
theorem dX2_begin_12 : decode cX2_begin 12 = .ok (.putfield 35, 3) := by decide +kernel
theorem dX2_begin_15 : decode cX2_begin 15 = .ok (.aload_n 0, 1) := by decide +kernel
theorem dX2_begin_16 : decode cX2_begin 16 = .ok (.iconst 1, 1) := by decide +kernel
theorem dX2_begin_17 : decode cX2_begin 17 = .ok (.putfield 38, 3) := by decide +kernel
theorem dX2_begin_20 : decode cX2_begin 20 = .ok (.aload_n 0, 1) := by decide +kernel
theorem dX2_begin_21 : decode cX2_begin 21 = .ok (.bipush 99, 2) := by decide +kernel
theorem dX2_begin_23 : decode cX2_begin 23 = .ok (.putfield 41, 3) := by decide +kernel
theorem dX2_begin_26 : decode cX2_begin 26 = .ok (.aload_n 0, 1) := by decide +kernel
theorem dX2_begin_27 : decode cX2_begin 27 = .ok (.iconst 0, 1) := by decide +kernel
theorem dX2_begin_28 : decode cX2_begin 28 = .ok (.putfield 44, 3) := by decide +kernel
theorem dX2_begin_31 : decode cX2_begin 31 = .ok (.return_, 1) := by decide +kernel
theorem dX2_copyFrom_0 : decode cX2_copyFrom 0 = .ok (.aload_n 0, 1) := by decide +kernel
theorem dX2_copyFrom_1 : decode cX2_copyFrom 1 = .ok (.aload_n 1, 1) := by decide +kernel
theorem dX2_copyFrom_2 : decode cX2_copyFrom 2 = .ok (.getfield 28, 3) := by decide +kernel
theorem dX2_copyFrom_5 : decode cX2_copyFrom 5 = .ok (.putfield 28, 3) := by decide +kernel
theorem dX2_copyFrom_8 : decode cX2_copyFrom 8 = .ok (.aload_n 0, 1) := by decide +kernel
theorem dX2_copyFrom_9 : decode cX2_copyFrom 9 = .ok (.aload_n 1, 1) := by decide +kernel
theorem dX2_copyFrom_10 : decode cX2_copyFrom 10 = .ok (.getfield 32, 3) := by decide +kernel
theorem dX2_copyFrom_13 : decode cX2_copyFrom 13 = .ok (.putfield 32, 3) := by decide +kernel
theorem dX2_copyFrom_16 : decode cX2_copyFrom 16 = .ok (.aload_n 0, 1) := by decide +kernel
theorem dX2_copyFrom_17 : decode cX2_copyFrom 17 = .ok (.aload_n 1, 1) := by decide +kernel
theorem dX2_copyFrom_18 : decode cX2_copyFrom 18 = .ok (.getfield 35, 3) := by decide +kernel
theorem dX2_copyFrom_21 : decode cX2_copyFrom 21 = .ok (.putfield 35, 3) := by decide +kernel
theorem dX2_copyFrom_24 : decode cX2_copyFrom 24 = .ok (.aload_n 0, 1) := by decide +kernel
theorem dX2_copyFrom_25 : decode cX2_copyFrom 25 = .ok (.aload_n 1, 1) := by decide +kernel
theorem dX2_copyFrom_26 : decode cX2_copyFrom 26 = .ok (.getfield 38, 3) := by decide +kernel
theorem dX2_copyFrom_29 : decode cX2_copyFrom 29 = .ok (.putfield 38, 3) := by decide +kernel
theorem dX2_copyFrom_32 : decode cX2_copyFrom 32 = .ok (.aload_n 0, 1) := by decide +kernel
theorem dX2_copyFrom_33 : decode cX2_copyFrom 33 = .ok (.aload_n 1, 1) := by decide +kernel
theorem dX2_copyFrom_34 : decode cX2_copyFrom 34 = .ok (.getfield 41, 3) := by decide +kernel
theorem dX2_copyFrom_37 : decode cX2_copyFrom 37 = .ok (.putfield 41, 3) := by decide +kernel
theorem dX2_copyFrom_40 : decode cX2_copyFrom 40 = .ok (.aload_n 0, 1) := by decide +kernel
theorem dX2_copyFrom_41 : decode cX2_copyFrom 41 = .ok (.aload_n 1, 1) := by decide +kernel
theorem dX2_copyFrom_42 : decode cX2_copyFrom 42 = .ok (.getfield 44, 3) := by decide +kernel
theorem dX2_copyFrom_45 : decode cX2_copyFrom 45 = .ok (.putfield 44, 3) := by decide +kernel
theorem dX2_copyFrom_48 : decode cX2_copyFrom 48 = .ok (.aload_n 1, 1) := by decide +kernel
theorem dX2_copyFrom_49 : decode cX2_copyFrom 49 = .ok (.getfield 9, 3) := by decide +kernel
theorem dX2_copyFrom_52 : decode cX2_copyFrom 52 = .ok (.iconst 0, 1) := by decide +kernel
theorem dX2_copyFrom_53 : decode cX2_copyFrom 53 = .ok (.aload_n 0, 1) := by decide +kernel
theorem dX2_copyFrom_54 : decode cX2_copyFrom 54 = .ok (.getfield 9, 3) := by decide +kernel
theorem dX2_copyFrom_57 : decode cX2_copyFrom 57 = .ok (.iconst 0, 1) := by decide +kernel
theorem dX2_copyFrom_58 : decode cX2_copyFrom 58 = .ok (.bipush 16, 2) := by decide +kernel
theorem dX2_copyFrom_60 : decode cX2_copyFrom 60 = .ok (.invokestatic 47, 3) := by decide +kernel
theorem dX2_copyFrom_63 : decode cX2_copyFrom 63 = .ok (.aload_n 1, 1) := by decide +kernel
theorem dX2_copyFrom_64 : decode cX2_copyFrom 64 = .ok (.getfield 15, 3) := by decide +kernel
theorem dX2_copyFrom_67 : decode cX2_copyFrom 67 = .ok (.iconst 0, 1) := by decide +kernel
theorem dX2_copyFrom_68 : decode cX2_copyFrom 68 = .ok (.aload_n 0, 1) := by decide +kernel
theorem dX2_copyFrom_69 : decode cX2_copyFrom 69 = .ok (.getfield 15, 3) := by decide +kernel
theorem dX2_copyFrom_72 : decode cX2_copyFrom 72 = .ok (.iconst 0, 1) := by decide +kernel
theorem dX2_copyFrom_73 : decode cX2_copyFrom 73 = .ok (.bipush 16, 2) := by decide +kernel
theorem dX2_copyFrom_75 : decode cX2_copyFrom 75 = .ok (.invokestatic 47, 3) := by decide +kernel
theorem dX2_copyFrom_78 : decode cX2_copyFrom 78 = .ok (.aload_n 1, 1) := by decide +kernel
theorem dX2_copyFrom_79 : decode cX2_copyFrom 79 = .ok (.getfield 18, 3) := by decide +kernel
theorem dX2_copyFrom_82 : decode cX2_copyFrom 82 = .ok (.iconst 0, 1) := by decide +kernel
theorem dX2_copyFrom_83 : decode cX2_copyFrom 83 = .ok (.aload_n 0, 1) := by decide +kernel
theorem dX2_copyFrom_84 : decode cX2_copyFrom 84 = .ok (.getfield 18, 3) := by decide +kernel
theorem dX2_copyFrom_87 : decode cX2_copyFrom 87 = .ok (.iconst 0, 1) := by decide +kernel
theorem dX2_copyFrom_88 : decode cX2_copyFrom 88 = .ok (.bipush 16, 2) := by decide +kernel
theorem dX2_copyFrom_90 : decode cX2_copyFrom 90 = .ok (.invokestatic 47, 3) := by decide +kernel
theorem dX2_copyFrom_93 : decode cX2_copyFrom 93 = .ok (.aload_n 1, 1) := by decide +kernel
theorem dX2_copyFrom_94 : decode cX2_copyFrom 94 = .ok (.getfield 21, 3) := by decide +kernel
theorem dX2_copyFrom_97 : decode cX2_copyFrom 97 = .ok (.iconst 0, 1) := by decide +kernel
theorem dX2_copyFrom_98 : decode cX2_copyFrom 98 = .ok (.aload_n 0, 1) := by decide +kernel
theorem dX2_copyFrom_99 : decode cX2_copyFrom 99 = .ok (.getfield 21, 3) := by decide +kernel
theorem dX2_copyFrom_102 : decode cX2_copyFrom 102 = .ok (.iconst 0, 1) := by decide +kernel
theorem dX2_copyFrom_103 : decode cX2_copyFrom 103 = .ok (.bipush 16, 2) := by decide +kernel
theorem dX2_copyFrom_105 : decode cX2_copyFrom 105 = .ok (.invokestatic 47, 3) := by decide +kernel
theorem dX2_copyFrom_108 : decode cX2_copyFrom 108 = .ok (.return_, 1) := by decide +kernel
theorem dX2_tell_0 : decode cX2_tell 0 = .ok (.getstatic 53, 3) := by decide +kernel
theorem dX2_tell_3 : decode cX2_tell 3 = .ok (.aload_n 1, 1) := by decide +kernel
theorem dX2_tell_4 : decode cX2_tell 4 = .ok (.invokevirtual 58, 3) := by decide +kernel
theorem dX2_tell_7 : decode cX2_tell 7 = .ok (.iaload, 1) := by decide +kernel
theorem dX2_tell_8 : decode cX2_tell 8 = .ok (.tableswitch 76 1 5 #[36, 44, 52, 60, 68], 36) := by decide +kernel
theorem dX2_tell_44 : decode cX2_tell 44 = .ok (.aload_n 0, 1) := by decide +kernel
theorem dX2_tell_45 : decode cX2_tell 45 = .ok (.iload_n 2, 1) := by decide +kernel
theorem dX2_tell_46 : decode cX2_tell 46 = .ok (.invokevirtual 24, 3) := by decide +kernel
theorem dX2_tell_49 : decode cX2_tell 49 = .ok (.goto 35, 3) := by decide +kernel
theorem dX2_tell_52 : decode cX2_tell 52 = .ok (.aload_n 0, 1) := by decide +kernel
theorem dX2_tell_53 : decode cX2_tell 53 = .ok (.iload_n 2, 1) := by decide +kernel
theorem dX2_tell_54 : decode cX2_tell 54 = .ok (.putfield 32, 3) := by decide +kernel
theorem dX2_tell_57 : decode cX2_tell 57 = .ok (.goto 27, 3) := by decide +kernel
theorem dX2_tell_60 : decode cX2_tell 60 = .ok (.aload_n 0, 1) := by decide +kernel
theorem dX2_tell_61 : decode cX2_tell 61 = .ok (.iload_n 2, 1) := by decide +kernel
theorem dX2_tell_62 : decode cX2_tell 62 = .ok (.putfield 35, 3) := by decide +kernel
theorem dX2_tell_65 : decode cX2_tell 65 = .ok (.goto 19, 3) := by decide +kernel
theorem dX2_tell_68 : decode cX2_tell 68 = .ok (.aload_n 0, 1) := by decide +kernel
theorem dX2_tell_69 : decode cX2_tell 69 = .ok (.iload_n 2, 1) := by decide +kernel
theorem dX2_tell_70 : decode cX2_tell 70 = .ok (.putfield 38, 3) := by decide +kernel
theorem dX2_tell_73 : decode cX2_tell 73 = .ok (.goto 11, 3) := by decide +kernel
theorem dX2_tell_76 : decode cX2_tell 76 = .ok (.aload_n 0, 1) := by decide +kernel
theorem dX2_tell_77 : decode cX2_tell 77 = .ok (.iload_n 2, 1) := by decide +kernel
theorem dX2_tell_78 : decode cX2_tell 78 = .ok (.putfield 41, 3) := by decide +kernel
theorem dX2_tell_81 : decode cX2_tell 81 = .ok (.goto 3, 3) := by decide +kernel
theorem dX2_tell_84 : decode cX2_tell 84 = .ok (.return_, 1) := by decide +kernel
theorem dX2_hasAllPaths_0 : decode cX2_hasAllPaths 0 = .ok (.aload_n 0, 1) := by decide +kernel
theorem dX2_hasAllPaths_1 : decode cX2_hasAllPaths 1 = .ok (.getfield 44, 3) := by decide +kernel
theorem dX2_hasAllPaths_4 : decode cX2_hasAllPaths 4 = .ok (.bipush 16, 2) := by decide +kernel
theorem dX2_hasAllPaths_6 : decode cX2_hasAllPaths 6 = .ok (.if_icmp .lt 7, 3) := by decide +kernel
theorem dX2_hasAllPaths_9 : decode cX2_hasAllPaths 9 = .ok (.iconst 1, 1) := by decide +kernel
theorem dX2_hasAllPaths_10 : decode cX2_hasAllPaths 10 = .ok (.goto 4, 3) := by decide +kernel
theorem dX2_hasAllPaths_13 : decode cX2_hasAllPaths 13 = .ok (.iconst 0, 1) := by decide +kernel
theorem dX2_hasAllPaths_14 : decode cX2_hasAllPaths 14 = .ok (.ireturn, 1) := by decide +kernel
theorem dX2_addPath_0 : decode cX2_addPath 0 = .ok (.aload_n 0, 1) := by decide +kernel
theorem dX2_addPath_1 : decode cX2_addPath 1 = .ok (.invokevirtual 64, 3) := by decide +kernel
theorem dX2_addPath_4 : decode cX2_addPath 4 = .ok (.ifCond .eq 4, 3) := by decide +kernel
theorem dX2_addPath_7 : decode cX2_addPath 7 = .ok (.return_, 1) := by decide +kernel
theorem dX2_addPath_8 : decode cX2_addPath 8 = .ok (.aload_n 0, 1) := by decide +kernel
theorem dX2_addPath_9 : decode cX2_addPath 9 = .ok (.getfield 9, 3) := by decide +kernel
theorem dX2_addPath_12 : decode cX2_addPath 12 = .ok (.aload_n 0, 1) := by decide +kernel
theorem dX2_addPath_13 : decode cX2_addPath 13 = .ok (.getfield 44, 3) := by decide +kernel
theorem dX2_addPath_16 : decode cX2_addPath 16 = .ok (.iload_n 1, 1) := by decide +kernel
theorem dX2_addPath_17 : decode cX2_addPath 17 = .ok (.iastore, 1) := by decide +kernel
theorem dX2_addPath_18 : decode cX2_addPath 18 = .ok (.aload_n 0, 1) := by decide +kernel
theorem dX2_addPath_19 : decode cX2_addPath 19 = .ok (.getfield 15, 3) := by decide +kernel
theorem dX2_addPath_22 : decode cX2_addPath 22 = .ok (.aload_n 0, 1) := by decide +kernel
theorem dX2_addPath_23 : decode cX2_addPath 23 = .ok (.getfield 44, 3) := by decide +kernel
theorem dX2_addPath_26 : decode cX2_addPath 26 = .ok (.iload_n 2, 1) := by decide +kernel
theorem dX2_addPath_27 : decode cX2_addPath 27 = .ok (.iastore, 1) := by decide +kernel
theorem dX2_addPath_28 : decode cX2_addPath 28 = .ok (.aload_n 0, 1) := by decide +kernel
theorem dX2_addPath_29 : decode cX2_addPath 29 = .ok (.getfield 18, 3) := by decide +kernel
theorem dX2_addPath_32 : decode cX2_addPath 32 = .ok (.aload_n 0, 1) := by decide +kernel
theorem dX2_addPath_33 : decode cX2_addPath 33 = .ok (.getfield 44, 3) := by decide +kernel
theorem dX2_addPath_36 : decode cX2_addPath 36 = .ok (.iload_n 3, 1) := by decide +kernel
theorem dX2_addPath_37 : decode cX2_addPath 37 = .ok (.iastore, 1) := by decide +kernel
theorem dX2_addPath_38 : decode cX2_addPath 38 = .ok (.aload_n 0, 1) := by decide +kernel
theorem dX2_addPath_39 : decode cX2_addPath 39 = .ok (.getfield 21, 3) := by decide +kernel
theorem dX2_addPath_42 : decode cX2_addPath 42 = .ok (.aload_n 0, 1) := by decide +kernel
theorem dX2_addPath_43 : decode cX2_addPath 43 = .ok (.getfield 44, 3) := by decide +kernel
theorem dX2_addPath_46 : decode cX2_addPath 46 = .ok (.iload 4, 2) := by decide +kernel
theorem dX2_addPath_48 : decode cX2_addPath 48 = .ok (.iastore, 1) := by decide +kernel
theorem dX2_addPath_49 : decode cX2_addPath 49 = .ok (.aload_n 0, 1) := by decide +kernel
theorem dX2_addPath_50 : decode cX2_addPath 50 = .ok (.dup, 1) := by decide +kernel
theorem dX2_addPath_51 : decode cX2_addPath 51 = .ok (.getfield 44, 3) := by decide +kernel
theorem dX2_addPath_54 : decode cX2_addPath 54 = .ok (.iconst 1, 1) := by decide +kernel
theorem dX2_addPath_55 : decode cX2_addPath 55 = .ok (.iadd, 1) := by decide +kernel
theorem dX2_addPath_56 : decode cX2_addPath 56 = .ok (.putfield 44, 3) := by decide +kernel
theorem dX2_addPath_59 : decode cX2_addPath 59 = .ok (.return_, 1) := by decide +kernel
theorem dX2_canBeSlower_0 : decode cX2_canBeSlower 0 = .ok (.aload_n 0, 1) := by decide +kernel
theorem dX2_canBeSlower_1 : decode cX2_canBeSlower 1 = .ok (.getfield 18, 3) := by decide +kernel
theorem dX2_canBeSlower_4 : decode cX2_canBeSlower 4 = .ok (.iload_n 1, 1) := by decide +kernel
theorem dX2_canBeSlower_5 : decode cX2_canBeSlower 5 = .ok (.iaload, 1) := by decide +kernel
theorem dX2_canBeSlower_6 : decode cX2_canBeSlower 6 = .ok (.iload_n 2, 1) := by decide +kernel
theorem dX2_canBeSlower_7 : decode cX2_canBeSlower 7 = .ok (.iadd, 1) := by decide +kernel
theorem dX2_canBeSlower_8 : decode cX2_canBeSlower 8 = .ok (.sipush 199, 3) := by decide +kernel
theorem dX2_canBeSlower_11 : decode cX2_canBeSlower 11 = .ok (.if_icmp .gt 7, 3) := by decide +kernel
theorem dX2_canBeSlower_14 : decode cX2_canBeSlower 14 = .ok (.iconst 1, 1) := by decide +kernel
theorem dX2_canBeSlower_15 : decode cX2_canBeSlower 15 = .ok (.goto 4, 3) := by decide +kernel
theorem dX2_canBeSlower_18 : decode cX2_canBeSlower 18 = .ok (.iconst 0, 1) := by decide +kernel
theorem dX2_canBeSlower_19 : decode cX2_canBeSlower 19 = .ok (.ireturn, 1) := by decide +kernel
theorem dX2_delay_0 : decode cX2_delay 0 = .ok (.aload_n 0, 1) := by decide +kernel
theorem dX2_delay_1 : decode cX2_delay 1 = .ok (.getfield 18, 3) := by decide +kernel
theorem dX2_delay_4 : decode cX2_delay 4 = .ok (.iload_n 1, 1) := by decide +kernel
theorem dX2_delay_5 : decode cX2_delay 5 = .ok (.dup2, 1) := by decide +kernel
theorem dX2_delay_6 : decode cX2_delay 6 = .ok (.iaload, 1) := by decide +kernel
theorem dX2_delay_7 : decode cX2_delay 7 = .ok (.iload_n 2, 1) := by decide +kernel
theorem dX2_delay_8 : decode cX2_delay 8 = .ok (.iadd, 1) := by decide +kernel
theorem dX2_delay_9 : decode cX2_delay 9 = .ok (.iastore, 1) := by decide +kernel
theorem dX2_delay_10 : decode cX2_delay 10 = .ok (.aload_n 0, 1) := by decide +kernel
theorem dX2_delay_11 : decode cX2_delay 11 = .ok (.getfield 21, 3) := by decide +kernel
theorem dX2_delay_14 : decode cX2_delay 14 = .ok (.iload_n 1, 1) := by decide +kernel
theorem dX2_delay_15 : decode cX2_delay 15 = .ok (.dup2, 1) := by decide +kernel
theorem dX2_delay_16 : decode cX2_delay 16 = .ok (.iaload, 1) := by decide +kernel
theorem dX2_delay_17 : decode cX2_delay 17 = .ok (.iload_n 2, 1) := by decide +kernel
theorem dX2_delay_18 : decode cX2_delay 18 = .ok (.iadd, 1) := by decide +kernel
theorem dX2_delay_19 : decode cX2_delay 19 = .ok (.iastore, 1) := by decide +kernel
theorem dX2_delay_20 : decode cX2_delay 20 = .ok (.return_, 1) := by decide +kernel
theorem dX2_lateBound_0 : decode cX2_lateBound 0 = .ok (.aload_n 0, 1) := by decide +kernel
theorem dX2_lateBound_1 : decode cX2_lateBound 1 = .ok (.getfield 41, 3) := by decide +kernel
theorem dX2_lateBound_4 : decode cX2_lateBound 4 = .ok (.aload_n 0, 1) := by decide +kernel
theorem dX2_lateBound_5 : decode cX2_lateBound 5 = .ok (.getfield 18, 3) := by decide +kernel
theorem dX2_lateBound_8 : decode cX2_lateBound 8 = .ok (.iload_n 1, 1) := by decide +kernel
theorem dX2_lateBound_9 : decode cX2_lateBound 9 = .ok (.iaload, 1) := by decide +kernel
theorem dX2_lateBound_10 : decode cX2_lateBound 10 = .ok (.isub, 1) := by decide +kernel
theorem dX2_lateBound_11 : decode cX2_lateBound 11 = .ok (.aload_n 0, 1) := by decide +kernel
theorem dX2_lateBound_12 : decode cX2_lateBound 12 = .ok (.getfield 32, 3) := by decide +kernel
theorem dX2_lateBound_15 : decode cX2_lateBound 15 = .ok (.isub, 1) := by decide +kernel
theorem dX2_lateBound_16 : decode cX2_lateBound 16 = .ok (.ireturn, 1) := by decide +kernel
theorem dX2_soonBound_0 : decode cX2_soonBound 0 = .ok (.aload_n 0, 1) := by decide +kernel
theorem dX2_soonBound_1 : decode cX2_soonBound 1 = .ok (.getfield 21, 3) := by decide +kernel
theorem dX2_soonBound_4 : decode cX2_soonBound 4 = .ok (.iload_n 1, 1) := by decide +kernel
theorem dX2_soonBound_5 : decode cX2_soonBound 5 = .ok (.iaload, 1) := by decide +kernel
theorem dX2_soonBound_6 : decode cX2_soonBound 6 = .ok (.aload_n 0, 1) := by decide +kernel
theorem dX2_soonBound_7 : decode cX2_soonBound 7 = .ok (.getfield 35, 3) := by decide +kernel
theorem dX2_soonBound_10 : decode cX2_soonBound 10 = .ok (.isub, 1) := by decide +kernel
theorem dX2_soonBound_11 : decode cX2_soonBound 11 = .ok (.ireturn, 1) := by decide +kernel
theorem dX2_tooSoonCount_0 : decode cX2_tooSoonCount 0 = .ok (.iconst 0, 1) := by decide +kernel
theorem dX2_tooSoonCount_1 : decode cX2_tooSoonCount 1 = .ok (.istore_n 1, 1) := by decide +kernel
theorem dX2_tooSoonCount_2 : decode cX2_tooSoonCount 2 = .ok (.iconst 0, 1) := by decide +kernel
theorem dX2_tooSoonCount_3 : decode cX2_tooSoonCount 3 = .ok (.istore_n 2, 1) := by decide +kernel
theorem dX2_tooSoonCount_4 : decode cX2_tooSoonCount 4 = .ok (.iload_n 2, 1) := by decide +kernel
theorem dX2_tooSoonCount_5 : decode cX2_tooSoonCount 5 = .ok (.aload_n 0, 1) := by decide +kernel
theorem dX2_tooSoonCount_6 : decode cX2_tooSoonCount 6 = .ok (.getfield 44, 3) := by decide +kernel
theorem dX2_tooSoonCount_9 : decode cX2_tooSoonCount 9 = .ok (.if_icmp .ge 20, 3) := by decide +kernel
theorem dX2_tooSoonCount_12 : decode cX2_tooSoonCount 12 = .ok (.aload_n 0, 1) := by decide +kernel
theorem dX2_tooSoonCount_13 : decode cX2_tooSoonCount 13 = .ok (.iload_n 2, 1) := by decide +kernel
theorem dX2_tooSoonCount_14 : decode cX2_tooSoonCount 14 = .ok (.invokevirtual 68, 3) := by decide +kernel
theorem dX2_tooSoonCount_17 : decode cX2_tooSoonCount 17 = .ok (.ifCond .ge 6, 3) := by decide +kernel
theorem dX2_tooSoonCount_20 : decode cX2_tooSoonCount 20 = .ok (.iinc 1 1, 3) := by decide +kernel
theorem dX2_tooSoonCount_23 : decode cX2_tooSoonCount 23 = .ok (.iinc 2 1, 3) := by decide +kernel
theorem dX2_tooSoonCount_26 : decode cX2_tooSoonCount 26 = .ok (.goto (-22), 3) := by decide +kernel
theorem dX2_tooSoonCount_29 : decode cX2_tooSoonCount 29 = .ok (.iload_n 1, 1) := by decide +kernel
theorem dX2_tooSoonCount_30 : decode cX2_tooSoonCount 30 = .ok (.ireturn, 1) := by decide +kernel
theorem dX3_init_0 : decode cX3_init 0 = .ok (.aload_n 0, 1) := by decide +kernel
theorem dX3_init_1 : decode cX3_init 1 = .ok (.invokespecial 3, 3) := by decide +kernel
theorem dX3_init_4 : decode cX3_init 4 = .ok (.aload_n 0, 1) := by decide +kernel
theorem dX3_init_5 : decode cX3_init 5 = .ok (.bipush 8, 2) := by decide +kernel
theorem dX3_init_7 : decode cX3_init 7 = .ok (.bipush 8, 2) := by decide +kernel
theorem dX3_init_9 : decode cX3_init 9 = .ok (.multianewarray 9 2, 4) := by decide +kernel
theorem dX3_init_13 : decode cX3_init 13 = .ok (.putfield 11, 3) := by decide +kernel
theorem dX3_init_16 : decode cX3_init 16 = .ok (.aload_n 0, 1) := by decide +kernel
theorem dX3_init_17 : decode cX3_init 17 = .ok (.bipush 8, 2) := by decide +kernel
theorem dX3_init_19 : decode cX3_init 19 = .ok (.newarray .int, 2) := by decide +kernel
theorem dX3_init_21 : decode cX3_init 21 = .ok (.putfield 16, 3) := by decide +kernel
theorem dX3_init_24 : decode cX3_init 24 = .ok (.aload_n 0, 1) := by decide +kernel
theorem dX3_init_25 : decode cX3_init 25 = .ok (.bipush 8, 2) := by decide +kernel
theorem dX3_init_27 : decode cX3_init 27 = .ok (.newarray .int, 2) := by decide +kernel
theorem dX3_init_29 : decode cX3_init 29 = .ok (.putfield 20, 3) := by decide +kernel
theorem dX3_init_32 : decode cX3_init 32 = .ok (.return_, 1) := by decide +kernel
theorem dX3_shiftOf_0 : decode cX3_shiftOf 0 = .ok (.aload_n 0, 1) := by decide +kernel
theorem dX3_shiftOf_1 : decode cX3_shiftOf 1 = .ok (.getfield 16, 3) := by decide +kernel
theorem dX3_shiftOf_4 : decode cX3_shiftOf 4 = .ok (.iload_n 1, 1) := by decide +kernel
theorem dX3_shiftOf_5 : decode cX3_shiftOf 5 = .ok (.iaload, 1) := by decide +kernel
theorem dX3_shiftOf_6 : decode cX3_shiftOf 6 = .ok (.ireturn, 1) := by decide +kernel
theorem dX3_ringLength_0 : decode cX3_ringLength 0 = .ok (.aload_n 0, 1) := by decide +kernel
theorem dX3_ringLength_1 : decode cX3_ringLength 1 = .ok (.getfield 23, 3) := by decide +kernel
theorem dX3_ringLength_4 : decode cX3_ringLength 4 = .ok (.ireturn, 1) := by decide +kernel
theorem dX3_ringRegister_0 : decode cX3_ringRegister 0 = .ok (.aload_n 0, 1) := by decide +kernel
theorem dX3_ringRegister_1 : decode cX3_ringRegister 1 = .ok (.getfield 20, 3) := by decide +kernel
theorem dX3_ringRegister_4 : decode cX3_ringRegister 4 = .ok (.iload_n 1, 1) := by decide +kernel
theorem dX3_ringRegister_5 : decode cX3_ringRegister 5 = .ok (.iaload, 1) := by decide +kernel
theorem dX3_ringRegister_6 : decode cX3_ringRegister 6 = .ok (.ireturn, 1) := by decide +kernel
theorem dX3_rateAbove_0 : decode cX3_rateAbove 0 = .ok (.aload_n 0, 1) := by decide +kernel
theorem dX3_rateAbove_1 : decode cX3_rateAbove 1 = .ok (.getfield 27, 3) := by decide +kernel
theorem dX3_rateAbove_4 : decode cX3_rateAbove 4 = .ok (.ireturn, 1) := by decide +kernel
theorem dX3_rateBelow_0 : decode cX3_rateBelow 0 = .ok (.aload_n 0, 1) := by decide +kernel
theorem dX3_rateBelow_1 : decode cX3_rateBelow 1 = .ok (.getfield 30, 3) := by decide +kernel
theorem dX3_rateBelow_4 : decode cX3_rateBelow 4 = .ok (.ireturn, 1) := by decide +kernel
theorem dX3_settlesNow_0 : decode cX3_settlesNow 0 = .ok (.aload_n 0, 1) := by decide +kernel
theorem dX3_settlesNow_1 : decode cX3_settlesNow 1 = .ok (.aload_n 1, 1) := by decide +kernel
theorem dX3_settlesNow_2 : decode cX3_settlesNow 2 = .ok (.iconst 0, 1) := by decide +kernel
theorem dX3_settlesNow_3 : decode cX3_settlesNow 3 = .ok (.invokevirtual 33, 3) := by decide +kernel
theorem dX3_settlesNow_6 : decode cX3_settlesNow 6 = .ok (.ireturn, 1) := by decide +kernel
theorem dX3_settlesWithMargin_0 : decode cX3_settlesWithMargin 0 = .ok (.aload_n 0, 1) := by decide +kernel
theorem dX3_settlesWithMargin_1 : decode cX3_settlesWithMargin 1 = .ok (.aload_n 1, 1) := by decide +kernel
theorem dX3_settlesWithMargin_2 : decode cX3_settlesWithMargin 2 = .ok (.aload_n 1, 1) := by decide +kernel
theorem dX3_settlesWithMargin_3 : decode cX3_settlesWithMargin 3 = .ok (.getfield 37, 3) := by decide +kernel
theorem dX3_settlesWithMargin_6 : decode cX3_settlesWithMargin 6 = .ok (.iconst 1, 1) := by decide +kernel
theorem dX3_settlesWithMargin_7 : decode cX3_settlesWithMargin 7 = .ok (.iload_n 2, 1) := by decide +kernel
theorem dX3_settlesWithMargin_8 : decode cX3_settlesWithMargin 8 = .ok (.aload_n 1, 1) := by decide +kernel
theorem dX3_settlesWithMargin_9 : decode cX3_settlesWithMargin 9 = .ok (.getfield 42, 3) := by decide +kernel
theorem dX3_settlesWithMargin_12 : decode cX3_settlesWithMargin 12 = .ok (.invokevirtual 45, 3) := by decide +kernel
theorem dX3_settlesWithMargin_15 : decode cX3_settlesWithMargin 15 = .ok (.aload_n 0, 1) := by decide +kernel
theorem dX3_settlesWithMargin_16 : decode cX3_settlesWithMargin 16 = .ok (.invokevirtual 49, 3) := by decide +kernel
theorem dX3_settlesWithMargin_19 : decode cX3_settlesWithMargin 19 = .ok (.ireturn, 1) := by decide +kernel
theorem dX3_settlesAtPeriod_0 : decode cX3_settlesAtPeriod 0 = .ok (.aload_n 0, 1) := by decide +kernel
theorem dX3_settlesAtPeriod_1 : decode cX3_settlesAtPeriod 1 = .ok (.aload_n 1, 1) := by decide +kernel
theorem dX3_settlesAtPeriod_2 : decode cX3_settlesAtPeriod 2 = .ok (.iload_n 2, 1) := by decide +kernel
theorem dX3_settlesAtPeriod_3 : decode cX3_settlesAtPeriod 3 = .ok (.iload_n 3, 1) := by decide +kernel
theorem dX3_settlesAtPeriod_4 : decode cX3_settlesAtPeriod 4 = .ok (.iconst 0, 1) := by decide +kernel
theorem dX3_settlesAtPeriod_5 : decode cX3_settlesAtPeriod 5 = .ok (.iload 4, 2) := by decide +kernel
theorem dX3_settlesAtPeriod_7 : decode cX3_settlesAtPeriod 7 = .ok (.invokevirtual 45, 3) := by decide +kernel
theorem dX3_settlesAtPeriod_10 : decode cX3_settlesAtPeriod 10 = .ok (.aload_n 0, 1) := by decide +kernel
theorem dX3_settlesAtPeriod_11 : decode cX3_settlesAtPeriod 11 = .ok (.invokevirtual 49, 3) := by decide +kernel
theorem dX3_settlesAtPeriod_14 : decode cX3_settlesAtPeriod 14 = .ok (.ireturn, 1) := by decide +kernel
theorem dX3_leastPeriod_0 : decode cX3_leastPeriod 0 = .ok (.aload_n 0, 1) := by decide +kernel
theorem dX3_leastPeriod_1 : decode cX3_leastPeriod 1 = .ok (.aload_n 1, 1) := by decide +kernel
theorem dX3_leastPeriod_2 : decode cX3_leastPeriod 2 = .ok (.iconst 1, 1) := by decide +kernel
theorem dX3_leastPeriod_3 : decode cX3_leastPeriod 3 = .ok (.aload_n 1, 1) := by decide +kernel
theorem dX3_leastPeriod_4 : decode cX3_leastPeriod 4 = .ok (.getfield 42, 3) := by decide +kernel
theorem dX3_leastPeriod_7 : decode cX3_leastPeriod 7 = .ok (.invokevirtual 53, 3) := by decide +kernel
theorem dX3_leastPeriod_10 : decode cX3_leastPeriod 10 = .ok (.ireturn, 1) := by decide +kernel
theorem dX3_leastPeriodAbove_0 : decode cX3_leastPeriodAbove 0 = .ok (.iconst 0, 1) := by decide +kernel
theorem dX3_leastPeriodAbove_1 : decode cX3_leastPeriodAbove 1 = .ok (.istore 4, 2) := by decide +kernel
theorem dX3_leastPeriodAbove_3 : decode cX3_leastPeriodAbove 3 = .ok (.sipush 999, 3) := by decide +kernel
theorem dX3_leastPeriodAbove_6 : decode cX3_leastPeriodAbove 6 = .ok (.iload_n 2, 1) := by decide +kernel
theorem dX3_leastPeriodAbove_7 : decode cX3_leastPeriodAbove 7 = .ok (.imul, 1) := by decide +kernel
theorem dX3_leastPeriodAbove_8 : decode cX3_leastPeriodAbove 8 = .ok (.istore 5, 2) := by decide +kernel
theorem dX3_leastPeriodAbove_10 : decode cX3_leastPeriodAbove 10 = .ok (.aload_n 0, 1) := by decide +kernel
theorem dX3_leastPeriodAbove_11 : decode cX3_leastPeriodAbove 11 = .ok (.aload_n 1, 1) := by decide +kernel
theorem dX3_leastPeriodAbove_12 : decode cX3_leastPeriodAbove 12 = .ok (.iload 5, 2) := by decide +kernel
theorem dX3_leastPeriodAbove_14 : decode cX3_leastPeriodAbove 14 = .ok (.iload_n 2, 1) := by decide +kernel
theorem dX3_leastPeriodAbove_15 : decode cX3_leastPeriodAbove 15 = .ok (.iload_n 3, 1) := by decide +kernel
theorem dX3_leastPeriodAbove_16 : decode cX3_leastPeriodAbove 16 = .ok (.invokevirtual 57, 3) := by decide +kernel
theorem dX3_leastPeriodAbove_19 : decode cX3_leastPeriodAbove 19 = .ok (.ifCond .ne 5, 3) := by decide +kernel
theorem dX3_leastPeriodAbove_22 : decode cX3_leastPeriodAbove 22 = .ok (.iconst (-1), 1) := by decide +kernel
theorem dX3_leastPeriodAbove_23 : decode cX3_leastPeriodAbove 23 = .ok (.ireturn, 1) := by decide +kernel
theorem dX3_leastPeriodAbove_24 : decode cX3_leastPeriodAbove 24 = .ok (.iconst 0, 1) := by decide +kernel
theorem dX3_leastPeriodAbove_25 : decode cX3_leastPeriodAbove 25 = .ok (.istore 6, 2) := by decide +kernel
theorem dX3_leastPeriodAbove_27 : decode cX3_leastPeriodAbove 27 = .ok (.iload 6, 2) := by decide +kernel
theorem dX3_leastPeriodAbove_29 : decode cX3_leastPeriodAbove 29 = .ok (.bipush 32, 2) := by decide +kernel
theorem dX3_leastPeriodAbove_31 : decode cX3_leastPeriodAbove 31 = .ok (.if_icmp .ge 50, 3) := by decide +kernel
theorem dX3_leastPeriodAbove_34 : decode cX3_leastPeriodAbove 34 = .ok (.iload 4, 2) := by decide +kernel
theorem dX3_leastPeriodAbove_36 : decode cX3_leastPeriodAbove 36 = .ok (.iload 5, 2) := by decide +kernel
theorem dX3_leastPeriodAbove_38 : decode cX3_leastPeriodAbove 38 = .ok (.if_icmp .ge 43, 3) := by decide +kernel
theorem dX3_leastPeriodAbove_41 : decode cX3_leastPeriodAbove 41 = .ok (.iload 4, 2) := by decide +kernel
theorem dX3_leastPeriodAbove_43 : decode cX3_leastPeriodAbove 43 = .ok (.iload 5, 2) := by decide +kernel
theorem dX3_leastPeriodAbove_45 : decode cX3_leastPeriodAbove 45 = .ok (.iadd, 1) := by decide +kernel
theorem dX3_leastPeriodAbove_46 : decode cX3_leastPeriodAbove 46 = .ok (.iconst 2, 1) := by decide +kernel
theorem dX3_leastPeriodAbove_47 : decode cX3_leastPeriodAbove 47 = .ok (.idiv, 1) := by decide +kernel
theorem dX3_leastPeriodAbove_48 : decode cX3_leastPeriodAbove 48 = .ok (.istore 7, 2) := by decide +kernel
theorem dX3_leastPeriodAbove_50 : decode cX3_leastPeriodAbove 50 = .ok (.aload_n 0, 1) := by decide +kernel
theorem dX3_leastPeriodAbove_51 : decode cX3_leastPeriodAbove 51 = .ok (.aload_n 1, 1) := by decide +kernel
theorem dX3_leastPeriodAbove_52 : decode cX3_leastPeriodAbove 52 = .ok (.iload 7, 2) := by decide +kernel
theorem dX3_leastPeriodAbove_54 : decode cX3_leastPeriodAbove 54 = .ok (.iload_n 2, 1) := by decide +kernel
theorem dX3_leastPeriodAbove_55 : decode cX3_leastPeriodAbove 55 = .ok (.iload_n 3, 1) := by decide +kernel
theorem dX3_leastPeriodAbove_56 : decode cX3_leastPeriodAbove 56 = .ok (.invokevirtual 57, 3) := by decide +kernel
theorem dX3_leastPeriodAbove_59 : decode cX3_leastPeriodAbove 59 = .ok (.ifCond .eq 10, 3) := by decide +kernel
theorem dX3_leastPeriodAbove_62 : decode cX3_leastPeriodAbove 62 = .ok (.iload 7, 2) := by decide +kernel
theorem dX3_leastPeriodAbove_64 : decode cX3_leastPeriodAbove 64 = .ok (.istore 5, 2) := by decide +kernel
theorem dX3_leastPeriodAbove_66 : decode cX3_leastPeriodAbove 66 = .ok (.goto 9, 3) := by decide +kernel
theorem dX3_leastPeriodAbove_69 : decode cX3_leastPeriodAbove 69 = .ok (.iload 7, 2) := by decide +kernel
theorem dX3_leastPeriodAbove_71 : decode cX3_leastPeriodAbove 71 = .ok (.iconst 1, 1) := by decide +kernel
theorem dX3_leastPeriodAbove_72 : decode cX3_leastPeriodAbove 72 = .ok (.iadd, 1) := by decide +kernel
theorem dX3_leastPeriodAbove_73 : decode cX3_leastPeriodAbove 73 = .ok (.istore 4, 2) := by decide +kernel
theorem dX3_leastPeriodAbove_75 : decode cX3_leastPeriodAbove 75 = .ok (.iinc 6 1, 3) := by decide +kernel
theorem dX3_leastPeriodAbove_78 : decode cX3_leastPeriodAbove 78 = .ok (.goto (-51), 3) := by decide +kernel
theorem dX3_leastPeriodAbove_81 : decode cX3_leastPeriodAbove 81 = .ok (.iload 4, 2) := by decide +kernel
theorem dX3_leastPeriodAbove_83 : decode cX3_leastPeriodAbove 83 = .ok (.ireturn, 1) := by decide +kernel
theorem dX3_findRate_0 : decode cX3_findRate 0 = .ok (.aload_n 0, 1) := by decide +kernel
theorem dX3_findRate_1 : decode cX3_findRate 1 = .ok (.aload_n 0, 1) := by decide +kernel
theorem dX3_findRate_2 : decode cX3_findRate 2 = .ok (.aload_n 1, 1) := by decide +kernel
theorem dX3_findRate_3 : decode cX3_findRate 3 = .ok (.iconst 1, 1) := by decide +kernel
theorem dX3_findRate_4 : decode cX3_findRate 4 = .ok (.iconst 1, 1) := by decide +kernel
theorem dX3_findRate_5 : decode cX3_findRate 5 = .ok (.invokevirtual 53, 3) := by decide +kernel
theorem dX3_findRate_8 : decode cX3_findRate 8 = .ok (.putfield 27, 3) := by decide +kernel
theorem dX3_findRate_11 : decode cX3_findRate 11 = .ok (.aload_n 0, 1) := by decide +kernel
theorem dX3_findRate_12 : decode cX3_findRate 12 = .ok (.iconst 1, 1) := by decide +kernel
theorem dX3_findRate_13 : decode cX3_findRate 13 = .ok (.putfield 30, 3) := by decide +kernel
theorem dX3_findRate_16 : decode cX3_findRate 16 = .ok (.aload_n 0, 1) := by decide +kernel
theorem dX3_findRate_17 : decode cX3_findRate 17 = .ok (.getfield 27, 3) := by decide +kernel
theorem dX3_findRate_20 : decode cX3_findRate 20 = .ok (.iconst (-1), 1) := by decide +kernel
theorem dX3_findRate_21 : decode cX3_findRate 21 = .ok (.if_icmp .ne 5, 3) := by decide +kernel
theorem dX3_findRate_24 : decode cX3_findRate 24 = .ok (.iconst 0, 1) := by decide +kernel
theorem dX3_findRate_25 : decode cX3_findRate 25 = .ok (.ireturn, 1) := by decide +kernel
theorem dX3_findRate_26 : decode cX3_findRate 26 = .ok (.iconst 2, 1) := by decide +kernel
theorem dX3_findRate_27 : decode cX3_findRate 27 = .ok (.istore_n 2, 1) := by decide +kernel
theorem dX3_findRate_28 : decode cX3_findRate 28 = .ok (.iload_n 2, 1) := by decide +kernel
theorem dX3_findRate_29 : decode cX3_findRate 29 = .ok (.aload_n 1, 1) := by decide +kernel
theorem dX3_findRate_30 : decode cX3_findRate 30 = .ok (.getfield 61, 3) := by decide +kernel
theorem dX3_findRate_33 : decode cX3_findRate 33 = .ok (.if_icmp .gt 42, 3) := by decide +kernel
theorem dX3_findRate_36 : decode cX3_findRate 36 = .ok (.aload_n 0, 1) := by decide +kernel
theorem dX3_findRate_37 : decode cX3_findRate 37 = .ok (.aload_n 1, 1) := by decide +kernel
theorem dX3_findRate_38 : decode cX3_findRate 38 = .ok (.iload_n 2, 1) := by decide +kernel
theorem dX3_findRate_39 : decode cX3_findRate 39 = .ok (.iconst 1, 1) := by decide +kernel
theorem dX3_findRate_40 : decode cX3_findRate 40 = .ok (.invokevirtual 53, 3) := by decide +kernel
theorem dX3_findRate_43 : decode cX3_findRate 43 = .ok (.istore_n 3, 1) := by decide +kernel
theorem dX3_findRate_44 : decode cX3_findRate 44 = .ok (.iload_n 3, 1) := by decide +kernel
theorem dX3_findRate_45 : decode cX3_findRate 45 = .ok (.aload_n 0, 1) := by decide +kernel
theorem dX3_findRate_46 : decode cX3_findRate 46 = .ok (.getfield 30, 3) := by decide +kernel
theorem dX3_findRate_49 : decode cX3_findRate 49 = .ok (.imul, 1) := by decide +kernel
theorem dX3_findRate_50 : decode cX3_findRate 50 = .ok (.aload_n 0, 1) := by decide +kernel
theorem dX3_findRate_51 : decode cX3_findRate 51 = .ok (.getfield 27, 3) := by decide +kernel
theorem dX3_findRate_54 : decode cX3_findRate 54 = .ok (.iload_n 2, 1) := by decide +kernel
theorem dX3_findRate_55 : decode cX3_findRate 55 = .ok (.imul, 1) := by decide +kernel
theorem dX3_findRate_56 : decode cX3_findRate 56 = .ok (.if_icmp .ge 13, 3) := by decide +kernel
theorem dX3_findRate_59 : decode cX3_findRate 59 = .ok (.aload_n 0, 1) := by decide +kernel
theorem dX3_findRate_60 : decode cX3_findRate 60 = .ok (.iload_n 3, 1) := by decide +kernel
theorem dX3_findRate_61 : decode cX3_findRate 61 = .ok (.putfield 27, 3) := by decide +kernel
theorem dX3_findRate_64 : decode cX3_findRate 64 = .ok (.aload_n 0, 1) := by decide +kernel
theorem dX3_findRate_65 : decode cX3_findRate 65 = .ok (.iload_n 2, 1) := by decide +kernel
theorem dX3_findRate_66 : decode cX3_findRate 66 = .ok (.putfield 30, 3) := by decide +kernel
theorem dX3_findRate_69 : decode cX3_findRate 69 = .ok (.iinc 2 1, 3) := by decide +kernel
theorem dX3_findRate_72 : decode cX3_findRate 72 = .ok (.goto (-44), 3) := by decide +kernel
theorem dX3_findRate_75 : decode cX3_findRate 75 = .ok (.iconst 1, 1) := by decide +kernel
theorem dX3_findRate_76 : decode cX3_findRate 76 = .ok (.ireturn, 1) := by decide +kernel
theorem dX3_greatestMargin_0 : decode cX3_greatestMargin 0 = .ok (.sipush (-1200), 3) := by decide +kernel
theorem dX3_greatestMargin_3 : decode cX3_greatestMargin 3 = .ok (.istore_n 2, 1) := by decide +kernel
theorem dX3_greatestMargin_4 : decode cX3_greatestMargin 4 = .ok (.sipush 1200, 3) := by decide +kernel
theorem dX3_greatestMargin_7 : decode cX3_greatestMargin 7 = .ok (.istore_n 3, 1) := by decide +kernel
theorem dX3_greatestMargin_8 : decode cX3_greatestMargin 8 = .ok (.iconst 0, 1) := by decide +kernel
theorem dX3_greatestMargin_9 : decode cX3_greatestMargin 9 = .ok (.istore 4, 2) := by decide +kernel
theorem dX3_greatestMargin_11 : decode cX3_greatestMargin 11 = .ok (.iload 4, 2) := by decide +kernel
theorem dX3_greatestMargin_13 : decode cX3_greatestMargin 13 = .ok (.bipush 32, 2) := by decide +kernel
theorem dX3_greatestMargin_15 : decode cX3_greatestMargin 15 = .ok (.if_icmp .ge 46, 3) := by decide +kernel
theorem dX3_greatestMargin_18 : decode cX3_greatestMargin 18 = .ok (.iload_n 2, 1) := by decide +kernel
theorem dX3_greatestMargin_19 : decode cX3_greatestMargin 19 = .ok (.iload_n 3, 1) := by decide +kernel
theorem dX3_greatestMargin_20 : decode cX3_greatestMargin 20 = .ok (.if_icmp .ge 41, 3) := by decide +kernel
theorem dX3_greatestMargin_23 : decode cX3_greatestMargin 23 = .ok (.iload_n 2, 1) := by decide +kernel
theorem dX3_greatestMargin_24 : decode cX3_greatestMargin 24 = .ok (.iload_n 3, 1) := by decide +kernel
theorem dX3_greatestMargin_25 : decode cX3_greatestMargin 25 = .ok (.iadd, 1) := by decide +kernel
theorem dX3_greatestMargin_26 : decode cX3_greatestMargin 26 = .ok (.iconst 1, 1) := by decide +kernel
theorem dX3_greatestMargin_27 : decode cX3_greatestMargin 27 = .ok (.iadd, 1) := by decide +kernel
theorem dX3_greatestMargin_28 : decode cX3_greatestMargin 28 = .ok (.iconst 2, 1) := by decide +kernel
theorem dX3_greatestMargin_29 : decode cX3_greatestMargin 29 = .ok (.invokestatic 64, 3) := by decide +kernel
theorem dX3_greatestMargin_32 : decode cX3_greatestMargin 32 = .ok (.istore 5, 2) := by decide +kernel
theorem dX3_greatestMargin_34 : decode cX3_greatestMargin 34 = .ok (.aload_n 0, 1) := by decide +kernel
theorem dX3_greatestMargin_35 : decode cX3_greatestMargin 35 = .ok (.aload_n 1, 1) := by decide +kernel
theorem dX3_greatestMargin_36 : decode cX3_greatestMargin 36 = .ok (.iload 5, 2) := by decide +kernel
theorem dX3_greatestMargin_38 : decode cX3_greatestMargin 38 = .ok (.invokevirtual 33, 3) := by decide +kernel
theorem dX3_greatestMargin_41 : decode cX3_greatestMargin 41 = .ok (.ifCond .eq 9, 3) := by decide +kernel
theorem dX3_greatestMargin_44 : decode cX3_greatestMargin 44 = .ok (.iload 5, 2) := by decide +kernel
theorem dX3_greatestMargin_46 : decode cX3_greatestMargin 46 = .ok (.istore_n 2, 1) := by decide +kernel
theorem dX3_greatestMargin_47 : decode cX3_greatestMargin 47 = .ok (.goto 8, 3) := by decide +kernel
theorem dX3_greatestMargin_50 : decode cX3_greatestMargin 50 = .ok (.iload 5, 2) := by decide +kernel
theorem dX3_greatestMargin_52 : decode cX3_greatestMargin 52 = .ok (.iconst 1, 1) := by decide +kernel
theorem dX3_greatestMargin_53 : decode cX3_greatestMargin 53 = .ok (.isub, 1) := by decide +kernel
theorem dX3_greatestMargin_54 : decode cX3_greatestMargin 54 = .ok (.istore_n 3, 1) := by decide +kernel
theorem dX3_greatestMargin_55 : decode cX3_greatestMargin 55 = .ok (.iinc 4 1, 3) := by decide +kernel
theorem dX3_greatestMargin_58 : decode cX3_greatestMargin 58 = .ok (.goto (-47), 3) := by decide +kernel
theorem dX3_greatestMargin_61 : decode cX3_greatestMargin 61 = .ok (.iload_n 2, 1) := by decide +kernel
theorem dX3_greatestMargin_62 : decode cX3_greatestMargin 62 = .ok (.ireturn, 1) := by decide +kernel
theorem dX3_layBounds_0 : decode cX3_layBounds 0 = .ok (.aload_n 0, 1) := by decide +kernel
theorem dX3_layBounds_1 : decode cX3_layBounds 1 = .ok (.aload_n 1, 1) := by decide +kernel
theorem dX3_layBounds_2 : decode cX3_layBounds 2 = .ok (.getfield 61, 3) := by decide +kernel
theorem dX3_layBounds_5 : decode cX3_layBounds 5 = .ok (.putfield 70, 3) := by decide +kernel
theorem dX3_layBounds_8 : decode cX3_layBounds 8 = .ok (.iconst 0, 1) := by decide +kernel
theorem dX3_layBounds_9 : decode cX3_layBounds 9 = .ok (.istore 6, 2) := by decide +kernel
theorem dX3_layBounds_11 : decode cX3_layBounds 11 = .ok (.iload 6, 2) := by decide +kernel
theorem dX3_layBounds_13 : decode cX3_layBounds 13 = .ok (.aload_n 0, 1) := by decide +kernel
theorem dX3_layBounds_14 : decode cX3_layBounds 14 = .ok (.getfield 70, 3) := by decide +kernel
theorem dX3_layBounds_17 : decode cX3_layBounds 17 = .ok (.if_icmp .ge 39, 3) := by decide +kernel
theorem dX3_layBounds_20 : decode cX3_layBounds 20 = .ok (.iconst 0, 1) := by decide +kernel
theorem dX3_layBounds_21 : decode cX3_layBounds 21 = .ok (.istore 7, 2) := by decide +kernel
theorem dX3_layBounds_23 : decode cX3_layBounds 23 = .ok (.iload 7, 2) := by decide +kernel
theorem dX3_layBounds_25 : decode cX3_layBounds 25 = .ok (.aload_n 0, 1) := by decide +kernel
theorem dX3_layBounds_26 : decode cX3_layBounds 26 = .ok (.getfield 70, 3) := by decide +kernel
theorem dX3_layBounds_29 : decode cX3_layBounds 29 = .ok (.if_icmp .ge 21, 3) := by decide +kernel
theorem dX3_layBounds_32 : decode cX3_layBounds 32 = .ok (.aload_n 0, 1) := by decide +kernel
theorem dX3_layBounds_33 : decode cX3_layBounds 33 = .ok (.getfield 11, 3) := by decide +kernel
theorem dX3_layBounds_36 : decode cX3_layBounds 36 = .ok (.iload 6, 2) := by decide +kernel
theorem dX3_layBounds_38 : decode cX3_layBounds 38 = .ok (.aaload, 1) := by decide +kernel
theorem dX3_layBounds_39 : decode cX3_layBounds 39 = .ok (.iload 7, 2) := by decide +kernel
theorem dX3_layBounds_41 : decode cX3_layBounds 41 = .ok (.ldc 71, 2) := by decide +kernel
theorem dX3_layBounds_43 : decode cX3_layBounds 43 = .ok (.iastore, 1) := by decide +kernel
theorem dX3_layBounds_44 : decode cX3_layBounds 44 = .ok (.iinc 7 1, 3) := by decide +kernel
theorem dX3_layBounds_47 : decode cX3_layBounds 47 = .ok (.goto (-24), 3) := by decide +kernel
theorem dX3_layBounds_50 : decode cX3_layBounds 50 = .ok (.iinc 6 1, 3) := by decide +kernel
theorem dX3_layBounds_53 : decode cX3_layBounds 53 = .ok (.goto (-42), 3) := by decide +kernel
theorem dX3_layBounds_56 : decode cX3_layBounds 56 = .ok (.iconst 0, 1) := by decide +kernel
theorem dX3_layBounds_57 : decode cX3_layBounds 57 = .ok (.istore 6, 2) := by decide +kernel
theorem dX3_layBounds_59 : decode cX3_layBounds 59 = .ok (.iload 6, 2) := by decide +kernel
theorem dX3_layBounds_61 : decode cX3_layBounds 61 = .ok (.aload_n 1, 1) := by decide +kernel
theorem dX3_layBounds_62 : decode cX3_layBounds 62 = .ok (.getfield 72, 3) := by decide +kernel
theorem dX3_layBounds_65 : decode cX3_layBounds 65 = .ok (.if_icmp .ge 85, 3) := by decide +kernel
theorem dX3_layBounds_68 : decode cX3_layBounds 68 = .ok (.aload_n 1, 1) := by decide +kernel
theorem dX3_layBounds_69 : decode cX3_layBounds 69 = .ok (.getfield 75, 3) := by decide +kernel
theorem dX3_layBounds_72 : decode cX3_layBounds 72 = .ok (.iload 6, 2) := by decide +kernel
theorem dX3_layBounds_74 : decode cX3_layBounds 74 = .ok (.iaload, 1) := by decide +kernel
theorem dX3_layBounds_75 : decode cX3_layBounds 75 = .ok (.istore 7, 2) := by decide +kernel
theorem dX3_layBounds_77 : decode cX3_layBounds 77 = .ok (.aload_n 1, 1) := by decide +kernel
theorem dX3_layBounds_78 : decode cX3_layBounds 78 = .ok (.getfield 78, 3) := by decide +kernel
theorem dX3_layBounds_81 : decode cX3_layBounds 81 = .ok (.iload 6, 2) := by decide +kernel
theorem dX3_layBounds_83 : decode cX3_layBounds 83 = .ok (.iaload, 1) := by decide +kernel
theorem dX3_layBounds_84 : decode cX3_layBounds 84 = .ok (.istore 8, 2) := by decide +kernel
theorem dX3_layBounds_86 : decode cX3_layBounds 86 = .ok (.iload_n 2, 1) := by decide +kernel
theorem dX3_layBounds_87 : decode cX3_layBounds 87 = .ok (.iload_n 3, 1) := by decide +kernel
theorem dX3_layBounds_88 : decode cX3_layBounds 88 = .ok (.aload_n 1, 1) := by decide +kernel
theorem dX3_layBounds_89 : decode cX3_layBounds 89 = .ok (.getfield 81, 3) := by decide +kernel
theorem dX3_layBounds_92 : decode cX3_layBounds 92 = .ok (.iload 6, 2) := by decide +kernel
theorem dX3_layBounds_94 : decode cX3_layBounds 94 = .ok (.iaload, 1) := by decide +kernel
theorem dX3_layBounds_95 : decode cX3_layBounds 95 = .ok (.aload_n 1, 1) := by decide +kernel
theorem dX3_layBounds_96 : decode cX3_layBounds 96 = .ok (.getfield 84, 3) := by decide +kernel
theorem dX3_layBounds_99 : decode cX3_layBounds 99 = .ok (.iadd, 1) := by decide +kernel
theorem dX3_layBounds_100 : decode cX3_layBounds 100 = .ok (.iload 4, 2) := by decide +kernel
theorem dX3_layBounds_102 : decode cX3_layBounds 102 = .ok (.iadd, 1) := by decide +kernel
theorem dX3_layBounds_103 : decode cX3_layBounds 103 = .ok (.imul, 1) := by decide +kernel
theorem dX3_layBounds_104 : decode cX3_layBounds 104 = .ok (.isub, 1) := by decide +kernel
theorem dX3_layBounds_105 : decode cX3_layBounds 105 = .ok (.istore 9, 2) := by decide +kernel
theorem dX3_layBounds_107 : decode cX3_layBounds 107 = .ok (.iload_n 3, 1) := by decide +kernel
theorem dX3_layBounds_108 : decode cX3_layBounds 108 = .ok (.aload_n 1, 1) := by decide +kernel
theorem dX3_layBounds_109 : decode cX3_layBounds 109 = .ok (.iload 6, 2) := by decide +kernel
theorem dX3_layBounds_111 : decode cX3_layBounds 111 = .ok (.invokevirtual 87, 3) := by decide +kernel
theorem dX3_layBounds_114 : decode cX3_layBounds 114 = .ok (.iload 4, 2) := by decide +kernel
theorem dX3_layBounds_116 : decode cX3_layBounds 116 = .ok (.isub, 1) := by decide +kernel
theorem dX3_layBounds_117 : decode cX3_layBounds 117 = .ok (.imul, 1) := by decide +kernel
theorem dX3_layBounds_118 : decode cX3_layBounds 118 = .ok (.istore 10, 2) := by decide +kernel
theorem dX3_layBounds_120 : decode cX3_layBounds 120 = .ok (.aload_n 0, 1) := by decide +kernel
theorem dX3_layBounds_121 : decode cX3_layBounds 121 = .ok (.iload 7, 2) := by decide +kernel
theorem dX3_layBounds_123 : decode cX3_layBounds 123 = .ok (.iload 8, 2) := by decide +kernel
theorem dX3_layBounds_125 : decode cX3_layBounds 125 = .ok (.iload 9, 2) := by decide +kernel
theorem dX3_layBounds_127 : decode cX3_layBounds 127 = .ok (.iload 5, 2) := by decide +kernel
theorem dX3_layBounds_129 : decode cX3_layBounds 129 = .ok (.invokevirtual 91, 3) := by decide +kernel
theorem dX3_layBounds_132 : decode cX3_layBounds 132 = .ok (.aload_n 0, 1) := by decide +kernel
theorem dX3_layBounds_133 : decode cX3_layBounds 133 = .ok (.iload 8, 2) := by decide +kernel
theorem dX3_layBounds_135 : decode cX3_layBounds 135 = .ok (.iload 7, 2) := by decide +kernel
theorem dX3_layBounds_137 : decode cX3_layBounds 137 = .ok (.iload 10, 2) := by decide +kernel
theorem dX3_layBounds_139 : decode cX3_layBounds 139 = .ok (.iload 5, 2) := by decide +kernel
theorem dX3_layBounds_141 : decode cX3_layBounds 141 = .ok (.invokevirtual 91, 3) := by decide +kernel
theorem dX3_layBounds_144 : decode cX3_layBounds 144 = .ok (.iinc 6 1, 3) := by decide +kernel
theorem dX3_layBounds_147 : decode cX3_layBounds 147 = .ok (.goto (-88), 3) := by decide +kernel
theorem dX3_layBounds_150 : decode cX3_layBounds 150 = .ok (.return_, 1) := by decide +kernel
theorem dX3_tighten_0 : decode cX3_tighten 0 = .ok (.iload 4, 2) := by decide +kernel
theorem dX3_tighten_2 : decode cX3_tighten 2 = .ok (.ifCond .le 28, 3) := by decide +kernel
theorem dX3_tighten_5 : decode cX3_tighten 5 = .ok (.aload_n 0, 1) := by decide +kernel
theorem dX3_tighten_6 : decode cX3_tighten 6 = .ok (.getfield 11, 3) := by decide +kernel
theorem dX3_tighten_9 : decode cX3_tighten 9 = .ok (.iload_n 1, 1) := by decide +kernel
theorem dX3_tighten_10 : decode cX3_tighten 10 = .ok (.aaload, 1) := by decide +kernel
theorem dX3_tighten_11 : decode cX3_tighten 11 = .ok (.iload_n 2, 1) := by decide +kernel
theorem dX3_tighten_12 : decode cX3_tighten 12 = .ok (.aload_n 0, 1) := by decide +kernel
theorem dX3_tighten_13 : decode cX3_tighten 13 = .ok (.getfield 11, 3) := by decide +kernel
theorem dX3_tighten_16 : decode cX3_tighten 16 = .ok (.iload_n 1, 1) := by decide +kernel
theorem dX3_tighten_17 : decode cX3_tighten 17 = .ok (.aaload, 1) := by decide +kernel
theorem dX3_tighten_18 : decode cX3_tighten 18 = .ok (.iload_n 2, 1) := by decide +kernel
theorem dX3_tighten_19 : decode cX3_tighten 19 = .ok (.iaload, 1) := by decide +kernel
theorem dX3_tighten_20 : decode cX3_tighten 20 = .ok (.iload_n 3, 1) := by decide +kernel
theorem dX3_tighten_21 : decode cX3_tighten 21 = .ok (.iload 4, 2) := by decide +kernel
theorem dX3_tighten_23 : decode cX3_tighten 23 = .ok (.invokestatic 64, 3) := by decide +kernel
theorem dX3_tighten_26 : decode cX3_tighten 26 = .ok (.invokestatic 95, 3) := by decide +kernel
theorem dX3_tighten_29 : decode cX3_tighten 29 = .ok (.iastore, 1) := by decide +kernel
theorem dX3_tighten_30 : decode cX3_tighten 30 = .ok (.return_, 1) := by decide +kernel
theorem dX3_settle_0 : decode cX3_settle 0 = .ok (.iconst 0, 1) := by decide +kernel
theorem dX3_settle_1 : decode cX3_settle 1 = .ok (.istore_n 1, 1) := by decide +kernel
theorem dX3_settle_2 : decode cX3_settle 2 = .ok (.iload_n 1, 1) := by decide +kernel
theorem dX3_settle_3 : decode cX3_settle 3 = .ok (.aload_n 0, 1) := by decide +kernel
theorem dX3_settle_4 : decode cX3_settle 4 = .ok (.getfield 70, 3) := by decide +kernel
theorem dX3_settle_7 : decode cX3_settle 7 = .ok (.if_icmp .ge 16, 3) := by decide +kernel
theorem dX3_settle_10 : decode cX3_settle 10 = .ok (.aload_n 0, 1) := by decide +kernel
theorem dX3_settle_11 : decode cX3_settle 11 = .ok (.getfield 16, 3) := by decide +kernel
theorem dX3_settle_14 : decode cX3_settle 14 = .ok (.iload_n 1, 1) := by decide +kernel
theorem dX3_settle_15 : decode cX3_settle 15 = .ok (.iconst 0, 1) := by decide +kernel
theorem dX3_settle_16 : decode cX3_settle 16 = .ok (.iastore, 1) := by decide +kernel
theorem dX3_settle_17 : decode cX3_settle 17 = .ok (.iinc 1 1, 3) := by decide +kernel
theorem dX3_settle_20 : decode cX3_settle 20 = .ok (.goto (-18), 3) := by decide +kernel
theorem dX3_settle_23 : decode cX3_settle 23 = .ok (.iconst 0, 1) := by decide +kernel
theorem dX3_settle_24 : decode cX3_settle 24 = .ok (.istore_n 1, 1) := by decide +kernel
theorem dX3_settle_25 : decode cX3_settle 25 = .ok (.iload_n 1, 1) := by decide +kernel
theorem dX3_settle_26 : decode cX3_settle 26 = .ok (.aload_n 0, 1) := by decide +kernel
theorem dX3_settle_27 : decode cX3_settle 27 = .ok (.getfield 70, 3) := by decide +kernel
theorem dX3_settle_30 : decode cX3_settle 30 = .ok (.if_icmp .ge 18, 3) := by decide +kernel
theorem dX3_settle_33 : decode cX3_settle 33 = .ok (.aload_n 0, 1) := by decide +kernel
theorem dX3_settle_34 : decode cX3_settle 34 = .ok (.invokevirtual 98, 3) := by decide +kernel
theorem dX3_settle_37 : decode cX3_settle 37 = .ok (.ifCond .ne 5, 3) := by decide +kernel
theorem dX3_settle_40 : decode cX3_settle 40 = .ok (.iconst 1, 1) := by decide +kernel
theorem dX3_settle_41 : decode cX3_settle 41 = .ok (.ireturn, 1) := by decide +kernel
theorem dX3_settle_42 : decode cX3_settle 42 = .ok (.iinc 1 1, 3) := by decide +kernel
theorem dX3_settle_45 : decode cX3_settle 45 = .ok (.goto (-20), 3) := by decide +kernel
theorem dX3_settle_48 : decode cX3_settle 48 = .ok (.iconst 0, 1) := by decide +kernel
theorem dX3_settle_49 : decode cX3_settle 49 = .ok (.ireturn, 1) := by decide +kernel
theorem dX3_lowerOnce_0 : decode cX3_lowerOnce 0 = .ok (.iconst 0, 1) := by decide +kernel
theorem dX3_lowerOnce_1 : decode cX3_lowerOnce 1 = .ok (.istore_n 1, 1) := by decide +kernel
theorem dX3_lowerOnce_2 : decode cX3_lowerOnce 2 = .ok (.iconst 0, 1) := by decide +kernel
theorem dX3_lowerOnce_3 : decode cX3_lowerOnce 3 = .ok (.istore_n 2, 1) := by decide +kernel
theorem dX3_lowerOnce_4 : decode cX3_lowerOnce 4 = .ok (.iload_n 2, 1) := by decide +kernel
theorem dX3_lowerOnce_5 : decode cX3_lowerOnce 5 = .ok (.aload_n 0, 1) := by decide +kernel
theorem dX3_lowerOnce_6 : decode cX3_lowerOnce 6 = .ok (.getfield 70, 3) := by decide +kernel
theorem dX3_lowerOnce_9 : decode cX3_lowerOnce 9 = .ok (.if_icmp .ge 77, 3) := by decide +kernel
theorem dX3_lowerOnce_12 : decode cX3_lowerOnce 12 = .ok (.iconst 0, 1) := by decide +kernel
theorem dX3_lowerOnce_13 : decode cX3_lowerOnce 13 = .ok (.istore_n 3, 1) := by decide +kernel
theorem dX3_lowerOnce_14 : decode cX3_lowerOnce 14 = .ok (.iload_n 3, 1) := by decide +kernel
theorem dX3_lowerOnce_15 : decode cX3_lowerOnce 15 = .ok (.aload_n 0, 1) := by decide +kernel
theorem dX3_lowerOnce_16 : decode cX3_lowerOnce 16 = .ok (.getfield 70, 3) := by decide +kernel
theorem dX3_lowerOnce_19 : decode cX3_lowerOnce 19 = .ok (.if_icmp .ge 61, 3) := by decide +kernel
theorem dX3_lowerOnce_22 : decode cX3_lowerOnce 22 = .ok (.aload_n 0, 1) := by decide +kernel
theorem dX3_lowerOnce_23 : decode cX3_lowerOnce 23 = .ok (.getfield 11, 3) := by decide +kernel
theorem dX3_lowerOnce_26 : decode cX3_lowerOnce 26 = .ok (.iload_n 2, 1) := by decide +kernel
theorem dX3_lowerOnce_27 : decode cX3_lowerOnce 27 = .ok (.aaload, 1) := by decide +kernel
theorem dX3_lowerOnce_28 : decode cX3_lowerOnce 28 = .ok (.iload_n 3, 1) := by decide +kernel
theorem dX3_lowerOnce_29 : decode cX3_lowerOnce 29 = .ok (.iaload, 1) := by decide +kernel
theorem dX3_lowerOnce_30 : decode cX3_lowerOnce 30 = .ok (.istore 4, 2) := by decide +kernel
theorem dX3_lowerOnce_32 : decode cX3_lowerOnce 32 = .ok (.iload 4, 2) := by decide +kernel
theorem dX3_lowerOnce_34 : decode cX3_lowerOnce 34 = .ok (.ldc 71, 2) := by decide +kernel
theorem dX3_lowerOnce_36 : decode cX3_lowerOnce 36 = .ok (.if_icmp .eq 38, 3) := by decide +kernel
theorem dX3_lowerOnce_39 : decode cX3_lowerOnce 39 = .ok (.aload_n 0, 1) := by decide +kernel
theorem dX3_lowerOnce_40 : decode cX3_lowerOnce 40 = .ok (.getfield 16, 3) := by decide +kernel
theorem dX3_lowerOnce_43 : decode cX3_lowerOnce 43 = .ok (.iload_n 3, 1) := by decide +kernel
theorem dX3_lowerOnce_44 : decode cX3_lowerOnce 44 = .ok (.iaload, 1) := by decide +kernel
theorem dX3_lowerOnce_45 : decode cX3_lowerOnce 45 = .ok (.iload 4, 2) := by decide +kernel
theorem dX3_lowerOnce_47 : decode cX3_lowerOnce 47 = .ok (.iadd, 1) := by decide +kernel
theorem dX3_lowerOnce_48 : decode cX3_lowerOnce 48 = .ok (.aload_n 0, 1) := by decide +kernel
theorem dX3_lowerOnce_49 : decode cX3_lowerOnce 49 = .ok (.getfield 16, 3) := by decide +kernel
theorem dX3_lowerOnce_52 : decode cX3_lowerOnce 52 = .ok (.iload_n 2, 1) := by decide +kernel
theorem dX3_lowerOnce_53 : decode cX3_lowerOnce 53 = .ok (.iaload, 1) := by decide +kernel
theorem dX3_lowerOnce_54 : decode cX3_lowerOnce 54 = .ok (.if_icmp .ge 20, 3) := by decide +kernel
theorem dX3_lowerOnce_57 : decode cX3_lowerOnce 57 = .ok (.aload_n 0, 1) := by decide +kernel
theorem dX3_lowerOnce_58 : decode cX3_lowerOnce 58 = .ok (.getfield 16, 3) := by decide +kernel
theorem dX3_lowerOnce_61 : decode cX3_lowerOnce 61 = .ok (.iload_n 2, 1) := by decide +kernel
theorem dX3_lowerOnce_62 : decode cX3_lowerOnce 62 = .ok (.aload_n 0, 1) := by decide +kernel
theorem dX3_lowerOnce_63 : decode cX3_lowerOnce 63 = .ok (.getfield 16, 3) := by decide +kernel
theorem dX3_lowerOnce_66 : decode cX3_lowerOnce 66 = .ok (.iload_n 3, 1) := by decide +kernel
theorem dX3_lowerOnce_67 : decode cX3_lowerOnce 67 = .ok (.iaload, 1) := by decide +kernel
theorem dX3_lowerOnce_68 : decode cX3_lowerOnce 68 = .ok (.iload 4, 2) := by decide +kernel
theorem dX3_lowerOnce_70 : decode cX3_lowerOnce 70 = .ok (.iadd, 1) := by decide +kernel
theorem dX3_lowerOnce_71 : decode cX3_lowerOnce 71 = .ok (.iastore, 1) := by decide +kernel
theorem dX3_lowerOnce_72 : decode cX3_lowerOnce 72 = .ok (.iconst 1, 1) := by decide +kernel
theorem dX3_lowerOnce_73 : decode cX3_lowerOnce 73 = .ok (.istore_n 1, 1) := by decide +kernel
theorem dX3_lowerOnce_74 : decode cX3_lowerOnce 74 = .ok (.iinc 3 1, 3) := by decide +kernel
theorem dX3_lowerOnce_77 : decode cX3_lowerOnce 77 = .ok (.goto (-63), 3) := by decide +kernel
theorem dX3_lowerOnce_80 : decode cX3_lowerOnce 80 = .ok (.iinc 2 1, 3) := by decide +kernel
theorem dX3_lowerOnce_83 : decode cX3_lowerOnce 83 = .ok (.goto (-79), 3) := by decide +kernel
theorem dX3_lowerOnce_86 : decode cX3_lowerOnce 86 = .ok (.iload_n 1, 1) := by decide +kernel
theorem dX3_lowerOnce_87 : decode cX3_lowerOnce 87 = .ok (.ireturn, 1) := by decide +kernel
theorem dX3_findRing_0 : decode cX3_findRing 0 = .ok (.aload_n 0, 1) := by decide +kernel
theorem dX3_findRing_1 : decode cX3_findRing 1 = .ok (.iconst 0, 1) := by decide +kernel
theorem dX3_findRing_2 : decode cX3_findRing 2 = .ok (.putfield 23, 3) := by decide +kernel
theorem dX3_findRing_5 : decode cX3_findRing 5 = .ok (.iconst 0, 1) := by decide +kernel
theorem dX3_findRing_6 : decode cX3_findRing 6 = .ok (.istore_n 1, 1) := by decide +kernel
theorem dX3_findRing_7 : decode cX3_findRing 7 = .ok (.iload_n 1, 1) := by decide +kernel
theorem dX3_findRing_8 : decode cX3_findRing 8 = .ok (.aload_n 0, 1) := by decide +kernel
theorem dX3_findRing_9 : decode cX3_findRing 9 = .ok (.getfield 70, 3) := by decide +kernel
theorem dX3_findRing_12 : decode cX3_findRing 12 = .ok (.if_icmp .ge 27, 3) := by decide +kernel
theorem dX3_findRing_15 : decode cX3_findRing 15 = .ok (.aload_n 0, 1) := by decide +kernel
theorem dX3_findRing_16 : decode cX3_findRing 16 = .ok (.getfield 20, 3) := by decide +kernel
theorem dX3_findRing_19 : decode cX3_findRing 19 = .ok (.iconst 0, 1) := by decide +kernel
theorem dX3_findRing_20 : decode cX3_findRing 20 = .ok (.iload_n 1, 1) := by decide +kernel
theorem dX3_findRing_21 : decode cX3_findRing 21 = .ok (.iastore, 1) := by decide +kernel
theorem dX3_findRing_22 : decode cX3_findRing 22 = .ok (.aload_n 0, 1) := by decide +kernel
theorem dX3_findRing_23 : decode cX3_findRing 23 = .ok (.iconst 1, 1) := by decide +kernel
theorem dX3_findRing_24 : decode cX3_findRing 24 = .ok (.iconst 0, 1) := by decide +kernel
theorem dX3_findRing_25 : decode cX3_findRing 25 = .ok (.invokevirtual 101, 3) := by decide +kernel
theorem dX3_findRing_28 : decode cX3_findRing 28 = .ok (.ifCond .eq 5, 3) := by decide +kernel
theorem dX3_findRing_31 : decode cX3_findRing 31 = .ok (.iconst 1, 1) := by decide +kernel
theorem dX3_findRing_32 : decode cX3_findRing 32 = .ok (.ireturn, 1) := by decide +kernel
theorem dX3_findRing_33 : decode cX3_findRing 33 = .ok (.iinc 1 1, 3) := by decide +kernel
theorem dX3_findRing_36 : decode cX3_findRing 36 = .ok (.goto (-29), 3) := by decide +kernel
theorem dX3_findRing_39 : decode cX3_findRing 39 = .ok (.iconst 0, 1) := by decide +kernel
theorem dX3_findRing_40 : decode cX3_findRing 40 = .ok (.ireturn, 1) := by decide +kernel
theorem dX3_closesFrom_0 : decode cX3_closesFrom 0 = .ok (.aload_n 0, 1) := by decide +kernel
theorem dX3_closesFrom_1 : decode cX3_closesFrom 1 = .ok (.getfield 20, 3) := by decide +kernel
theorem dX3_closesFrom_4 : decode cX3_closesFrom 4 = .ok (.iconst 0, 1) := by decide +kernel
theorem dX3_closesFrom_5 : decode cX3_closesFrom 5 = .ok (.iaload, 1) := by decide +kernel
theorem dX3_closesFrom_6 : decode cX3_closesFrom 6 = .ok (.istore_n 3, 1) := by decide +kernel
theorem dX3_closesFrom_7 : decode cX3_closesFrom 7 = .ok (.aload_n 0, 1) := by decide +kernel
theorem dX3_closesFrom_8 : decode cX3_closesFrom 8 = .ok (.getfield 20, 3) := by decide +kernel
theorem dX3_closesFrom_11 : decode cX3_closesFrom 11 = .ok (.iload_n 1, 1) := by decide +kernel
theorem dX3_closesFrom_12 : decode cX3_closesFrom 12 = .ok (.iconst 1, 1) := by decide +kernel
theorem dX3_closesFrom_13 : decode cX3_closesFrom 13 = .ok (.isub, 1) := by decide +kernel
theorem dX3_closesFrom_14 : decode cX3_closesFrom 14 = .ok (.iaload, 1) := by decide +kernel
theorem dX3_closesFrom_15 : decode cX3_closesFrom 15 = .ok (.istore 4, 2) := by decide +kernel
theorem dX3_closesFrom_17 : decode cX3_closesFrom 17 = .ok (.aload_n 0, 1) := by decide +kernel
theorem dX3_closesFrom_18 : decode cX3_closesFrom 18 = .ok (.getfield 11, 3) := by decide +kernel
theorem dX3_closesFrom_21 : decode cX3_closesFrom 21 = .ok (.iload 4, 2) := by decide +kernel
theorem dX3_closesFrom_23 : decode cX3_closesFrom 23 = .ok (.aaload, 1) := by decide +kernel
theorem dX3_closesFrom_24 : decode cX3_closesFrom 24 = .ok (.iload_n 3, 1) := by decide +kernel
theorem dX3_closesFrom_25 : decode cX3_closesFrom 25 = .ok (.iaload, 1) := by decide +kernel
theorem dX3_closesFrom_26 : decode cX3_closesFrom 26 = .ok (.istore 5, 2) := by decide +kernel
theorem dX3_closesFrom_28 : decode cX3_closesFrom 28 = .ok (.iload 5, 2) := by decide +kernel
theorem dX3_closesFrom_30 : decode cX3_closesFrom 30 = .ok (.ldc 71, 2) := by decide +kernel
theorem dX3_closesFrom_32 : decode cX3_closesFrom 32 = .ok (.if_icmp .eq 17, 3) := by decide +kernel
theorem dX3_closesFrom_35 : decode cX3_closesFrom 35 = .ok (.iload_n 2, 1) := by decide +kernel
theorem dX3_closesFrom_36 : decode cX3_closesFrom 36 = .ok (.iload 5, 2) := by decide +kernel
theorem dX3_closesFrom_38 : decode cX3_closesFrom 38 = .ok (.iadd, 1) := by decide +kernel
theorem dX3_closesFrom_39 : decode cX3_closesFrom 39 = .ok (.ifCond .ge 10, 3) := by decide +kernel
theorem dX3_closesFrom_42 : decode cX3_closesFrom 42 = .ok (.aload_n 0, 1) := by decide +kernel
theorem dX3_closesFrom_43 : decode cX3_closesFrom 43 = .ok (.iload_n 1, 1) := by decide +kernel
theorem dX3_closesFrom_44 : decode cX3_closesFrom 44 = .ok (.putfield 23, 3) := by decide +kernel
theorem dX3_closesFrom_47 : decode cX3_closesFrom 47 = .ok (.iconst 1, 1) := by decide +kernel
theorem dX3_closesFrom_48 : decode cX3_closesFrom 48 = .ok (.ireturn, 1) := by decide +kernel
theorem dX3_closesFrom_49 : decode cX3_closesFrom 49 = .ok (.iload_n 1, 1) := by decide +kernel
theorem dX3_closesFrom_50 : decode cX3_closesFrom 50 = .ok (.aload_n 0, 1) := by decide +kernel
theorem dX3_closesFrom_51 : decode cX3_closesFrom 51 = .ok (.getfield 70, 3) := by decide +kernel
theorem dX3_closesFrom_54 : decode cX3_closesFrom 54 = .ok (.if_icmp .lt 5, 3) := by decide +kernel
theorem dX3_closesFrom_57 : decode cX3_closesFrom 57 = .ok (.iconst 0, 1) := by decide +kernel
theorem dX3_closesFrom_58 : decode cX3_closesFrom 58 = .ok (.ireturn, 1) := by decide +kernel
theorem dX3_closesFrom_59 : decode cX3_closesFrom 59 = .ok (.iload_n 3, 1) := by decide +kernel
theorem dX3_closesFrom_60 : decode cX3_closesFrom 60 = .ok (.iconst 1, 1) := by decide +kernel
theorem dX3_closesFrom_61 : decode cX3_closesFrom 61 = .ok (.iadd, 1) := by decide +kernel
theorem dX3_closesFrom_62 : decode cX3_closesFrom 62 = .ok (.istore 6, 2) := by decide +kernel
theorem dX3_closesFrom_64 : decode cX3_closesFrom 64 = .ok (.iload 6, 2) := by decide +kernel
theorem dX3_closesFrom_66 : decode cX3_closesFrom 66 = .ok (.aload_n 0, 1) := by decide +kernel
theorem dX3_closesFrom_67 : decode cX3_closesFrom 67 = .ok (.getfield 70, 3) := by decide +kernel
theorem dX3_closesFrom_70 : decode cX3_closesFrom 70 = .ok (.if_icmp .ge 65, 3) := by decide +kernel
theorem dX3_closesFrom_73 : decode cX3_closesFrom 73 = .ok (.aload_n 0, 1) := by decide +kernel
theorem dX3_closesFrom_74 : decode cX3_closesFrom 74 = .ok (.getfield 11, 3) := by decide +kernel
theorem dX3_closesFrom_77 : decode cX3_closesFrom 77 = .ok (.iload 4, 2) := by decide +kernel
theorem dX3_closesFrom_79 : decode cX3_closesFrom 79 = .ok (.aaload, 1) := by decide +kernel
theorem dX3_closesFrom_80 : decode cX3_closesFrom 80 = .ok (.iload 6, 2) := by decide +kernel
theorem dX3_closesFrom_82 : decode cX3_closesFrom 82 = .ok (.iaload, 1) := by decide +kernel
theorem dX3_closesFrom_83 : decode cX3_closesFrom 83 = .ok (.istore 7, 2) := by decide +kernel
theorem dX3_closesFrom_85 : decode cX3_closesFrom 85 = .ok (.iload 7, 2) := by decide +kernel
theorem dX3_closesFrom_87 : decode cX3_closesFrom 87 = .ok (.ldc 71, 2) := by decide +kernel
theorem dX3_closesFrom_89 : decode cX3_closesFrom 89 = .ok (.if_icmp .eq 40, 3) := by decide +kernel
theorem dX3_closesFrom_92 : decode cX3_closesFrom 92 = .ok (.aload_n 0, 1) := by decide +kernel
theorem dX3_closesFrom_93 : decode cX3_closesFrom 93 = .ok (.iload 6, 2) := by decide +kernel
theorem dX3_closesFrom_95 : decode cX3_closesFrom 95 = .ok (.iload_n 1, 1) := by decide +kernel
theorem dX3_closesFrom_96 : decode cX3_closesFrom 96 = .ok (.invokevirtual 105, 3) := by decide +kernel
theorem dX3_closesFrom_99 : decode cX3_closesFrom 99 = .ok (.ifCond .eq 6, 3) := by decide +kernel
theorem dX3_closesFrom_102 : decode cX3_closesFrom 102 = .ok (.goto 27, 3) := by decide +kernel
theorem dX3_closesFrom_105 : decode cX3_closesFrom 105 = .ok (.aload_n 0, 1) := by decide +kernel
theorem dX3_closesFrom_106 : decode cX3_closesFrom 106 = .ok (.getfield 20, 3) := by decide +kernel
theorem dX3_closesFrom_109 : decode cX3_closesFrom 109 = .ok (.iload_n 1, 1) := by decide +kernel
theorem dX3_closesFrom_110 : decode cX3_closesFrom 110 = .ok (.iload 6, 2) := by decide +kernel
theorem dX3_closesFrom_112 : decode cX3_closesFrom 112 = .ok (.iastore, 1) := by decide +kernel
theorem dX3_closesFrom_113 : decode cX3_closesFrom 113 = .ok (.aload_n 0, 1) := by decide +kernel
theorem dX3_closesFrom_114 : decode cX3_closesFrom 114 = .ok (.iload_n 1, 1) := by decide +kernel
theorem dX3_closesFrom_115 : decode cX3_closesFrom 115 = .ok (.iconst 1, 1) := by decide +kernel
theorem dX3_closesFrom_116 : decode cX3_closesFrom 116 = .ok (.iadd, 1) := by decide +kernel
theorem dX3_closesFrom_117 : decode cX3_closesFrom 117 = .ok (.iload_n 2, 1) := by decide +kernel
theorem dX3_closesFrom_118 : decode cX3_closesFrom 118 = .ok (.iload 7, 2) := by decide +kernel
theorem dX3_closesFrom_120 : decode cX3_closesFrom 120 = .ok (.iadd, 1) := by decide +kernel
theorem dX3_closesFrom_121 : decode cX3_closesFrom 121 = .ok (.invokevirtual 101, 3) := by decide +kernel
theorem dX3_closesFrom_124 : decode cX3_closesFrom 124 = .ok (.ifCond .eq 5, 3) := by decide +kernel
theorem dX3_closesFrom_127 : decode cX3_closesFrom 127 = .ok (.iconst 1, 1) := by decide +kernel
theorem dX3_closesFrom_128 : decode cX3_closesFrom 128 = .ok (.ireturn, 1) := by decide +kernel
theorem dX3_closesFrom_129 : decode cX3_closesFrom 129 = .ok (.iinc 6 1, 3) := by decide +kernel
theorem dX3_closesFrom_132 : decode cX3_closesFrom 132 = .ok (.goto (-68), 3) := by decide +kernel
theorem dX3_closesFrom_135 : decode cX3_closesFrom 135 = .ok (.iconst 0, 1) := by decide +kernel
theorem dX3_closesFrom_136 : decode cX3_closesFrom 136 = .ok (.ireturn, 1) := by decide +kernel
theorem dX3_isInRing_0 : decode cX3_isInRing 0 = .ok (.iconst 0, 1) := by decide +kernel
theorem dX3_isInRing_1 : decode cX3_isInRing 1 = .ok (.istore_n 3, 1) := by decide +kernel
theorem dX3_isInRing_2 : decode cX3_isInRing 2 = .ok (.iload_n 3, 1) := by decide +kernel
theorem dX3_isInRing_3 : decode cX3_isInRing 3 = .ok (.iload_n 2, 1) := by decide +kernel
theorem dX3_isInRing_4 : decode cX3_isInRing 4 = .ok (.if_icmp .ge 21, 3) := by decide +kernel
theorem dX3_isInRing_7 : decode cX3_isInRing 7 = .ok (.aload_n 0, 1) := by decide +kernel
theorem dX3_isInRing_8 : decode cX3_isInRing 8 = .ok (.getfield 20, 3) := by decide +kernel
theorem dX3_isInRing_11 : decode cX3_isInRing 11 = .ok (.iload_n 3, 1) := by decide +kernel
theorem dX3_isInRing_12 : decode cX3_isInRing 12 = .ok (.iaload, 1) := by decide +kernel
theorem dX3_isInRing_13 : decode cX3_isInRing 13 = .ok (.iload_n 1, 1) := by decide +kernel
theorem dX3_isInRing_14 : decode cX3_isInRing 14 = .ok (.if_icmp .ne 5, 3) := by decide +kernel
theorem dX3_isInRing_17 : decode cX3_isInRing 17 = .ok (.iconst 1, 1) := by decide +kernel
theorem dX3_isInRing_18 : decode cX3_isInRing 18 = .ok (.ireturn, 1) := by decide +kernel
theorem dX3_isInRing_19 : decode cX3_isInRing 19 = .ok (.iinc 3 1, 3) := by decide +kernel
theorem dX3_isInRing_22 : decode cX3_isInRing 22 = .ok (.goto (-20), 3) := by decide +kernel
theorem dX3_isInRing_25 : decode cX3_isInRing 25 = .ok (.iconst 0, 1) := by decide +kernel
theorem dX3_isInRing_26 : decode cX3_isInRing 26 = .ok (.ireturn, 1) := by decide +kernel
theorem dX4_init_0 : decode cX4_init 0 = .ok (.aload_n 0, 1) := by decide +kernel
theorem dX4_init_1 : decode cX4_init 1 = .ok (.invokespecial 3, 3) := by decide +kernel
theorem dX4_init_4 : decode cX4_init 4 = .ok (.aload_n 0, 1) := by decide +kernel
theorem dX4_init_5 : decode cX4_init 5 = .ok (.sipush 200, 3) := by decide +kernel
theorem dX4_init_8 : decode cX4_init 8 = .ok (.newarray .char, 2) := by decide +kernel
theorem dX4_init_10 : decode cX4_init 10 = .ok (.putfield 9, 3) := by decide +kernel
theorem dX4_init_13 : decode cX4_init 13 = .ok (.return_, 1) := by decide +kernel
theorem dX4_letterCount_0 : decode cX4_letterCount 0 = .ok (.aload_n 0, 1) := by decide +kernel
theorem dX4_letterCount_1 : decode cX4_letterCount 1 = .ok (.getfield 15, 3) := by decide +kernel
theorem dX4_letterCount_4 : decode cX4_letterCount 4 = .ok (.ireturn, 1) := by decide +kernel
theorem dX4_clauseCount_0 : decode cX4_clauseCount 0 = .ok (.aload_n 0, 1) := by decide +kernel
theorem dX4_clauseCount_1 : decode cX4_clauseCount 1 = .ok (.getfield 19, 3) := by decide +kernel
theorem dX4_clauseCount_4 : decode cX4_clauseCount 4 = .ok (.ireturn, 1) := by decide +kernel
theorem dX4_clear_0 : decode cX4_clear 0 = .ok (.aload_n 0, 1) := by decide +kernel
theorem dX4_clear_1 : decode cX4_clear 1 = .ok (.iconst 0, 1) := by decide +kernel
theorem dX4_clear_2 : decode cX4_clear 2 = .ok (.putfield 15, 3) := by decide +kernel
theorem dX4_clear_5 : decode cX4_clear 5 = .ok (.return_, 1) := by decide +kernel
theorem dX4_append_0 : decode cX4_append 0 = .ok (.aload_n 0, 1) := by decide +kernel
theorem dX4_append_1 : decode cX4_append 1 = .ok (.getfield 15, 3) := by decide +kernel
theorem dX4_append_4 : decode cX4_append 4 = .ok (.sipush 200, 3) := by decide +kernel
theorem dX4_append_7 : decode cX4_append 7 = .ok (.if_icmp .lt 5, 3) := by decide +kernel
theorem dX4_append_10 : decode cX4_append 10 = .ok (.iconst 0, 1) := by decide +kernel
theorem dX4_append_11 : decode cX4_append 11 = .ok (.ireturn, 1) := by decide +kernel
theorem dX4_append_12 : decode cX4_append 12 = .ok (.aload_n 0, 1) := by decide +kernel
theorem dX4_append_13 : decode cX4_append 13 = .ok (.getfield 9, 3) := by decide +kernel
theorem dX4_append_16 : decode cX4_append 16 = .ok (.aload_n 0, 1) := by decide +kernel
theorem dX4_append_17 : decode cX4_append 17 = .ok (.getfield 15, 3) := by decide +kernel
theorem dX4_append_20 : decode cX4_append 20 = .ok (.iload_n 1, 1) := by decide +kernel
theorem dX4_append_21 : decode cX4_append 21 = .ok (.castore, 1) := by decide +kernel
theorem dX4_append_22 : decode cX4_append 22 = .ok (.aload_n 0, 1) := by decide +kernel
theorem dX4_append_23 : decode cX4_append 23 = .ok (.dup, 1) := by decide +kernel
theorem dX4_append_24 : decode cX4_append 24 = .ok (.getfield 15, 3) := by decide +kernel
theorem dX4_append_27 : decode cX4_append 27 = .ok (.iconst 1, 1) := by decide +kernel
theorem dX4_append_28 : decode cX4_append 28 = .ok (.iadd, 1) := by decide +kernel
theorem dX4_append_29 : decode cX4_append 29 = .ok (.putfield 15, 3) := by decide +kernel
theorem dX4_append_32 : decode cX4_append 32 = .ok (.iconst 1, 1) := by decide +kernel
theorem dX4_append_33 : decode cX4_append 33 = .ok (.ireturn, 1) := by decide +kernel
theorem dX4_read_0 : decode cX4_read 0 = .ok (.aload_n 2, 1) := by decide +kernel
theorem dX4_read_1 : decode cX4_read 1 = .ok (.aload_n 1, 1) := by decide +kernel
theorem dX4_read_2 : decode cX4_read 2 = .ok (.invokevirtual 22, 3) := by decide +kernel
theorem dX4_read_5 : decode cX4_read 5 = .ok (.aload_n 0, 1) := by decide +kernel
theorem dX4_read_6 : decode cX4_read 6 = .ok (.iconst 0, 1) := by decide +kernel
theorem dX4_read_7 : decode cX4_read 7 = .ok (.putfield 19, 3) := by decide +kernel
theorem dX4_read_10 : decode cX4_read 10 = .ok (.aload_n 0, 1) := by decide +kernel
theorem dX4_read_11 : decode cX4_read 11 = .ok (.iconst 0, 1) := by decide +kernel
theorem dX4_read_12 : decode cX4_read 12 = .ok (.putfield 28, 3) := by decide +kernel
theorem dX4_read_15 : decode cX4_read 15 = .ok (.aload_n 0, 1) := by decide +kernel
theorem dX4_read_16 : decode cX4_read 16 = .ok (.invokevirtual 31, 3) := by decide +kernel
theorem dX4_read_19 : decode cX4_read 19 = .ok (.iconst 1, 1) := by decide +kernel
theorem dX4_read_20 : decode cX4_read 20 = .ok (.istore_n 3, 1) := by decide +kernel
theorem dX4_read_21 : decode cX4_read 21 = .ok (.iload_n 3, 1) := by decide +kernel
theorem dX4_read_22 : decode cX4_read 22 = .ok (.bipush 24, 2) := by decide +kernel
theorem dX4_read_24 : decode cX4_read 24 = .ok (.if_icmp .gt 65, 3) := by decide +kernel
theorem dX4_read_27 : decode cX4_read 27 = .ok (.aload_n 0, 1) := by decide +kernel
theorem dX4_read_28 : decode cX4_read 28 = .ok (.aload_n 2, 1) := by decide +kernel
theorem dX4_read_29 : decode cX4_read 29 = .ok (.invokevirtual 34, 3) := by decide +kernel
theorem dX4_read_32 : decode cX4_read 32 = .ok (.ifCond .ne 8, 3) := by decide +kernel
theorem dX4_read_35 : decode cX4_read 35 = .ok (.aload_n 0, 1) := by decide +kernel
theorem dX4_read_36 : decode cX4_read 36 = .ok (.getfield 38, 3) := by decide +kernel
theorem dX4_read_39 : decode cX4_read 39 = .ok (.ireturn, 1) := by decide +kernel
theorem dX4_read_40 : decode cX4_read 40 = .ok (.aload_n 0, 1) := by decide +kernel
theorem dX4_read_41 : decode cX4_read 41 = .ok (.iload_n 3, 1) := by decide +kernel
theorem dX4_read_42 : decode cX4_read 42 = .ok (.putfield 19, 3) := by decide +kernel
theorem dX4_read_45 : decode cX4_read 45 = .ok (.aload_n 0, 1) := by decide +kernel
theorem dX4_read_46 : decode cX4_read 46 = .ok (.invokevirtual 41, 3) := by decide +kernel
theorem dX4_read_49 : decode cX4_read 49 = .ok (.ifCond .eq 5, 3) := by decide +kernel
theorem dX4_read_52 : decode cX4_read 52 = .ok (.iconst (-1), 1) := by decide +kernel
theorem dX4_read_53 : decode cX4_read 53 = .ok (.ireturn, 1) := by decide +kernel
theorem dX4_read_54 : decode cX4_read 54 = .ok (.aload_n 0, 1) := by decide +kernel
theorem dX4_read_55 : decode cX4_read 55 = .ok (.getfield 9, 3) := by decide +kernel
theorem dX4_read_58 : decode cX4_read 58 = .ok (.aload_n 0, 1) := by decide +kernel
theorem dX4_read_59 : decode cX4_read 59 = .ok (.getfield 38, 3) := by decide +kernel
theorem dX4_read_62 : decode cX4_read 62 = .ok (.caload, 1) := by decide +kernel
theorem dX4_read_63 : decode cX4_read 63 = .ok (.bipush 59, 2) := by decide +kernel
theorem dX4_read_65 : decode cX4_read 65 = .ok (.if_icmp .ne 9, 3) := by decide +kernel
theorem dX4_read_68 : decode cX4_read 68 = .ok (.iload_n 3, 1) := by decide +kernel
theorem dX4_read_69 : decode cX4_read 69 = .ok (.bipush 24, 2) := by decide +kernel
theorem dX4_read_71 : decode cX4_read 71 = .ok (.if_icmp .ne 8, 3) := by decide +kernel
theorem dX4_read_74 : decode cX4_read 74 = .ok (.aload_n 0, 1) := by decide +kernel
theorem dX4_read_75 : decode cX4_read 75 = .ok (.getfield 38, 3) := by decide +kernel
theorem dX4_read_78 : decode cX4_read 78 = .ok (.ireturn, 1) := by decide +kernel
theorem dX4_read_79 : decode cX4_read 79 = .ok (.aload_n 0, 1) := by decide +kernel
theorem dX4_read_80 : decode cX4_read 80 = .ok (.invokevirtual 31, 3) := by decide +kernel
theorem dX4_read_83 : decode cX4_read 83 = .ok (.iinc 3 1, 3) := by decide +kernel
theorem dX4_read_86 : decode cX4_read 86 = .ok (.goto (-65), 3) := by decide +kernel
theorem dX4_read_89 : decode cX4_read 89 = .ok (.aload_n 0, 1) := by decide +kernel
theorem dX4_read_90 : decode cX4_read 90 = .ok (.getfield 38, 3) := by decide +kernel
theorem dX4_read_93 : decode cX4_read 93 = .ok (.ireturn, 1) := by decide +kernel
theorem dX4_isAtEnd_0 : decode cX4_isAtEnd 0 = .ok (.aload_n 0, 1) := by decide +kernel
theorem dX4_isAtEnd_1 : decode cX4_isAtEnd 1 = .ok (.getfield 38, 3) := by decide +kernel
theorem dX4_isAtEnd_4 : decode cX4_isAtEnd 4 = .ok (.aload_n 0, 1) := by decide +kernel
theorem dX4_isAtEnd_5 : decode cX4_isAtEnd 5 = .ok (.getfield 15, 3) := by decide +kernel
theorem dX4_isAtEnd_8 : decode cX4_isAtEnd 8 = .ok (.if_icmp .lt 7, 3) := by decide +kernel
theorem dX4_isAtEnd_11 : decode cX4_isAtEnd 11 = .ok (.iconst 1, 1) := by decide +kernel
theorem dX4_isAtEnd_12 : decode cX4_isAtEnd 12 = .ok (.goto 4, 3) := by decide +kernel
theorem dX4_isAtEnd_15 : decode cX4_isAtEnd 15 = .ok (.iconst 0, 1) := by decide +kernel
theorem dX4_isAtEnd_16 : decode cX4_isAtEnd 16 = .ok (.ireturn, 1) := by decide +kernel
theorem dX4_advance_0 : decode cX4_advance 0 = .ok (.aload_n 0, 1) := by decide +kernel
theorem dX4_advance_1 : decode cX4_advance 1 = .ok (.aload_n 0, 1) := by decide +kernel
theorem dX4_advance_2 : decode cX4_advance 2 = .ok (.getfield 28, 3) := by decide +kernel
theorem dX4_advance_5 : decode cX4_advance 5 = .ok (.putfield 38, 3) := by decide +kernel
theorem dX4_advance_8 : decode cX4_advance 8 = .ok (.aload_n 0, 1) := by decide +kernel
theorem dX4_advance_9 : decode cX4_advance 9 = .ok (.getfield 38, 3) := by decide +kernel
theorem dX4_advance_12 : decode cX4_advance 12 = .ok (.aload_n 0, 1) := by decide +kernel
theorem dX4_advance_13 : decode cX4_advance 13 = .ok (.getfield 15, 3) := by decide +kernel
theorem dX4_advance_16 : decode cX4_advance 16 = .ok (.if_icmp .ge 30, 3) := by decide +kernel
theorem dX4_advance_19 : decode cX4_advance 19 = .ok (.aload_n 0, 1) := by decide +kernel
theorem dX4_advance_20 : decode cX4_advance 20 = .ok (.getfield 9, 3) := by decide +kernel
theorem dX4_advance_23 : decode cX4_advance 23 = .ok (.aload_n 0, 1) := by decide +kernel
theorem dX4_advance_24 : decode cX4_advance 24 = .ok (.getfield 38, 3) := by decide +kernel
theorem dX4_advance_27 : decode cX4_advance 27 = .ok (.caload, 1) := by decide +kernel
theorem dX4_advance_28 : decode cX4_advance 28 = .ok (.bipush 32, 2) := by decide +kernel
theorem dX4_advance_30 : decode cX4_advance 30 = .ok (.if_icmp .ne 16, 3) := by decide +kernel
theorem dX4_advance_33 : decode cX4_advance 33 = .ok (.aload_n 0, 1) := by decide +kernel
theorem dX4_advance_34 : decode cX4_advance 34 = .ok (.dup, 1) := by decide +kernel
theorem dX4_advance_35 : decode cX4_advance 35 = .ok (.getfield 38, 3) := by decide +kernel
theorem dX4_advance_38 : decode cX4_advance 38 = .ok (.iconst 1, 1) := by decide +kernel
theorem dX4_advance_39 : decode cX4_advance 39 = .ok (.iadd, 1) := by decide +kernel
theorem dX4_advance_40 : decode cX4_advance 40 = .ok (.putfield 38, 3) := by decide +kernel
theorem dX4_advance_43 : decode cX4_advance 43 = .ok (.goto (-35), 3) := by decide +kernel
theorem dX4_advance_46 : decode cX4_advance 46 = .ok (.aload_n 0, 1) := by decide +kernel
theorem dX4_advance_47 : decode cX4_advance 47 = .ok (.aload_n 0, 1) := by decide +kernel
theorem dX4_advance_48 : decode cX4_advance 48 = .ok (.getfield 38, 3) := by decide +kernel
theorem dX4_advance_51 : decode cX4_advance 51 = .ok (.putfield 28, 3) := by decide +kernel
theorem dX4_advance_54 : decode cX4_advance 54 = .ok (.aload_n 0, 1) := by decide +kernel
theorem dX4_advance_55 : decode cX4_advance 55 = .ok (.invokevirtual 41, 3) := by decide +kernel
theorem dX4_advance_58 : decode cX4_advance 58 = .ok (.ifCond .eq 4, 3) := by decide +kernel
theorem dX4_advance_61 : decode cX4_advance 61 = .ok (.return_, 1) := by decide +kernel
theorem dX4_advance_62 : decode cX4_advance 62 = .ok (.aload_n 0, 1) := by decide +kernel
theorem dX4_advance_63 : decode cX4_advance 63 = .ok (.getfield 9, 3) := by decide +kernel
theorem dX4_advance_66 : decode cX4_advance 66 = .ok (.aload_n 0, 1) := by decide +kernel
theorem dX4_advance_67 : decode cX4_advance 67 = .ok (.getfield 38, 3) := by decide +kernel
theorem dX4_advance_70 : decode cX4_advance 70 = .ok (.caload, 1) := by decide +kernel
theorem dX4_advance_71 : decode cX4_advance 71 = .ok (.istore_n 1, 1) := by decide +kernel
theorem dX4_advance_72 : decode cX4_advance 72 = .ok (.aload_n 0, 1) := by decide +kernel
theorem dX4_advance_73 : decode cX4_advance 73 = .ok (.dup, 1) := by decide +kernel
theorem dX4_advance_74 : decode cX4_advance 74 = .ok (.getfield 28, 3) := by decide +kernel
theorem dX4_advance_77 : decode cX4_advance 77 = .ok (.iconst 1, 1) := by decide +kernel
theorem dX4_advance_78 : decode cX4_advance 78 = .ok (.iadd, 1) := by decide +kernel
theorem dX4_advance_79 : decode cX4_advance 79 = .ok (.putfield 28, 3) := by decide +kernel
theorem dX4_advance_82 : decode cX4_advance 82 = .ok (.iload_n 1, 1) := by decide +kernel
theorem dX4_advance_83 : decode cX4_advance 83 = .ok (.invokestatic 45, 3) := by decide +kernel
theorem dX4_advance_86 : decode cX4_advance 86 = .ok (.ifCond .ne 11, 3) := by decide +kernel
theorem dX4_advance_89 : decode cX4_advance 89 = .ok (.iload_n 1, 1) := by decide +kernel
theorem dX4_advance_90 : decode cX4_advance 90 = .ok (.invokestatic 49, 3) := by decide +kernel
theorem dX4_advance_93 : decode cX4_advance 93 = .ok (.ifCond .ne 4, 3) := by decide +kernel
theorem dX4_advance_96 : decode cX4_advance 96 = .ok (.return_, 1) := by decide +kernel
theorem dX4_advance_97 : decode cX4_advance 97 = .ok (.aload_n 0, 1) := by decide +kernel
theorem dX4_advance_98 : decode cX4_advance 98 = .ok (.getfield 28, 3) := by decide +kernel
theorem dX4_advance_101 : decode cX4_advance 101 = .ok (.aload_n 0, 1) := by decide +kernel
theorem dX4_advance_102 : decode cX4_advance 102 = .ok (.getfield 15, 3) := by decide +kernel
theorem dX4_advance_105 : decode cX4_advance 105 = .ok (.if_icmp .ge 54, 3) := by decide +kernel
theorem dX4_advance_108 : decode cX4_advance 108 = .ok (.aload_n 0, 1) := by decide +kernel
theorem dX4_advance_109 : decode cX4_advance 109 = .ok (.getfield 9, 3) := by decide +kernel
theorem dX4_advance_112 : decode cX4_advance 112 = .ok (.aload_n 0, 1) := by decide +kernel
theorem dX4_advance_113 : decode cX4_advance 113 = .ok (.getfield 28, 3) := by decide +kernel
theorem dX4_advance_116 : decode cX4_advance 116 = .ok (.caload, 1) := by decide +kernel
theorem dX4_advance_117 : decode cX4_advance 117 = .ok (.invokestatic 45, 3) := by decide +kernel
theorem dX4_advance_120 : decode cX4_advance 120 = .ok (.iload_n 1, 1) := by decide +kernel
theorem dX4_advance_121 : decode cX4_advance 121 = .ok (.invokestatic 45, 3) := by decide +kernel
theorem dX4_advance_124 : decode cX4_advance 124 = .ok (.if_icmp .ne 35, 3) := by decide +kernel
theorem dX4_advance_127 : decode cX4_advance 127 = .ok (.aload_n 0, 1) := by decide +kernel
theorem dX4_advance_128 : decode cX4_advance 128 = .ok (.getfield 9, 3) := by decide +kernel
theorem dX4_advance_131 : decode cX4_advance 131 = .ok (.aload_n 0, 1) := by decide +kernel
theorem dX4_advance_132 : decode cX4_advance 132 = .ok (.getfield 28, 3) := by decide +kernel
theorem dX4_advance_135 : decode cX4_advance 135 = .ok (.caload, 1) := by decide +kernel
theorem dX4_advance_136 : decode cX4_advance 136 = .ok (.invokestatic 49, 3) := by decide +kernel
theorem dX4_advance_139 : decode cX4_advance 139 = .ok (.iload_n 1, 1) := by decide +kernel
theorem dX4_advance_140 : decode cX4_advance 140 = .ok (.invokestatic 49, 3) := by decide +kernel
theorem dX4_advance_143 : decode cX4_advance 143 = .ok (.if_icmp .ne 16, 3) := by decide +kernel
theorem dX4_advance_146 : decode cX4_advance 146 = .ok (.aload_n 0, 1) := by decide +kernel
theorem dX4_advance_147 : decode cX4_advance 147 = .ok (.dup, 1) := by decide +kernel
theorem dX4_advance_148 : decode cX4_advance 148 = .ok (.getfield 28, 3) := by decide +kernel
theorem dX4_advance_151 : decode cX4_advance 151 = .ok (.iconst 1, 1) := by decide +kernel
theorem dX4_advance_152 : decode cX4_advance 152 = .ok (.iadd, 1) := by decide +kernel
theorem dX4_advance_153 : decode cX4_advance 153 = .ok (.putfield 28, 3) := by decide +kernel
theorem dX4_advance_156 : decode cX4_advance 156 = .ok (.goto (-59), 3) := by decide +kernel
theorem dX4_advance_159 : decode cX4_advance 159 = .ok (.return_, 1) := by decide +kernel
theorem dX4_isSmall_0 : decode cX4_isSmall 0 = .ok (.iload_n 0, 1) := by decide +kernel
theorem dX4_isSmall_1 : decode cX4_isSmall 1 = .ok (.bipush 97, 2) := by decide +kernel
theorem dX4_isSmall_3 : decode cX4_isSmall 3 = .ok (.if_icmp .lt 13, 3) := by decide +kernel
theorem dX4_isSmall_6 : decode cX4_isSmall 6 = .ok (.iload_n 0, 1) := by decide +kernel
theorem dX4_isSmall_7 : decode cX4_isSmall 7 = .ok (.bipush 122, 2) := by decide +kernel
theorem dX4_isSmall_9 : decode cX4_isSmall 9 = .ok (.if_icmp .gt 7, 3) := by decide +kernel
theorem dX4_isSmall_12 : decode cX4_isSmall 12 = .ok (.iconst 1, 1) := by decide +kernel
theorem dX4_isSmall_13 : decode cX4_isSmall 13 = .ok (.goto 4, 3) := by decide +kernel
theorem dX4_isSmall_16 : decode cX4_isSmall 16 = .ok (.iconst 0, 1) := by decide +kernel
theorem dX4_isSmall_17 : decode cX4_isSmall 17 = .ok (.ireturn, 1) := by decide +kernel
theorem dX4_isDigit_0 : decode cX4_isDigit 0 = .ok (.iload_n 0, 1) := by decide +kernel
theorem dX4_isDigit_1 : decode cX4_isDigit 1 = .ok (.bipush 48, 2) := by decide +kernel
theorem dX4_isDigit_3 : decode cX4_isDigit 3 = .ok (.if_icmp .lt 13, 3) := by decide +kernel
theorem dX4_isDigit_6 : decode cX4_isDigit 6 = .ok (.iload_n 0, 1) := by decide +kernel
theorem dX4_isDigit_7 : decode cX4_isDigit 7 = .ok (.bipush 57, 2) := by decide +kernel
theorem dX4_isDigit_9 : decode cX4_isDigit 9 = .ok (.if_icmp .gt 7, 3) := by decide +kernel
theorem dX4_isDigit_12 : decode cX4_isDigit 12 = .ok (.iconst 1, 1) := by decide +kernel
theorem dX4_isDigit_13 : decode cX4_isDigit 13 = .ok (.goto 4, 3) := by decide +kernel
theorem dX4_isDigit_16 : decode cX4_isDigit 16 = .ok (.iconst 0, 1) := by decide +kernel
theorem dX4_isDigit_17 : decode cX4_isDigit 17 = .ok (.ireturn, 1) := by decide +kernel
theorem dX4_readClause_0 : decode cX4_readClause 0 = .ok (.aload_n 0, 1) := by decide +kernel
theorem dX4_readClause_1 : decode cX4_readClause 1 = .ok (.invokevirtual 52, 3) := by decide +kernel
theorem dX4_readClause_4 : decode cX4_readClause 4 = .ok (.istore_n 2, 1) := by decide +kernel
theorem dX4_readClause_5 : decode cX4_readClause 5 = .ok (.iload_n 2, 1) := by decide +kernel
theorem dX4_readClause_6 : decode cX4_readClause 6 = .ok (.iconst (-1), 1) := by decide +kernel
theorem dX4_readClause_7 : decode cX4_readClause 7 = .ok (.if_icmp .ne 5, 3) := by decide +kernel
theorem dX4_readClause_10 : decode cX4_readClause 10 = .ok (.iconst 0, 1) := by decide +kernel
theorem dX4_readClause_11 : decode cX4_readClause 11 = .ok (.ireturn, 1) := by decide +kernel
theorem dX4_readClause_12 : decode cX4_readClause 12 = .ok (.getstatic 56, 3) := by decide +kernel
theorem dX4_readClause_15 : decode cX4_readClause 15 = .ok (.iload_n 2, 1) := by decide +kernel
theorem dX4_readClause_16 : decode cX4_readClause 16 = .ok (.aaload, 1) := by decide +kernel
theorem dX4_readClause_17 : decode cX4_readClause 17 = .ok (.astore_n 3, 1) := by decide +kernel
theorem dX4_readClause_18 : decode cX4_readClause 18 = .ok (.aload_n 3, 1) := by decide +kernel
theorem dX4_readClause_19 : decode cX4_readClause 19 = .ok (.getstatic 60, 3) := by decide +kernel
theorem dX4_readClause_22 : decode cX4_readClause 22 = .ok (.if_acmp .ne 24, 3) := by decide +kernel
theorem dX4_readClause_25 : decode cX4_readClause 25 = .ok (.aload_n 1, 1) := by decide +kernel
theorem dX4_readClause_26 : decode cX4_readClause 26 = .ok (.invokevirtual 66, 3) := by decide +kernel
theorem dX4_readClause_29 : decode cX4_readClause 29 = .ok (.ifCond .ne 15, 3) := by decide +kernel
theorem dX4_readClause_32 : decode cX4_readClause 32 = .ok (.aload_n 0, 1) := by decide +kernel
theorem dX4_readClause_33 : decode cX4_readClause 33 = .ok (.aload_n 1, 1) := by decide +kernel
theorem dX4_readClause_34 : decode cX4_readClause 34 = .ok (.invokevirtual 69, 3) := by decide +kernel
theorem dX4_readClause_37 : decode cX4_readClause 37 = .ok (.ifCond .eq 7, 3) := by decide +kernel
theorem dX4_readClause_40 : decode cX4_readClause 40 = .ok (.iconst 1, 1) := by decide +kernel
theorem dX4_readClause_41 : decode cX4_readClause 41 = .ok (.goto 4, 3) := by decide +kernel
theorem dX4_readClause_44 : decode cX4_readClause 44 = .ok (.iconst 0, 1) := by decide +kernel
theorem dX4_readClause_45 : decode cX4_readClause 45 = .ok (.ireturn, 1) := by decide +kernel
theorem dX4_readClause_46 : decode cX4_readClause 46 = .ok (.aload_n 0, 1) := by decide +kernel
theorem dX4_readClause_47 : decode cX4_readClause 47 = .ok (.invokevirtual 31, 3) := by decide +kernel
theorem dX4_readClause_50 : decode cX4_readClause 50 = .ok (.aload_n 0, 1) := by decide +kernel
theorem dX4_readClause_51 : decode cX4_readClause 51 = .ok (.aload_n 3, 1) := by decide +kernel
theorem dX4_readClause_52 : decode cX4_readClause 52 = .ok (.getfield 72, 3) := by decide +kernel
theorem dX4_readClause_55 : decode cX4_readClause 55 = .ok (.aload_n 3, 1) := by decide +kernel
theorem dX4_readClause_56 : decode cX4_readClause 56 = .ok (.getfield 75, 3) := by decide +kernel
theorem dX4_readClause_59 : decode cX4_readClause 59 = .ok (.invokevirtual 78, 3) := by decide +kernel
theorem dX4_readClause_62 : decode cX4_readClause 62 = .ok (.istore 4, 2) := by decide +kernel
theorem dX4_readClause_64 : decode cX4_readClause 64 = .ok (.iload 4, 2) := by decide +kernel
theorem dX4_readClause_66 : decode cX4_readClause 66 = .ok (.iconst (-1), 1) := by decide +kernel
theorem dX4_readClause_67 : decode cX4_readClause 67 = .ok (.if_icmp .ne 5, 3) := by decide +kernel
theorem dX4_readClause_70 : decode cX4_readClause 70 = .ok (.iconst 0, 1) := by decide +kernel
theorem dX4_readClause_71 : decode cX4_readClause 71 = .ok (.ireturn, 1) := by decide +kernel
theorem dX4_readClause_72 : decode cX4_readClause 72 = .ok (.aload_n 1, 1) := by decide +kernel
theorem dX4_readClause_73 : decode cX4_readClause 73 = .ok (.aload_n 3, 1) := by decide +kernel
theorem dX4_readClause_74 : decode cX4_readClause 74 = .ok (.iload 4, 2) := by decide +kernel
theorem dX4_readClause_76 : decode cX4_readClause 76 = .ok (.invokevirtual 82, 3) := by decide +kernel
theorem dX4_readClause_79 : decode cX4_readClause 79 = .ok (.iconst 1, 1) := by decide +kernel
theorem dX4_readClause_80 : decode cX4_readClause 80 = .ok (.ireturn, 1) := by decide +kernel
theorem dX4_readPath_0 : decode cX4_readPath 0 = .ok (.aload_n 0, 1) := by decide +kernel
theorem dX4_readPath_1 : decode cX4_readPath 1 = .ok (.invokevirtual 31, 3) := by decide +kernel
theorem dX4_readPath_4 : decode cX4_readPath 4 = .ok (.aload_n 0, 1) := by decide +kernel
theorem dX4_readPath_5 : decode cX4_readPath 5 = .ok (.iconst 0, 1) := by decide +kernel
theorem dX4_readPath_6 : decode cX4_readPath 6 = .ok (.aload_n 1, 1) := by decide +kernel
theorem dX4_readPath_7 : decode cX4_readPath 7 = .ok (.getfield 86, 3) := by decide +kernel
theorem dX4_readPath_10 : decode cX4_readPath 10 = .ok (.iconst 1, 1) := by decide +kernel
theorem dX4_readPath_11 : decode cX4_readPath 11 = .ok (.isub, 1) := by decide +kernel
theorem dX4_readPath_12 : decode cX4_readPath 12 = .ok (.invokevirtual 78, 3) := by decide +kernel
theorem dX4_readPath_15 : decode cX4_readPath 15 = .ok (.istore_n 2, 1) := by decide +kernel
theorem dX4_readPath_16 : decode cX4_readPath 16 = .ok (.iload_n 2, 1) := by decide +kernel
theorem dX4_readPath_17 : decode cX4_readPath 17 = .ok (.iconst (-1), 1) := by decide +kernel
theorem dX4_readPath_18 : decode cX4_readPath 18 = .ok (.if_icmp .ne 5, 3) := by decide +kernel
theorem dX4_readPath_21 : decode cX4_readPath 21 = .ok (.iconst 0, 1) := by decide +kernel
theorem dX4_readPath_22 : decode cX4_readPath 22 = .ok (.ireturn, 1) := by decide +kernel
theorem dX4_readPath_23 : decode cX4_readPath 23 = .ok (.aload_n 0, 1) := by decide +kernel
theorem dX4_readPath_24 : decode cX4_readPath 24 = .ok (.iconst 0, 1) := by decide +kernel
theorem dX4_readPath_25 : decode cX4_readPath 25 = .ok (.aload_n 1, 1) := by decide +kernel
theorem dX4_readPath_26 : decode cX4_readPath 26 = .ok (.getfield 86, 3) := by decide +kernel
theorem dX4_readPath_29 : decode cX4_readPath 29 = .ok (.iconst 1, 1) := by decide +kernel
theorem dX4_readPath_30 : decode cX4_readPath 30 = .ok (.isub, 1) := by decide +kernel
theorem dX4_readPath_31 : decode cX4_readPath 31 = .ok (.invokevirtual 78, 3) := by decide +kernel
theorem dX4_readPath_34 : decode cX4_readPath 34 = .ok (.istore_n 3, 1) := by decide +kernel
theorem dX4_readPath_35 : decode cX4_readPath 35 = .ok (.iload_n 3, 1) := by decide +kernel
theorem dX4_readPath_36 : decode cX4_readPath 36 = .ok (.iconst (-1), 1) := by decide +kernel
theorem dX4_readPath_37 : decode cX4_readPath 37 = .ok (.if_icmp .ne 5, 3) := by decide +kernel
theorem dX4_readPath_40 : decode cX4_readPath 40 = .ok (.iconst 0, 1) := by decide +kernel
theorem dX4_readPath_41 : decode cX4_readPath 41 = .ok (.ireturn, 1) := by decide +kernel
theorem dX4_readPath_42 : decode cX4_readPath 42 = .ok (.aload_n 0, 1) := by decide +kernel
theorem dX4_readPath_43 : decode cX4_readPath 43 = .ok (.iconst 0, 1) := by decide +kernel
theorem dX4_readPath_44 : decode cX4_readPath 44 = .ok (.bipush 99, 2) := by decide +kernel
theorem dX4_readPath_46 : decode cX4_readPath 46 = .ok (.invokevirtual 78, 3) := by decide +kernel
theorem dX4_readPath_49 : decode cX4_readPath 49 = .ok (.istore 4, 2) := by decide +kernel
theorem dX4_readPath_51 : decode cX4_readPath 51 = .ok (.iload 4, 2) := by decide +kernel
theorem dX4_readPath_53 : decode cX4_readPath 53 = .ok (.iconst (-1), 1) := by decide +kernel
theorem dX4_readPath_54 : decode cX4_readPath 54 = .ok (.if_icmp .ne 5, 3) := by decide +kernel
theorem dX4_readPath_57 : decode cX4_readPath 57 = .ok (.iconst 0, 1) := by decide +kernel
theorem dX4_readPath_58 : decode cX4_readPath 58 = .ok (.ireturn, 1) := by decide +kernel
theorem dX4_readPath_59 : decode cX4_readPath 59 = .ok (.aload_n 0, 1) := by decide +kernel
theorem dX4_readPath_60 : decode cX4_readPath 60 = .ok (.iconst 0, 1) := by decide +kernel
theorem dX4_readPath_61 : decode cX4_readPath 61 = .ok (.iload 4, 2) := by decide +kernel
theorem dX4_readPath_63 : decode cX4_readPath 63 = .ok (.invokevirtual 78, 3) := by decide +kernel
theorem dX4_readPath_66 : decode cX4_readPath 66 = .ok (.istore 5, 2) := by decide +kernel
theorem dX4_readPath_68 : decode cX4_readPath 68 = .ok (.iload 5, 2) := by decide +kernel
theorem dX4_readPath_70 : decode cX4_readPath 70 = .ok (.iconst (-1), 1) := by decide +kernel
theorem dX4_readPath_71 : decode cX4_readPath 71 = .ok (.if_icmp .ne 5, 3) := by decide +kernel
theorem dX4_readPath_74 : decode cX4_readPath 74 = .ok (.iconst 0, 1) := by decide +kernel
theorem dX4_readPath_75 : decode cX4_readPath 75 = .ok (.ireturn, 1) := by decide +kernel
theorem dX4_readPath_76 : decode cX4_readPath 76 = .ok (.aload_n 1, 1) := by decide +kernel
theorem dX4_readPath_77 : decode cX4_readPath 77 = .ok (.iload_n 2, 1) := by decide +kernel
theorem dX4_readPath_78 : decode cX4_readPath 78 = .ok (.iload_n 3, 1) := by decide +kernel
theorem dX4_readPath_79 : decode cX4_readPath 79 = .ok (.iload 4, 2) := by decide +kernel
theorem dX4_readPath_81 : decode cX4_readPath 81 = .ok (.iload 5, 2) := by decide +kernel
theorem dX4_readPath_83 : decode cX4_readPath 83 = .ok (.invokevirtual 89, 3) := by decide +kernel
theorem dX4_readPath_86 : decode cX4_readPath 86 = .ok (.iconst 1, 1) := by decide +kernel
theorem dX4_readPath_87 : decode cX4_readPath 87 = .ok (.ireturn, 1) := by decide +kernel
theorem dX4_wordHere_0 : decode cX4_wordHere 0 = .ok (.iconst 0, 1) := by decide +kernel
theorem dX4_wordHere_1 : decode cX4_wordHere 1 = .ok (.istore_n 1, 1) := by decide +kernel
theorem dX4_wordHere_2 : decode cX4_wordHere 2 = .ok (.iload_n 1, 1) := by decide +kernel
theorem dX4_wordHere_3 : decode cX4_wordHere 3 = .ok (.getstatic 56, 3) := by decide +kernel
theorem dX4_wordHere_6 : decode cX4_wordHere 6 = .ok (.arraylength, 1) := by decide +kernel
theorem dX4_wordHere_7 : decode cX4_wordHere 7 = .ok (.if_icmp .ge 26, 3) := by decide +kernel
theorem dX4_wordHere_10 : decode cX4_wordHere 10 = .ok (.aload_n 0, 1) := by decide +kernel
theorem dX4_wordHere_11 : decode cX4_wordHere 11 = .ok (.getstatic 56, 3) := by decide +kernel
theorem dX4_wordHere_14 : decode cX4_wordHere 14 = .ok (.iload_n 1, 1) := by decide +kernel
theorem dX4_wordHere_15 : decode cX4_wordHere 15 = .ok (.aaload, 1) := by decide +kernel
theorem dX4_wordHere_16 : decode cX4_wordHere 16 = .ok (.getfield 93, 3) := by decide +kernel
theorem dX4_wordHere_19 : decode cX4_wordHere 19 = .ok (.invokevirtual 97, 3) := by decide +kernel
theorem dX4_wordHere_22 : decode cX4_wordHere 22 = .ok (.ifCond .eq 5, 3) := by decide +kernel
theorem dX4_wordHere_25 : decode cX4_wordHere 25 = .ok (.iload_n 1, 1) := by decide +kernel
theorem dX4_wordHere_26 : decode cX4_wordHere 26 = .ok (.ireturn, 1) := by decide +kernel
theorem dX4_wordHere_27 : decode cX4_wordHere 27 = .ok (.iinc 1 1, 3) := by decide +kernel
theorem dX4_wordHere_30 : decode cX4_wordHere 30 = .ok (.goto (-28), 3) := by decide +kernel
theorem dX4_wordHere_33 : decode cX4_wordHere 33 = .ok (.iconst (-1), 1) := by decide +kernel
theorem dX4_wordHere_34 : decode cX4_wordHere 34 = .ok (.ireturn, 1) := by decide +kernel
theorem dX4_isSpelled_0 : decode cX4_isSpelled 0 = .ok (.aload_n 0, 1) := by decide +kernel
theorem dX4_isSpelled_1 : decode cX4_isSpelled 1 = .ok (.getfield 28, 3) := by decide +kernel
theorem dX4_isSpelled_4 : decode cX4_isSpelled 4 = .ok (.aload_n 0, 1) := by decide +kernel
theorem dX4_isSpelled_5 : decode cX4_isSpelled 5 = .ok (.getfield 38, 3) := by decide +kernel
theorem dX4_isSpelled_8 : decode cX4_isSpelled 8 = .ok (.isub, 1) := by decide +kernel
theorem dX4_isSpelled_9 : decode cX4_isSpelled 9 = .ok (.aload_n 1, 1) := by decide +kernel
theorem dX4_isSpelled_10 : decode cX4_isSpelled 10 = .ok (.invokevirtual 101, 3) := by decide +kernel
theorem dX4_isSpelled_13 : decode cX4_isSpelled 13 = .ok (.if_icmp .eq 5, 3) := by decide +kernel
theorem dX4_isSpelled_16 : decode cX4_isSpelled 16 = .ok (.iconst 0, 1) := by decide +kernel
theorem dX4_isSpelled_17 : decode cX4_isSpelled 17 = .ok (.ireturn, 1) := by decide +kernel
theorem dX4_isSpelled_18 : decode cX4_isSpelled 18 = .ok (.iconst 0, 1) := by decide +kernel
theorem dX4_isSpelled_19 : decode cX4_isSpelled 19 = .ok (.istore_n 2, 1) := by decide +kernel
theorem dX4_isSpelled_20 : decode cX4_isSpelled 20 = .ok (.iload_n 2, 1) := by decide +kernel
theorem dX4_isSpelled_21 : decode cX4_isSpelled 21 = .ok (.aload_n 1, 1) := by decide +kernel
theorem dX4_isSpelled_22 : decode cX4_isSpelled 22 = .ok (.invokevirtual 101, 3) := by decide +kernel
theorem dX4_isSpelled_25 : decode cX4_isSpelled 25 = .ok (.if_icmp .ge 30, 3) := by decide +kernel
theorem dX4_isSpelled_28 : decode cX4_isSpelled 28 = .ok (.aload_n 0, 1) := by decide +kernel
theorem dX4_isSpelled_29 : decode cX4_isSpelled 29 = .ok (.getfield 9, 3) := by decide +kernel
theorem dX4_isSpelled_32 : decode cX4_isSpelled 32 = .ok (.aload_n 0, 1) := by decide +kernel
theorem dX4_isSpelled_33 : decode cX4_isSpelled 33 = .ok (.getfield 38, 3) := by decide +kernel
theorem dX4_isSpelled_36 : decode cX4_isSpelled 36 = .ok (.iload_n 2, 1) := by decide +kernel
theorem dX4_isSpelled_37 : decode cX4_isSpelled 37 = .ok (.iadd, 1) := by decide +kernel
theorem dX4_isSpelled_38 : decode cX4_isSpelled 38 = .ok (.caload, 1) := by decide +kernel
theorem dX4_isSpelled_39 : decode cX4_isSpelled 39 = .ok (.aload_n 1, 1) := by decide +kernel
theorem dX4_isSpelled_40 : decode cX4_isSpelled 40 = .ok (.iload_n 2, 1) := by decide +kernel
theorem dX4_isSpelled_41 : decode cX4_isSpelled 41 = .ok (.invokevirtual 105, 3) := by decide +kernel
theorem dX4_isSpelled_44 : decode cX4_isSpelled 44 = .ok (.if_icmp .eq 5, 3) := by decide +kernel
theorem dX4_isSpelled_47 : decode cX4_isSpelled 47 = .ok (.iconst 0, 1) := by decide +kernel
theorem dX4_isSpelled_48 : decode cX4_isSpelled 48 = .ok (.ireturn, 1) := by decide +kernel
theorem dX4_isSpelled_49 : decode cX4_isSpelled 49 = .ok (.iinc 2 1, 3) := by decide +kernel
theorem dX4_isSpelled_52 : decode cX4_isSpelled 52 = .ok (.goto (-32), 3) := by decide +kernel
theorem dX4_isSpelled_55 : decode cX4_isSpelled 55 = .ok (.iconst 1, 1) := by decide +kernel
theorem dX4_isSpelled_56 : decode cX4_isSpelled 56 = .ok (.ireturn, 1) := by decide +kernel
theorem dX4_readNumber_0 : decode cX4_readNumber 0 = .ok (.aload_n 0, 1) := by decide +kernel
theorem dX4_readNumber_1 : decode cX4_readNumber 1 = .ok (.invokevirtual 41, 3) := by decide +kernel
theorem dX4_readNumber_4 : decode cX4_readNumber 4 = .ok (.ifCond .ne 31, 3) := by decide +kernel
theorem dX4_readNumber_7 : decode cX4_readNumber 7 = .ok (.aload_n 0, 1) := by decide +kernel
theorem dX4_readNumber_8 : decode cX4_readNumber 8 = .ok (.getfield 9, 3) := by decide +kernel
theorem dX4_readNumber_11 : decode cX4_readNumber 11 = .ok (.aload_n 0, 1) := by decide +kernel
theorem dX4_readNumber_12 : decode cX4_readNumber 12 = .ok (.getfield 38, 3) := by decide +kernel
theorem dX4_readNumber_15 : decode cX4_readNumber 15 = .ok (.caload, 1) := by decide +kernel
theorem dX4_readNumber_16 : decode cX4_readNumber 16 = .ok (.invokestatic 49, 3) := by decide +kernel
theorem dX4_readNumber_19 : decode cX4_readNumber 19 = .ok (.ifCond .eq 16, 3) := by decide +kernel
theorem dX4_readNumber_22 : decode cX4_readNumber 22 = .ok (.aload_n 0, 1) := by decide +kernel
theorem dX4_readNumber_23 : decode cX4_readNumber 23 = .ok (.getfield 28, 3) := by decide +kernel
theorem dX4_readNumber_26 : decode cX4_readNumber 26 = .ok (.aload_n 0, 1) := by decide +kernel
theorem dX4_readNumber_27 : decode cX4_readNumber 27 = .ok (.getfield 38, 3) := by decide +kernel
theorem dX4_readNumber_30 : decode cX4_readNumber 30 = .ok (.isub, 1) := by decide +kernel
theorem dX4_readNumber_31 : decode cX4_readNumber 31 = .ok (.iconst 3, 1) := by decide +kernel
theorem dX4_readNumber_32 : decode cX4_readNumber 32 = .ok (.if_icmp .le 5, 3) := by decide +kernel
theorem dX4_readNumber_35 : decode cX4_readNumber 35 = .ok (.iconst (-1), 1) := by decide +kernel
theorem dX4_readNumber_36 : decode cX4_readNumber 36 = .ok (.ireturn, 1) := by decide +kernel
theorem dX4_readNumber_37 : decode cX4_readNumber 37 = .ok (.iconst 0, 1) := by decide +kernel
theorem dX4_readNumber_38 : decode cX4_readNumber 38 = .ok (.istore_n 3, 1) := by decide +kernel
theorem dX4_readNumber_39 : decode cX4_readNumber 39 = .ok (.aload_n 0, 1) := by decide +kernel
theorem dX4_readNumber_40 : decode cX4_readNumber 40 = .ok (.getfield 38, 3) := by decide +kernel
theorem dX4_readNumber_43 : decode cX4_readNumber 43 = .ok (.istore 4, 2) := by decide +kernel
theorem dX4_readNumber_45 : decode cX4_readNumber 45 = .ok (.iload 4, 2) := by decide +kernel
theorem dX4_readNumber_47 : decode cX4_readNumber 47 = .ok (.aload_n 0, 1) := by decide +kernel
theorem dX4_readNumber_48 : decode cX4_readNumber 48 = .ok (.getfield 28, 3) := by decide +kernel
theorem dX4_readNumber_51 : decode cX4_readNumber 51 = .ok (.if_icmp .ge 25, 3) := by decide +kernel
theorem dX4_readNumber_54 : decode cX4_readNumber 54 = .ok (.iload_n 3, 1) := by decide +kernel
theorem dX4_readNumber_55 : decode cX4_readNumber 55 = .ok (.bipush 10, 2) := by decide +kernel
theorem dX4_readNumber_57 : decode cX4_readNumber 57 = .ok (.imul, 1) := by decide +kernel
theorem dX4_readNumber_58 : decode cX4_readNumber 58 = .ok (.aload_n 0, 1) := by decide +kernel
theorem dX4_readNumber_59 : decode cX4_readNumber 59 = .ok (.getfield 9, 3) := by decide +kernel
theorem dX4_readNumber_62 : decode cX4_readNumber 62 = .ok (.iload 4, 2) := by decide +kernel
theorem dX4_readNumber_64 : decode cX4_readNumber 64 = .ok (.caload, 1) := by decide +kernel
theorem dX4_readNumber_65 : decode cX4_readNumber 65 = .ok (.bipush 48, 2) := by decide +kernel
theorem dX4_readNumber_67 : decode cX4_readNumber 67 = .ok (.isub, 1) := by decide +kernel
theorem dX4_readNumber_68 : decode cX4_readNumber 68 = .ok (.iadd, 1) := by decide +kernel
theorem dX4_readNumber_69 : decode cX4_readNumber 69 = .ok (.istore_n 3, 1) := by decide +kernel
theorem dX4_readNumber_70 : decode cX4_readNumber 70 = .ok (.iinc 4 1, 3) := by decide +kernel
theorem dX4_readNumber_73 : decode cX4_readNumber 73 = .ok (.goto (-28), 3) := by decide +kernel
theorem dX4_readNumber_76 : decode cX4_readNumber 76 = .ok (.iload_n 3, 1) := by decide +kernel
theorem dX4_readNumber_77 : decode cX4_readNumber 77 = .ok (.iload_n 1, 1) := by decide +kernel
theorem dX4_readNumber_78 : decode cX4_readNumber 78 = .ok (.iload_n 2, 1) := by decide +kernel
theorem dX4_readNumber_79 : decode cX4_readNumber 79 = .ok (.invokestatic 109, 3) := by decide +kernel
theorem dX4_readNumber_82 : decode cX4_readNumber 82 = .ok (.ifCond .ne 5, 3) := by decide +kernel
theorem dX4_readNumber_85 : decode cX4_readNumber 85 = .ok (.iconst (-1), 1) := by decide +kernel
theorem dX4_readNumber_86 : decode cX4_readNumber 86 = .ok (.ireturn, 1) := by decide +kernel
theorem dX4_readNumber_87 : decode cX4_readNumber 87 = .ok (.aload_n 0, 1) := by decide +kernel
theorem dX4_readNumber_88 : decode cX4_readNumber 88 = .ok (.invokevirtual 31, 3) := by decide +kernel
theorem dX4_readNumber_91 : decode cX4_readNumber 91 = .ok (.iload_n 3, 1) := by decide +kernel
theorem dX4_readNumber_92 : decode cX4_readNumber 92 = .ok (.ireturn, 1) := by decide +kernel
theorem dX5_init_0 : decode cX5_init 0 = .ok (.aload_n 0, 1) := by decide +kernel
theorem dX5_init_1 : decode cX5_init 1 = .ok (.invokespecial 3, 3) := by decide +kernel
theorem dX5_init_4 : decode cX5_init 4 = .ok (.aload_n 0, 1) := by decide +kernel
theorem dX5_init_5 : decode cX5_init 5 = .ok (.bipush 8, 2) := by decide +kernel
theorem dX5_init_7 : decode cX5_init 7 = .ok (.newarray .double, 2) := by decide +kernel
theorem dX5_init_9 : decode cX5_init 9 = .ok (.putfield 9, 3) := by decide +kernel
theorem dX5_init_12 : decode cX5_init 12 = .ok (.aload_n 0, 1) := by decide +kernel
theorem dX5_init_13 : decode cX5_init 13 = .ok (.bipush 8, 2) := by decide +kernel
theorem dX5_init_15 : decode cX5_init 15 = .ok (.newarray .boolean, 2) := by decide +kernel
theorem dX5_init_17 : decode cX5_init 17 = .ok (.putfield 15, 3) := by decide +kernel
theorem dX5_init_20 : decode cX5_init 20 = .ok (.return_, 1) := by decide +kernel
theorem dX5_isMissing_0 : decode cX5_isMissing 0 = .ok (.aload_n 0, 1) := by decide +kernel
theorem dX5_isMissing_1 : decode cX5_isMissing 1 = .ok (.getfield 19, 3) := by decide +kernel
theorem dX5_isMissing_4 : decode cX5_isMissing 4 = .ok (.ifCond .ne 7, 3) := by decide +kernel
theorem dX5_isMissing_7 : decode cX5_isMissing 7 = .ok (.iconst 1, 1) := by decide +kernel
theorem dX5_isMissing_8 : decode cX5_isMissing 8 = .ok (.goto 4, 3) := by decide +kernel
theorem dX5_isMissing_11 : decode cX5_isMissing 11 = .ok (.iconst 0, 1) := by decide +kernel
theorem dX5_isMissing_12 : decode cX5_isMissing 12 = .ok (.ireturn, 1) := by decide +kernel
theorem dX5_placeCount_0 : decode cX5_placeCount 0 = .ok (.aload_n 0, 1) := by decide +kernel
theorem dX5_placeCount_1 : decode cX5_placeCount 1 = .ok (.getfield 23, 3) := by decide +kernel
theorem dX5_placeCount_4 : decode cX5_placeCount 4 = .ok (.ireturn, 1) := by decide +kernel
theorem dX5_lose_0 : decode cX5_lose 0 = .ok (.aload_n 0, 1) := by decide +kernel
theorem dX5_lose_1 : decode cX5_lose 1 = .ok (.iconst 0, 1) := by decide +kernel
theorem dX5_lose_2 : decode cX5_lose 2 = .ok (.putfield 19, 3) := by decide +kernel
theorem dX5_lose_5 : decode cX5_lose 5 = .ok (.aload_n 0, 1) := by decide +kernel
theorem dX5_lose_6 : decode cX5_lose 6 = .ok (.iconst 0, 1) := by decide +kernel
theorem dX5_lose_7 : decode cX5_lose 7 = .ok (.putfield 23, 3) := by decide +kernel
theorem dX5_lose_10 : decode cX5_lose 10 = .ok (.return_, 1) := by decide +kernel
theorem dX5_renew_0 : decode cX5_renew 0 = .ok (.aload_n 0, 1) := by decide +kernel
theorem dX5_renew_1 : decode cX5_renew 1 = .ok (.iconst 1, 1) := by decide +kernel
theorem dX5_renew_2 : decode cX5_renew 2 = .ok (.putfield 19, 3) := by decide +kernel
theorem dX5_renew_5 : decode cX5_renew 5 = .ok (.aload_n 0, 1) := by decide +kernel
theorem dX5_renew_6 : decode cX5_renew 6 = .ok (.iload_n 1, 1) := by decide +kernel
theorem dX5_renew_7 : decode cX5_renew 7 = .ok (.putfield 27, 3) := by decide +kernel
theorem dX5_renew_10 : decode cX5_renew 10 = .ok (.aload_n 0, 1) := by decide +kernel
theorem dX5_renew_11 : decode cX5_renew 11 = .ok (.iload_n 2, 1) := by decide +kernel
theorem dX5_renew_12 : decode cX5_renew 12 = .ok (.putfield 23, 3) := by decide +kernel
theorem dX5_renew_15 : decode cX5_renew 15 = .ok (.iconst 0, 1) := by decide +kernel
theorem dX5_renew_16 : decode cX5_renew 16 = .ok (.istore_n 3, 1) := by decide +kernel
theorem dX5_renew_17 : decode cX5_renew 17 = .ok (.iload_n 3, 1) := by decide +kernel
theorem dX5_renew_18 : decode cX5_renew 18 = .ok (.bipush 8, 2) := by decide +kernel
theorem dX5_renew_20 : decode cX5_renew 20 = .ok (.if_icmp .ge 15, 3) := by decide +kernel
theorem dX5_renew_23 : decode cX5_renew 23 = .ok (.aload_n 0, 1) := by decide +kernel
theorem dX5_renew_24 : decode cX5_renew 24 = .ok (.iload_n 3, 1) := by decide +kernel
theorem dX5_renew_25 : decode cX5_renew 25 = .ok (.dconst 0, 1) := by decide +kernel
theorem dX5_renew_26 : decode cX5_renew 26 = .ok (.invokevirtual 30, 3) := by decide +kernel
theorem dX5_renew_29 : decode cX5_renew 29 = .ok (.iinc 3 1, 3) := by decide +kernel
theorem dX5_renew_32 : decode cX5_renew 32 = .ok (.goto (-15), 3) := by decide +kernel
theorem dX5_renew_35 : decode cX5_renew 35 = .ok (.return_, 1) := by decide +kernel
theorem dX5_finding_0 : decode cX5_finding 0 = .ok (.aload_n 0, 1) := by decide +kernel
theorem dX5_finding_1 : decode cX5_finding 1 = .ok (.getfield 19, 3) := by decide +kernel
theorem dX5_finding_4 : decode cX5_finding 4 = .ok (.ifCond .ne 6, 3) := by decide +kernel
theorem dX5_finding_7 : decode cX5_finding 7 = .ok (.bipush (-11), 2) := by decide +kernel
theorem dX5_finding_9 : decode cX5_finding 9 = .ok (.ireturn, 1) := by decide +kernel
theorem dX5_finding_10 : decode cX5_finding 10 = .ok (.iload_n 1, 1) := by decide +kernel
theorem dX5_finding_11 : decode cX5_finding 11 = .ok (.aload_n 0, 1) := by decide +kernel
theorem dX5_finding_12 : decode cX5_finding 12 = .ok (.getfield 27, 3) := by decide +kernel
theorem dX5_finding_15 : decode cX5_finding 15 = .ok (.if_icmp .eq 6, 3) := by decide +kernel
theorem dX5_finding_18 : decode cX5_finding 18 = .ok (.bipush (-13), 2) := by decide +kernel
theorem dX5_finding_20 : decode cX5_finding 20 = .ok (.ireturn, 1) := by decide +kernel
theorem dX5_finding_21 : decode cX5_finding 21 = .ok (.iload_n 2, 1) := by decide +kernel
theorem dX5_finding_22 : decode cX5_finding 22 = .ok (.iconst 0, 1) := by decide +kernel
theorem dX5_finding_23 : decode cX5_finding 23 = .ok (.aload_n 0, 1) := by decide +kernel
theorem dX5_finding_24 : decode cX5_finding 24 = .ok (.getfield 23, 3) := by decide +kernel
theorem dX5_finding_27 : decode cX5_finding 27 = .ok (.iconst 1, 1) := by decide +kernel
theorem dX5_finding_28 : decode cX5_finding 28 = .ok (.isub, 1) := by decide +kernel
theorem dX5_finding_29 : decode cX5_finding 29 = .ok (.invokestatic 34, 3) := by decide +kernel
theorem dX5_finding_32 : decode cX5_finding 32 = .ok (.ifCond .eq 21, 3) := by decide +kernel
theorem dX5_finding_35 : decode cX5_finding 35 = .ok (.iload_n 3, 1) := by decide +kernel
theorem dX5_finding_36 : decode cX5_finding 36 = .ok (.iconst 0, 1) := by decide +kernel
theorem dX5_finding_37 : decode cX5_finding 37 = .ok (.aload_n 0, 1) := by decide +kernel
theorem dX5_finding_38 : decode cX5_finding 38 = .ok (.getfield 23, 3) := by decide +kernel
theorem dX5_finding_41 : decode cX5_finding 41 = .ok (.iconst 1, 1) := by decide +kernel
theorem dX5_finding_42 : decode cX5_finding 42 = .ok (.isub, 1) := by decide +kernel
theorem dX5_finding_43 : decode cX5_finding 43 = .ok (.invokestatic 34, 3) := by decide +kernel
theorem dX5_finding_46 : decode cX5_finding 46 = .ok (.ifCond .eq 7, 3) := by decide +kernel
theorem dX5_finding_49 : decode cX5_finding 49 = .ok (.iconst (-1), 1) := by decide +kernel
theorem dX5_finding_50 : decode cX5_finding 50 = .ok (.goto 5, 3) := by decide +kernel
theorem dX5_finding_53 : decode cX5_finding 53 = .ok (.bipush (-14), 2) := by decide +kernel
theorem dX5_finding_55 : decode cX5_finding 55 = .ok (.ireturn, 1) := by decide +kernel
theorem dX5_putNumber_0 : decode cX5_putNumber 0 = .ok (.aload_n 0, 1) := by decide +kernel
theorem dX5_putNumber_1 : decode cX5_putNumber 1 = .ok (.getfield 9, 3) := by decide +kernel
theorem dX5_putNumber_4 : decode cX5_putNumber 4 = .ok (.iload_n 1, 1) := by decide +kernel
theorem dX5_putNumber_5 : decode cX5_putNumber 5 = .ok (.dload_n 2, 1) := by decide +kernel
theorem dX5_putNumber_6 : decode cX5_putNumber 6 = .ok (.dastore, 1) := by decide +kernel
theorem dX5_putNumber_7 : decode cX5_putNumber 7 = .ok (.aload_n 0, 1) := by decide +kernel
theorem dX5_putNumber_8 : decode cX5_putNumber 8 = .ok (.getfield 15, 3) := by decide +kernel
theorem dX5_putNumber_11 : decode cX5_putNumber 11 = .ok (.iload_n 1, 1) := by decide +kernel
theorem dX5_putNumber_12 : decode cX5_putNumber 12 = .ok (.iconst 0, 1) := by decide +kernel
theorem dX5_putNumber_13 : decode cX5_putNumber 13 = .ok (.bastore, 1) := by decide +kernel
theorem dX5_putNumber_14 : decode cX5_putNumber 14 = .ok (.return_, 1) := by decide +kernel
theorem dX5_putNoNumber_0 : decode cX5_putNoNumber 0 = .ok (.aload_n 0, 1) := by decide +kernel
theorem dX5_putNoNumber_1 : decode cX5_putNoNumber 1 = .ok (.getfield 9, 3) := by decide +kernel
theorem dX5_putNoNumber_4 : decode cX5_putNoNumber 4 = .ok (.iload_n 1, 1) := by decide +kernel
theorem dX5_putNoNumber_5 : decode cX5_putNoNumber 5 = .ok (.dconst 0, 1) := by decide +kernel
theorem dX5_putNoNumber_6 : decode cX5_putNoNumber 6 = .ok (.dastore, 1) := by decide +kernel
theorem dX5_putNoNumber_7 : decode cX5_putNoNumber 7 = .ok (.aload_n 0, 1) := by decide +kernel
theorem dX5_putNoNumber_8 : decode cX5_putNoNumber 8 = .ok (.getfield 15, 3) := by decide +kernel
theorem dX5_putNoNumber_11 : decode cX5_putNoNumber 11 = .ok (.iload_n 1, 1) := by decide +kernel
theorem dX5_putNoNumber_12 : decode cX5_putNoNumber 12 = .ok (.iconst 1, 1) := by decide +kernel
theorem dX5_putNoNumber_13 : decode cX5_putNoNumber 13 = .ok (.bastore, 1) := by decide +kernel
theorem dX5_putNoNumber_14 : decode cX5_putNoNumber 14 = .ok (.return_, 1) := by decide +kernel
theorem dX5_putQuotient_0 : decode cX5_putQuotient 0 = .ok (.iload_n 2, 1) := by decide +kernel
theorem dX5_putQuotient_1 : decode cX5_putQuotient 1 = .ok (.ifCond .ne 15, 3) := by decide +kernel
theorem dX5_putQuotient_4 : decode cX5_putQuotient 4 = .ok (.iload_n 3, 1) := by decide +kernel
theorem dX5_putQuotient_5 : decode cX5_putQuotient 5 = .ok (.ifCond .ne 11, 3) := by decide +kernel
theorem dX5_putQuotient_8 : decode cX5_putQuotient 8 = .ok (.aload_n 0, 1) := by decide +kernel
theorem dX5_putQuotient_9 : decode cX5_putQuotient 9 = .ok (.iload_n 1, 1) := by decide +kernel
theorem dX5_putQuotient_10 : decode cX5_putQuotient 10 = .ok (.invokevirtual 38, 3) := by decide +kernel
theorem dX5_putQuotient_13 : decode cX5_putQuotient 13 = .ok (.goto 34, 3) := by decide +kernel
theorem dX5_putQuotient_16 : decode cX5_putQuotient 16 = .ok (.aload_n 0, 1) := by decide +kernel
theorem dX5_putQuotient_17 : decode cX5_putQuotient 17 = .ok (.getfield 27, 3) := by decide +kernel
theorem dX5_putQuotient_20 : decode cX5_putQuotient 20 = .ok (.ifCond .ne 17, 3) := by decide +kernel
theorem dX5_putQuotient_23 : decode cX5_putQuotient 23 = .ok (.aload_n 0, 1) := by decide +kernel
theorem dX5_putQuotient_24 : decode cX5_putQuotient 24 = .ok (.iload_n 1, 1) := by decide +kernel
theorem dX5_putQuotient_25 : decode cX5_putQuotient 25 = .ok (.iload_n 2, 1) := by decide +kernel
theorem dX5_putQuotient_26 : decode cX5_putQuotient 26 = .ok (.i2f, 1) := by decide +kernel
theorem dX5_putQuotient_27 : decode cX5_putQuotient 27 = .ok (.iload_n 3, 1) := by decide +kernel
theorem dX5_putQuotient_28 : decode cX5_putQuotient 28 = .ok (.i2f, 1) := by decide +kernel
theorem dX5_putQuotient_29 : decode cX5_putQuotient 29 = .ok (.fdiv, 1) := by decide +kernel
theorem dX5_putQuotient_30 : decode cX5_putQuotient 30 = .ok (.f2d, 1) := by decide +kernel
theorem dX5_putQuotient_31 : decode cX5_putQuotient 31 = .ok (.invokevirtual 30, 3) := by decide +kernel
theorem dX5_putQuotient_34 : decode cX5_putQuotient 34 = .ok (.goto 13, 3) := by decide +kernel
theorem dX5_putQuotient_37 : decode cX5_putQuotient 37 = .ok (.aload_n 0, 1) := by decide +kernel
theorem dX5_putQuotient_38 : decode cX5_putQuotient 38 = .ok (.iload_n 1, 1) := by decide +kernel
theorem dX5_putQuotient_39 : decode cX5_putQuotient 39 = .ok (.iload_n 2, 1) := by decide +kernel
theorem dX5_putQuotient_40 : decode cX5_putQuotient 40 = .ok (.i2d, 1) := by decide +kernel
theorem dX5_putQuotient_41 : decode cX5_putQuotient 41 = .ok (.iload_n 3, 1) := by decide +kernel
theorem dX5_putQuotient_42 : decode cX5_putQuotient 42 = .ok (.i2d, 1) := by decide +kernel
theorem dX5_putQuotient_43 : decode cX5_putQuotient 43 = .ok (.ddiv, 1) := by decide +kernel
theorem dX5_putQuotient_44 : decode cX5_putQuotient 44 = .ok (.invokevirtual 30, 3) := by decide +kernel
theorem dX5_putQuotient_47 : decode cX5_putQuotient 47 = .ok (.return_, 1) := by decide +kernel
theorem dX5_putRemainder_0 : decode cX5_putRemainder 0 = .ok (.aload_n 0, 1) := by decide +kernel
theorem dX5_putRemainder_1 : decode cX5_putRemainder 1 = .ok (.getfield 15, 3) := by decide +kernel
theorem dX5_putRemainder_4 : decode cX5_putRemainder 4 = .ok (.iload_n 1, 1) := by decide +kernel
theorem dX5_putRemainder_5 : decode cX5_putRemainder 5 = .ok (.baload, 1) := by decide +kernel
theorem dX5_putRemainder_6 : decode cX5_putRemainder 6 = .ok (.ifCond .ne 35, 3) := by decide +kernel
theorem dX5_putRemainder_9 : decode cX5_putRemainder 9 = .ok (.aload_n 0, 1) := by decide +kernel
theorem dX5_putRemainder_10 : decode cX5_putRemainder 10 = .ok (.getfield 15, 3) := by decide +kernel
theorem dX5_putRemainder_13 : decode cX5_putRemainder 13 = .ok (.iload_n 2, 1) := by decide +kernel
theorem dX5_putRemainder_14 : decode cX5_putRemainder 14 = .ok (.baload, 1) := by decide +kernel
theorem dX5_putRemainder_15 : decode cX5_putRemainder 15 = .ok (.ifCond .ne 26, 3) := by decide +kernel
theorem dX5_putRemainder_18 : decode cX5_putRemainder 18 = .ok (.aload_n 0, 1) := by decide +kernel
theorem dX5_putRemainder_19 : decode cX5_putRemainder 19 = .ok (.getfield 9, 3) := by decide +kernel
theorem dX5_putRemainder_22 : decode cX5_putRemainder 22 = .ok (.iload_n 1, 1) := by decide +kernel
theorem dX5_putRemainder_23 : decode cX5_putRemainder 23 = .ok (.daload, 1) := by decide +kernel
theorem dX5_putRemainder_24 : decode cX5_putRemainder 24 = .ok (.invokestatic 42, 3) := by decide +kernel
theorem dX5_putRemainder_27 : decode cX5_putRemainder 27 = .ok (.ifCond .ne 14, 3) := by decide +kernel
theorem dX5_putRemainder_30 : decode cX5_putRemainder 30 = .ok (.aload_n 0, 1) := by decide +kernel
theorem dX5_putRemainder_31 : decode cX5_putRemainder 31 = .ok (.getfield 9, 3) := by decide +kernel
theorem dX5_putRemainder_34 : decode cX5_putRemainder 34 = .ok (.iload_n 2, 1) := by decide +kernel
theorem dX5_putRemainder_35 : decode cX5_putRemainder 35 = .ok (.daload, 1) := by decide +kernel
theorem dX5_putRemainder_36 : decode cX5_putRemainder 36 = .ok (.dconst 0, 1) := by decide +kernel
theorem dX5_putRemainder_37 : decode cX5_putRemainder 37 = .ok (.dcmp .l, 1) := by decide +kernel
theorem dX5_putRemainder_38 : decode cX5_putRemainder 38 = .ok (.ifCond .ne 11, 3) := by decide +kernel
theorem dX5_putRemainder_41 : decode cX5_putRemainder 41 = .ok (.aload_n 0, 1) := by decide +kernel
theorem dX5_putRemainder_42 : decode cX5_putRemainder 42 = .ok (.iload_n 1, 1) := by decide +kernel
theorem dX5_putRemainder_43 : decode cX5_putRemainder 43 = .ok (.invokevirtual 38, 3) := by decide +kernel
theorem dX5_putRemainder_46 : decode cX5_putRemainder 46 = .ok (.goto 23, 3) := by decide +kernel
theorem dX5_putRemainder_49 : decode cX5_putRemainder 49 = .ok (.aload_n 0, 1) := by decide +kernel
theorem dX5_putRemainder_50 : decode cX5_putRemainder 50 = .ok (.iload_n 1, 1) := by decide +kernel
theorem dX5_putRemainder_51 : decode cX5_putRemainder 51 = .ok (.aload_n 0, 1) := by decide +kernel
theorem dX5_putRemainder_52 : decode cX5_putRemainder 52 = .ok (.getfield 9, 3) := by decide +kernel
theorem dX5_putRemainder_55 : decode cX5_putRemainder 55 = .ok (.iload_n 1, 1) := by decide +kernel
theorem dX5_putRemainder_56 : decode cX5_putRemainder 56 = .ok (.daload, 1) := by decide +kernel
theorem dX5_putRemainder_57 : decode cX5_putRemainder 57 = .ok (.aload_n 0, 1) := by decide +kernel
theorem dX5_putRemainder_58 : decode cX5_putRemainder 58 = .ok (.getfield 9, 3) := by decide +kernel
theorem dX5_putRemainder_61 : decode cX5_putRemainder 61 = .ok (.iload_n 2, 1) := by decide +kernel
theorem dX5_putRemainder_62 : decode cX5_putRemainder 62 = .ok (.daload, 1) := by decide +kernel
theorem dX5_putRemainder_63 : decode cX5_putRemainder 63 = .ok (.invokestatic 46, 3) := by decide +kernel
theorem dX5_putRemainder_66 : decode cX5_putRemainder 66 = .ok (.invokevirtual 30, 3) := by decide +kernel
theorem dX5_putRemainder_69 : decode cX5_putRemainder 69 = .ok (.return_, 1) := by decide +kernel
theorem dX5_remainder_0 : decode cX5_remainder 0 = .ok (.dload_n 0, 1) := by decide +kernel
theorem dX5_remainder_1 : decode cX5_remainder 1 = .ok (.dconst 0, 1) := by decide +kernel
theorem dX5_remainder_2 : decode cX5_remainder 2 = .ok (.dcmp .g, 1) := by decide +kernel
theorem dX5_remainder_3 : decode cX5_remainder 3 = .ok (.ifCond .ge 8, 3) := by decide +kernel
theorem dX5_remainder_6 : decode cX5_remainder 6 = .ok (.dload_n 0, 1) := by decide +kernel
theorem dX5_remainder_7 : decode cX5_remainder 7 = .ok (.dneg, 1) := by decide +kernel
theorem dX5_remainder_8 : decode cX5_remainder 8 = .ok (.goto 4, 3) := by decide +kernel
theorem dX5_remainder_11 : decode cX5_remainder 11 = .ok (.dload_n 0, 1) := by decide +kernel
theorem dX5_remainder_12 : decode cX5_remainder 12 = .ok (.dstore 4, 2) := by decide +kernel
theorem dX5_remainder_14 : decode cX5_remainder 14 = .ok (.dload_n 2, 1) := by decide +kernel
theorem dX5_remainder_15 : decode cX5_remainder 15 = .ok (.dconst 0, 1) := by decide +kernel
theorem dX5_remainder_16 : decode cX5_remainder 16 = .ok (.dcmp .g, 1) := by decide +kernel
theorem dX5_remainder_17 : decode cX5_remainder 17 = .ok (.ifCond .ge 8, 3) := by decide +kernel
theorem dX5_remainder_20 : decode cX5_remainder 20 = .ok (.dload_n 2, 1) := by decide +kernel
theorem dX5_remainder_21 : decode cX5_remainder 21 = .ok (.dneg, 1) := by decide +kernel
theorem dX5_remainder_22 : decode cX5_remainder 22 = .ok (.goto 4, 3) := by decide +kernel
theorem dX5_remainder_25 : decode cX5_remainder 25 = .ok (.dload_n 2, 1) := by decide +kernel
theorem dX5_remainder_26 : decode cX5_remainder 26 = .ok (.dstore 6, 2) := by decide +kernel
theorem dX5_remainder_28 : decode cX5_remainder 28 = .ok (.iconst 0, 1) := by decide +kernel
theorem dX5_remainder_29 : decode cX5_remainder 29 = .ok (.istore 8, 2) := by decide +kernel
theorem dX5_remainder_31 : decode cX5_remainder 31 = .ok (.iload 8, 2) := by decide +kernel
theorem dX5_remainder_33 : decode cX5_remainder 33 = .ok (.sipush 2100, 3) := by decide +kernel
theorem dX5_remainder_36 : decode cX5_remainder 36 = .ok (.if_icmp .ge 29, 3) := by decide +kernel
theorem dX5_remainder_39 : decode cX5_remainder 39 = .ok (.dload 6, 2) := by decide +kernel
theorem dX5_remainder_41 : decode cX5_remainder 41 = .ok (.dload 4, 2) := by decide +kernel
theorem dX5_remainder_43 : decode cX5_remainder 43 = .ok (.ldc2_w 50, 3) := by decide +kernel
theorem dX5_remainder_46 : decode cX5_remainder 46 = .ok (.ddiv, 1) := by decide +kernel
theorem dX5_remainder_47 : decode cX5_remainder 47 = .ok (.dcmp .g, 1) := by decide +kernel
theorem dX5_remainder_48 : decode cX5_remainder 48 = .ok (.ifCond .gt 17, 3) := by decide +kernel
theorem dX5_remainder_51 : decode cX5_remainder 51 = .ok (.dload 6, 2) := by decide +kernel
theorem dX5_remainder_53 : decode cX5_remainder 53 = .ok (.ldc2_w 50, 3) := by decide +kernel
theorem dX5_remainder_56 : decode cX5_remainder 56 = .ok (.dmul, 1) := by decide +kernel
theorem dX5_remainder_57 : decode cX5_remainder 57 = .ok (.dstore 6, 2) := by decide +kernel
theorem dX5_remainder_59 : decode cX5_remainder 59 = .ok (.iinc 8 1, 3) := by decide +kernel
theorem dX5_remainder_62 : decode cX5_remainder 62 = .ok (.goto (-31), 3) := by decide +kernel
theorem dX5_remainder_65 : decode cX5_remainder 65 = .ok (.iload 8, 2) := by decide +kernel
theorem dX5_remainder_67 : decode cX5_remainder 67 = .ok (.istore 9, 2) := by decide +kernel
theorem dX5_remainder_69 : decode cX5_remainder 69 = .ok (.iload 9, 2) := by decide +kernel
theorem dX5_remainder_71 : decode cX5_remainder 71 = .ok (.ifCond .lt 32, 3) := by decide +kernel
theorem dX5_remainder_74 : decode cX5_remainder 74 = .ok (.dload 4, 2) := by decide +kernel
theorem dX5_remainder_76 : decode cX5_remainder 76 = .ok (.dload 6, 2) := by decide +kernel
theorem dX5_remainder_78 : decode cX5_remainder 78 = .ok (.dcmp .l, 1) := by decide +kernel
theorem dX5_remainder_79 : decode cX5_remainder 79 = .ok (.ifCond .lt 10, 3) := by decide +kernel
theorem dX5_remainder_82 : decode cX5_remainder 82 = .ok (.dload 4, 2) := by decide +kernel
theorem dX5_remainder_84 : decode cX5_remainder 84 = .ok (.dload 6, 2) := by decide +kernel
theorem dX5_remainder_86 : decode cX5_remainder 86 = .ok (.dsub, 1) := by decide +kernel
theorem dX5_remainder_87 : decode cX5_remainder 87 = .ok (.dstore 4, 2) := by decide +kernel
theorem dX5_remainder_89 : decode cX5_remainder 89 = .ok (.dload 6, 2) := by decide +kernel
theorem dX5_remainder_91 : decode cX5_remainder 91 = .ok (.ldc2_w 50, 3) := by decide +kernel
theorem dX5_remainder_94 : decode cX5_remainder 94 = .ok (.ddiv, 1) := by decide +kernel
theorem dX5_remainder_95 : decode cX5_remainder 95 = .ok (.dstore 6, 2) := by decide +kernel
theorem dX5_remainder_97 : decode cX5_remainder 97 = .ok (.iinc 9 (-1), 3) := by decide +kernel
theorem dX5_remainder_100 : decode cX5_remainder 100 = .ok (.goto (-31), 3) := by decide +kernel
theorem dX5_remainder_103 : decode cX5_remainder 103 = .ok (.dload_n 0, 1) := by decide +kernel
theorem dX5_remainder_104 : decode cX5_remainder 104 = .ok (.dconst 0, 1) := by decide +kernel
theorem dX5_remainder_105 : decode cX5_remainder 105 = .ok (.dcmp .g, 1) := by decide +kernel
theorem dX5_remainder_106 : decode cX5_remainder 106 = .ok (.ifCond .ge 9, 3) := by decide +kernel
theorem dX5_remainder_109 : decode cX5_remainder 109 = .ok (.dload 4, 2) := by decide +kernel
theorem dX5_remainder_111 : decode cX5_remainder 111 = .ok (.dneg, 1) := by decide +kernel
theorem dX5_remainder_112 : decode cX5_remainder 112 = .ok (.goto 5, 3) := by decide +kernel
theorem dX5_remainder_115 : decode cX5_remainder 115 = .ok (.dload 4, 2) := by decide +kernel
theorem dX5_remainder_117 : decode cX5_remainder 117 = .ok (.dreturn, 1) := by decide +kernel
theorem dX5_isEndless_0 : decode cX5_isEndless 0 = .ok (.dload_n 0, 1) := by decide +kernel
theorem dX5_isEndless_1 : decode cX5_isEndless 1 = .ok (.ldc2_w 52, 3) := by decide +kernel
theorem dX5_isEndless_4 : decode cX5_isEndless 4 = .ok (.dcmp .l, 1) := by decide +kernel
theorem dX5_isEndless_5 : decode cX5_isEndless 5 = .ok (.ifCond .gt 11, 3) := by decide +kernel
theorem dX5_isEndless_8 : decode cX5_isEndless 8 = .ok (.dload_n 0, 1) := by decide +kernel
theorem dX5_isEndless_9 : decode cX5_isEndless 9 = .ok (.ldc2_w 54, 3) := by decide +kernel
theorem dX5_isEndless_12 : decode cX5_isEndless 12 = .ok (.dcmp .g, 1) := by decide +kernel
theorem dX5_isEndless_13 : decode cX5_isEndless 13 = .ok (.ifCond .ge 7, 3) := by decide +kernel
theorem dX5_isEndless_16 : decode cX5_isEndless 16 = .ok (.iconst 1, 1) := by decide +kernel
theorem dX5_isEndless_17 : decode cX5_isEndless 17 = .ok (.goto 4, 3) := by decide +kernel
theorem dX5_isEndless_20 : decode cX5_isEndless 20 = .ok (.iconst 0, 1) := by decide +kernel
theorem dX5_isEndless_21 : decode cX5_isEndless 21 = .ok (.ireturn, 1) := by decide +kernel
theorem dX5_order_0 : decode cX5_order 0 = .ok (.aload_n 0, 1) := by decide +kernel
theorem dX5_order_1 : decode cX5_order 1 = .ok (.getfield 15, 3) := by decide +kernel
theorem dX5_order_4 : decode cX5_order 4 = .ok (.iload_n 1, 1) := by decide +kernel
theorem dX5_order_5 : decode cX5_order 5 = .ok (.baload, 1) := by decide +kernel
theorem dX5_order_6 : decode cX5_order 6 = .ok (.ifCond .ne 12, 3) := by decide +kernel
theorem dX5_order_9 : decode cX5_order 9 = .ok (.aload_n 0, 1) := by decide +kernel
theorem dX5_order_10 : decode cX5_order 10 = .ok (.getfield 15, 3) := by decide +kernel
theorem dX5_order_13 : decode cX5_order 13 = .ok (.iload_n 2, 1) := by decide +kernel
theorem dX5_order_14 : decode cX5_order 14 = .ok (.baload, 1) := by decide +kernel
theorem dX5_order_15 : decode cX5_order 15 = .ok (.ifCond .eq 5, 3) := by decide +kernel
theorem dX5_order_18 : decode cX5_order 18 = .ok (.iconst 0, 1) := by decide +kernel
theorem dX5_order_19 : decode cX5_order 19 = .ok (.ireturn, 1) := by decide +kernel
theorem dX5_order_20 : decode cX5_order 20 = .ok (.aload_n 0, 1) := by decide +kernel
theorem dX5_order_21 : decode cX5_order 21 = .ok (.getfield 9, 3) := by decide +kernel
theorem dX5_order_24 : decode cX5_order 24 = .ok (.iload_n 1, 1) := by decide +kernel
theorem dX5_order_25 : decode cX5_order 25 = .ok (.daload, 1) := by decide +kernel
theorem dX5_order_26 : decode cX5_order 26 = .ok (.aload_n 0, 1) := by decide +kernel
theorem dX5_order_27 : decode cX5_order 27 = .ok (.getfield 9, 3) := by decide +kernel
theorem dX5_order_30 : decode cX5_order 30 = .ok (.iload_n 2, 1) := by decide +kernel
theorem dX5_order_31 : decode cX5_order 31 = .ok (.daload, 1) := by decide +kernel
theorem dX5_order_32 : decode cX5_order 32 = .ok (.dcmp .g, 1) := by decide +kernel
theorem dX5_order_33 : decode cX5_order 33 = .ok (.ifCond .ge 5, 3) := by decide +kernel
theorem dX5_order_36 : decode cX5_order 36 = .ok (.iconst 2, 1) := by decide +kernel
theorem dX5_order_37 : decode cX5_order 37 = .ok (.ireturn, 1) := by decide +kernel
theorem dX5_order_38 : decode cX5_order 38 = .ok (.aload_n 0, 1) := by decide +kernel
theorem dX5_order_39 : decode cX5_order 39 = .ok (.getfield 9, 3) := by decide +kernel
theorem dX5_order_42 : decode cX5_order 42 = .ok (.iload_n 1, 1) := by decide +kernel
theorem dX5_order_43 : decode cX5_order 43 = .ok (.daload, 1) := by decide +kernel
theorem dX5_order_44 : decode cX5_order 44 = .ok (.aload_n 0, 1) := by decide +kernel
theorem dX5_order_45 : decode cX5_order 45 = .ok (.getfield 9, 3) := by decide +kernel
theorem dX5_order_48 : decode cX5_order 48 = .ok (.iload_n 2, 1) := by decide +kernel
theorem dX5_order_49 : decode cX5_order 49 = .ok (.daload, 1) := by decide +kernel
theorem dX5_order_50 : decode cX5_order 50 = .ok (.dcmp .l, 1) := by decide +kernel
theorem dX5_order_51 : decode cX5_order 51 = .ok (.ifCond .ne 7, 3) := by decide +kernel
theorem dX5_order_54 : decode cX5_order 54 = .ok (.iconst 1, 1) := by decide +kernel
theorem dX5_order_55 : decode cX5_order 55 = .ok (.goto 4, 3) := by decide +kernel
theorem dX5_order_58 : decode cX5_order 58 = .ok (.iconst 0, 1) := by decide +kernel
theorem dX5_order_59 : decode cX5_order 59 = .ok (.ireturn, 1) := by decide +kernel
theorem dX5_thousandAt_0 : decode cX5_thousandAt 0 = .ok (.aload_n 0, 1) := by decide +kernel
theorem dX5_thousandAt_1 : decode cX5_thousandAt 1 = .ok (.getfield 15, 3) := by decide +kernel
theorem dX5_thousandAt_4 : decode cX5_thousandAt 4 = .ok (.iload_n 1, 1) := by decide +kernel
theorem dX5_thousandAt_5 : decode cX5_thousandAt 5 = .ok (.baload, 1) := by decide +kernel
theorem dX5_thousandAt_6 : decode cX5_thousandAt 6 = .ok (.ifCond .eq 6, 3) := by decide +kernel
theorem dX5_thousandAt_9 : decode cX5_thousandAt 9 = .ok (.ldc 56, 2) := by decide +kernel
theorem dX5_thousandAt_11 : decode cX5_thousandAt 11 = .ok (.ireturn, 1) := by decide +kernel
theorem dX5_thousandAt_12 : decode cX5_thousandAt 12 = .ok (.aload_n 0, 1) := by decide +kernel
theorem dX5_thousandAt_13 : decode cX5_thousandAt 13 = .ok (.getfield 27, 3) := by decide +kernel
theorem dX5_thousandAt_16 : decode cX5_thousandAt 16 = .ok (.ifCond .ne 18, 3) := by decide +kernel
theorem dX5_thousandAt_19 : decode cX5_thousandAt 19 = .ok (.aload_n 0, 1) := by decide +kernel
theorem dX5_thousandAt_20 : decode cX5_thousandAt 20 = .ok (.getfield 9, 3) := by decide +kernel
theorem dX5_thousandAt_23 : decode cX5_thousandAt 23 = .ok (.iload_n 1, 1) := by decide +kernel
theorem dX5_thousandAt_24 : decode cX5_thousandAt 24 = .ok (.daload, 1) := by decide +kernel
theorem dX5_thousandAt_25 : decode cX5_thousandAt 25 = .ok (.d2f, 1) := by decide +kernel
theorem dX5_thousandAt_26 : decode cX5_thousandAt 26 = .ok (.ldc 57, 2) := by decide +kernel
theorem dX5_thousandAt_28 : decode cX5_thousandAt 28 = .ok (.fmul, 1) := by decide +kernel
theorem dX5_thousandAt_29 : decode cX5_thousandAt 29 = .ok (.f2d, 1) := by decide +kernel
theorem dX5_thousandAt_30 : decode cX5_thousandAt 30 = .ok (.invokestatic 58, 3) := by decide +kernel
theorem dX5_thousandAt_33 : decode cX5_thousandAt 33 = .ok (.ireturn, 1) := by decide +kernel
theorem dX5_thousandAt_34 : decode cX5_thousandAt 34 = .ok (.aload_n 0, 1) := by decide +kernel
theorem dX5_thousandAt_35 : decode cX5_thousandAt 35 = .ok (.getfield 9, 3) := by decide +kernel
theorem dX5_thousandAt_38 : decode cX5_thousandAt 38 = .ok (.iload_n 1, 1) := by decide +kernel
theorem dX5_thousandAt_39 : decode cX5_thousandAt 39 = .ok (.daload, 1) := by decide +kernel
theorem dX5_thousandAt_40 : decode cX5_thousandAt 40 = .ok (.ldc2_w 62, 3) := by decide +kernel
theorem dX5_thousandAt_43 : decode cX5_thousandAt 43 = .ok (.dmul, 1) := by decide +kernel
theorem dX5_thousandAt_44 : decode cX5_thousandAt 44 = .ok (.invokestatic 58, 3) := by decide +kernel
theorem dX5_thousandAt_47 : decode cX5_thousandAt 47 = .ok (.ireturn, 1) := by decide +kernel
theorem dX5_thousandOfAll_0 : decode cX5_thousandOfAll 0 = .ok (.dconst 0, 1) := by decide +kernel
theorem dX5_thousandOfAll_1 : decode cX5_thousandOfAll 1 = .ok (.dstore_n 1, 1) := by decide +kernel
theorem dX5_thousandOfAll_2 : decode cX5_thousandOfAll 2 = .ok (.iconst 0, 1) := by decide +kernel
theorem dX5_thousandOfAll_3 : decode cX5_thousandOfAll 3 = .ok (.istore_n 3, 1) := by decide +kernel
theorem dX5_thousandOfAll_4 : decode cX5_thousandOfAll 4 = .ok (.iload_n 3, 1) := by decide +kernel
theorem dX5_thousandOfAll_5 : decode cX5_thousandOfAll 5 = .ok (.aload_n 0, 1) := by decide +kernel
theorem dX5_thousandOfAll_6 : decode cX5_thousandOfAll 6 = .ok (.getfield 23, 3) := by decide +kernel
theorem dX5_thousandOfAll_9 : decode cX5_thousandOfAll 9 = .ok (.if_icmp .ge 68, 3) := by decide +kernel
theorem dX5_thousandOfAll_12 : decode cX5_thousandOfAll 12 = .ok (.aload_n 0, 1) := by decide +kernel
theorem dX5_thousandOfAll_13 : decode cX5_thousandOfAll 13 = .ok (.getfield 9, 3) := by decide +kernel
theorem dX5_thousandOfAll_16 : decode cX5_thousandOfAll 16 = .ok (.iload_n 3, 1) := by decide +kernel
theorem dX5_thousandOfAll_17 : decode cX5_thousandOfAll 17 = .ok (.daload, 1) := by decide +kernel
theorem dX5_thousandOfAll_18 : decode cX5_thousandOfAll 18 = .ok (.dstore 4, 2) := by decide +kernel
theorem dX5_thousandOfAll_20 : decode cX5_thousandOfAll 20 = .ok (.dload_n 1, 1) := by decide +kernel
theorem dX5_thousandOfAll_21 : decode cX5_thousandOfAll 21 = .ok (.invokestatic 42, 3) := by decide +kernel
theorem dX5_thousandOfAll_24 : decode cX5_thousandOfAll 24 = .ok (.ifCond .eq 22, 3) := by decide +kernel
theorem dX5_thousandOfAll_27 : decode cX5_thousandOfAll 27 = .ok (.dload 4, 2) := by decide +kernel
theorem dX5_thousandOfAll_29 : decode cX5_thousandOfAll 29 = .ok (.invokestatic 42, 3) := by decide +kernel
theorem dX5_thousandOfAll_32 : decode cX5_thousandOfAll 32 = .ok (.ifCond .eq 14, 3) := by decide +kernel
theorem dX5_thousandOfAll_35 : decode cX5_thousandOfAll 35 = .ok (.dload_n 1, 1) := by decide +kernel
theorem dX5_thousandOfAll_36 : decode cX5_thousandOfAll 36 = .ok (.dload 4, 2) := by decide +kernel
theorem dX5_thousandOfAll_38 : decode cX5_thousandOfAll 38 = .ok (.dcmp .l, 1) := by decide +kernel
theorem dX5_thousandOfAll_39 : decode cX5_thousandOfAll 39 = .ok (.ifCond .eq 7, 3) := by decide +kernel
theorem dX5_thousandOfAll_42 : decode cX5_thousandOfAll 42 = .ok (.iconst 1, 1) := by decide +kernel
theorem dX5_thousandOfAll_43 : decode cX5_thousandOfAll 43 = .ok (.goto 4, 3) := by decide +kernel
theorem dX5_thousandOfAll_46 : decode cX5_thousandOfAll 46 = .ok (.iconst 0, 1) := by decide +kernel
theorem dX5_thousandOfAll_47 : decode cX5_thousandOfAll 47 = .ok (.istore 6, 2) := by decide +kernel
theorem dX5_thousandOfAll_49 : decode cX5_thousandOfAll 49 = .ok (.aload_n 0, 1) := by decide +kernel
theorem dX5_thousandOfAll_50 : decode cX5_thousandOfAll 50 = .ok (.getfield 15, 3) := by decide +kernel
theorem dX5_thousandOfAll_53 : decode cX5_thousandOfAll 53 = .ok (.iload_n 3, 1) := by decide +kernel
theorem dX5_thousandOfAll_54 : decode cX5_thousandOfAll 54 = .ok (.baload, 1) := by decide +kernel
theorem dX5_thousandOfAll_55 : decode cX5_thousandOfAll 55 = .ok (.ifCond .ne 8, 3) := by decide +kernel
theorem dX5_thousandOfAll_58 : decode cX5_thousandOfAll 58 = .ok (.iload 6, 2) := by decide +kernel
theorem dX5_thousandOfAll_60 : decode cX5_thousandOfAll 60 = .ok (.ifCond .eq 6, 3) := by decide +kernel
theorem dX5_thousandOfAll_63 : decode cX5_thousandOfAll 63 = .ok (.ldc 56, 2) := by decide +kernel
theorem dX5_thousandOfAll_65 : decode cX5_thousandOfAll 65 = .ok (.ireturn, 1) := by decide +kernel
theorem dX5_thousandOfAll_66 : decode cX5_thousandOfAll 66 = .ok (.dload_n 1, 1) := by decide +kernel
theorem dX5_thousandOfAll_67 : decode cX5_thousandOfAll 67 = .ok (.dload 4, 2) := by decide +kernel
theorem dX5_thousandOfAll_69 : decode cX5_thousandOfAll 69 = .ok (.dadd, 1) := by decide +kernel
theorem dX5_thousandOfAll_70 : decode cX5_thousandOfAll 70 = .ok (.dstore_n 1, 1) := by decide +kernel
theorem dX5_thousandOfAll_71 : decode cX5_thousandOfAll 71 = .ok (.iinc 3 1, 3) := by decide +kernel
theorem dX5_thousandOfAll_74 : decode cX5_thousandOfAll 74 = .ok (.goto (-70), 3) := by decide +kernel
theorem dX5_thousandOfAll_77 : decode cX5_thousandOfAll 77 = .ok (.dload_n 1, 1) := by decide +kernel
theorem dX5_thousandOfAll_78 : decode cX5_thousandOfAll 78 = .ok (.ldc2_w 62, 3) := by decide +kernel
theorem dX5_thousandOfAll_81 : decode cX5_thousandOfAll 81 = .ok (.dmul, 1) := by decide +kernel
theorem dX5_thousandOfAll_82 : decode cX5_thousandOfAll 82 = .ok (.invokestatic 58, 3) := by decide +kernel
theorem dX5_thousandOfAll_85 : decode cX5_thousandOfAll 85 = .ok (.ireturn, 1) := by decide +kernel
theorem dX5_cutThousand_0 : decode cX5_cutThousand 0 = .ok (.dload_n 0, 1) := by decide +kernel
theorem dX5_cutThousand_1 : decode cX5_cutThousand 1 = .ok (.ldc2_w 52, 3) := by decide +kernel
theorem dX5_cutThousand_4 : decode cX5_cutThousand 4 = .ok (.dcmp .l, 1) := by decide +kernel
theorem dX5_cutThousand_5 : decode cX5_cutThousand 5 = .ok (.ifCond .lt 6, 3) := by decide +kernel
theorem dX5_cutThousand_8 : decode cX5_cutThousand 8 = .ok (.ldc 64, 2) := by decide +kernel
theorem dX5_cutThousand_10 : decode cX5_cutThousand 10 = .ok (.ireturn, 1) := by decide +kernel
theorem dX5_cutThousand_11 : decode cX5_cutThousand 11 = .ok (.dload_n 0, 1) := by decide +kernel
theorem dX5_cutThousand_12 : decode cX5_cutThousand 12 = .ok (.ldc2_w 54, 3) := by decide +kernel
theorem dX5_cutThousand_15 : decode cX5_cutThousand 15 = .ok (.dcmp .g, 1) := by decide +kernel
theorem dX5_cutThousand_16 : decode cX5_cutThousand 16 = .ok (.ifCond .gt 6, 3) := by decide +kernel
theorem dX5_cutThousand_19 : decode cX5_cutThousand 19 = .ok (.ldc 65, 2) := by decide +kernel
theorem dX5_cutThousand_21 : decode cX5_cutThousand 21 = .ok (.ireturn, 1) := by decide +kernel
theorem dX5_cutThousand_22 : decode cX5_cutThousand 22 = .ok (.ldc 56, 2) := by decide +kernel
theorem dX5_cutThousand_24 : decode cX5_cutThousand 24 = .ok (.dload_n 0, 1) := by decide +kernel
theorem dX5_cutThousand_25 : decode cX5_cutThousand 25 = .ok (.d2i, 1) := by decide +kernel
theorem dX5_cutThousand_26 : decode cX5_cutThousand 26 = .ok (.iadd, 1) := by decide +kernel
theorem dX5_cutThousand_27 : decode cX5_cutThousand 27 = .ok (.ireturn, 1) := by decide +kernel
theorem dX5_noNumberCount_0 : decode cX5_noNumberCount 0 = .ok (.iconst 0, 1) := by decide +kernel
theorem dX5_noNumberCount_1 : decode cX5_noNumberCount 1 = .ok (.istore_n 1, 1) := by decide +kernel
theorem dX5_noNumberCount_2 : decode cX5_noNumberCount 2 = .ok (.iconst 0, 1) := by decide +kernel
theorem dX5_noNumberCount_3 : decode cX5_noNumberCount 3 = .ok (.istore_n 2, 1) := by decide +kernel
theorem dX5_noNumberCount_4 : decode cX5_noNumberCount 4 = .ok (.iload_n 2, 1) := by decide +kernel
theorem dX5_noNumberCount_5 : decode cX5_noNumberCount 5 = .ok (.aload_n 0, 1) := by decide +kernel
theorem dX5_noNumberCount_6 : decode cX5_noNumberCount 6 = .ok (.getfield 23, 3) := by decide +kernel
theorem dX5_noNumberCount_9 : decode cX5_noNumberCount 9 = .ok (.if_icmp .ge 21, 3) := by decide +kernel
theorem dX5_noNumberCount_12 : decode cX5_noNumberCount 12 = .ok (.aload_n 0, 1) := by decide +kernel
theorem dX5_noNumberCount_13 : decode cX5_noNumberCount 13 = .ok (.getfield 15, 3) := by decide +kernel
theorem dX5_noNumberCount_16 : decode cX5_noNumberCount 16 = .ok (.iload_n 2, 1) := by decide +kernel
theorem dX5_noNumberCount_17 : decode cX5_noNumberCount 17 = .ok (.baload, 1) := by decide +kernel
theorem dX5_noNumberCount_18 : decode cX5_noNumberCount 18 = .ok (.ifCond .eq 6, 3) := by decide +kernel
theorem dX5_noNumberCount_21 : decode cX5_noNumberCount 21 = .ok (.iinc 1 1, 3) := by decide +kernel
theorem dX5_noNumberCount_24 : decode cX5_noNumberCount 24 = .ok (.iinc 2 1, 3) := by decide +kernel
theorem dX5_noNumberCount_27 : decode cX5_noNumberCount 27 = .ok (.goto (-23), 3) := by decide +kernel
theorem dX5_noNumberCount_30 : decode cX5_noNumberCount 30 = .ok (.iload_n 1, 1) := by decide +kernel
theorem dX5_noNumberCount_31 : decode cX5_noNumberCount 31 = .ok (.ireturn, 1) := by decide +kernel
theorem dJx29ce0_ordinal_8abf5_0 : decode cJx29ce0_ordinal_8abf5 0 = .ok (.aload_n 0, 1) := by decide +kernel
theorem dJx29ce0_ordinal_8abf5_1 : decode cJx29ce0_ordinal_8abf5 1 = .ok (.getfield 7, 3) := by decide +kernel
theorem dJx29ce0_ordinal_8abf5_4 : decode cJx29ce0_ordinal_8abf5 4 = .ok (.ireturn, 1) := by decide +kernel
theorem dJ9_floorDiv_7cf53_0 : decode cJ9_floorDiv_7cf53 0 = .ok (.iload_n 0, 1) := by decide +kernel
theorem dJ9_floorDiv_7cf53_1 : decode cJ9_floorDiv_7cf53 1 = .ok (.iload_n 1, 1) := by decide +kernel
theorem dJ9_floorDiv_7cf53_2 : decode cJ9_floorDiv_7cf53 2 = .ok (.idiv, 1) := by decide +kernel
theorem dJ9_floorDiv_7cf53_3 : decode cJ9_floorDiv_7cf53 3 = .ok (.istore_n 2, 1) := by decide +kernel
theorem dJ9_floorDiv_7cf53_4 : decode cJ9_floorDiv_7cf53 4 = .ok (.iload_n 0, 1) := by decide +kernel
theorem dJ9_floorDiv_7cf53_5 : decode cJ9_floorDiv_7cf53 5 = .ok (.iload_n 1, 1) := by decide +kernel
theorem dJ9_floorDiv_7cf53_6 : decode cJ9_floorDiv_7cf53 6 = .ok (.ixor, 1) := by decide +kernel
theorem dJ9_floorDiv_7cf53_7 : decode cJ9_floorDiv_7cf53 7 = .ok (.ifCond .ge 14, 3) := by decide +kernel
theorem dJ9_floorDiv_7cf53_10 : decode cJ9_floorDiv_7cf53 10 = .ok (.iload_n 2, 1) := by decide +kernel
theorem dJ9_floorDiv_7cf53_11 : decode cJ9_floorDiv_7cf53 11 = .ok (.iload_n 1, 1) := by decide +kernel
theorem dJ9_floorDiv_7cf53_12 : decode cJ9_floorDiv_7cf53 12 = .ok (.imul, 1) := by decide +kernel
theorem dJ9_floorDiv_7cf53_13 : decode cJ9_floorDiv_7cf53 13 = .ok (.iload_n 0, 1) := by decide +kernel
theorem dJ9_floorDiv_7cf53_14 : decode cJ9_floorDiv_7cf53 14 = .ok (.if_icmp .eq 7, 3) := by decide +kernel
theorem dJ9_floorDiv_7cf53_17 : decode cJ9_floorDiv_7cf53 17 = .ok (.iload_n 2, 1) := by decide +kernel
theorem dJ9_floorDiv_7cf53_18 : decode cJ9_floorDiv_7cf53 18 = .ok (.iconst 1, 1) := by decide +kernel
theorem dJ9_floorDiv_7cf53_19 : decode cJ9_floorDiv_7cf53 19 = .ok (.isub, 1) := by decide +kernel
theorem dJ9_floorDiv_7cf53_20 : decode cJ9_floorDiv_7cf53 20 = .ok (.ireturn, 1) := by decide +kernel
theorem dJ9_floorDiv_7cf53_21 : decode cJ9_floorDiv_7cf53 21 = .ok (.iload_n 2, 1) := by decide +kernel
theorem dJ9_floorDiv_7cf53_22 : decode cJ9_floorDiv_7cf53 22 = .ok (.ireturn, 1) := by decide +kernel
theorem dJ9_min_7cf53_0 : decode cJ9_min_7cf53 0 = .ok (.iload_n 0, 1) := by decide +kernel
theorem dJ9_min_7cf53_1 : decode cJ9_min_7cf53 1 = .ok (.iload_n 1, 1) := by decide +kernel
theorem dJ9_min_7cf53_2 : decode cJ9_min_7cf53 2 = .ok (.if_icmp .gt 7, 3) := by decide +kernel
theorem dJ9_min_7cf53_5 : decode cJ9_min_7cf53 5 = .ok (.iload_n 0, 1) := by decide +kernel
theorem dJ9_min_7cf53_6 : decode cJ9_min_7cf53 6 = .ok (.goto 4, 3) := by decide +kernel
theorem dJ9_min_7cf53_9 : decode cJ9_min_7cf53 9 = .ok (.iload_n 1, 1) := by decide +kernel
theorem dJ9_min_7cf53_10 : decode cJ9_min_7cf53 10 = .ok (.ireturn, 1) := by decide +kernel
theorem dJ0_length_8abf5_0 : decode cJ0_length_8abf5 0 = .ok (.aload_n 0, 1) := by decide +kernel
theorem dJ0_length_8abf5_1 : decode cJ0_length_8abf5 1 = .ok (.getfield 9, 3) := by decide +kernel
theorem dJ0_length_8abf5_4 : decode cJ0_length_8abf5 4 = .ok (.arraylength, 1) := by decide +kernel
theorem dJ0_length_8abf5_5 : decode cJ0_length_8abf5 5 = .ok (.aload_n 0, 1) := by decide +kernel
theorem dJ0_length_8abf5_6 : decode cJ0_length_8abf5 6 = .ok (.invokevirtual 335, 3) := by decide +kernel
theorem dJ0_length_8abf5_9 : decode cJ0_length_8abf5 9 = .ok (.ishr, 1) := by decide +kernel
theorem dJ0_length_8abf5_10 : decode cJ0_length_8abf5 10 = .ok (.ireturn, 1) := by decide +kernel
theorem dJ0_charAt_5068e_0 : decode cJ0_charAt_5068e 0 = .ok (.aload_n 0, 1) := by decide +kernel
theorem dJ0_charAt_5068e_1 : decode cJ0_charAt_5068e 1 = .ok (.invokevirtual 492, 3) := by decide +kernel
theorem dJ0_charAt_5068e_4 : decode cJ0_charAt_5068e 4 = .ok (.ifCond .eq 12, 3) := by decide +kernel
theorem dJ0_charAt_5068e_7 : decode cJ0_charAt_5068e 7 = .ok (.aload_n 0, 1) := by decide +kernel
theorem dJ0_charAt_5068e_8 : decode cJ0_charAt_5068e 8 = .ok (.getfield 9, 3) := by decide +kernel
theorem dJ0_charAt_5068e_11 : decode cJ0_charAt_5068e 11 = .ok (.iload_n 1, 1) := by decide +kernel
theorem dJ0_charAt_5068e_12 : decode cJ0_charAt_5068e 12 = .ok (.invokestatic 495, 3) := by decide +kernel
theorem dJ0_charAt_5068e_15 : decode cJ0_charAt_5068e 15 = .ok (.ireturn, 1) := by decide +kernel
theorem dJ0_charAt_5068e_16 : decode cJ0_charAt_5068e 16 = .ok (.aload_n 0, 1) := by decide +kernel
theorem dJ0_charAt_5068e_17 : decode cJ0_charAt_5068e 17 = .ok (.getfield 9, 3) := by decide +kernel
theorem dJ0_charAt_5068e_20 : decode cJ0_charAt_5068e 20 = .ok (.iload_n 1, 1) := by decide +kernel
theorem dJ0_charAt_5068e_21 : decode cJ0_charAt_5068e 21 = .ok (.invokestatic 498, 3) := by decide +kernel
theorem dJ0_charAt_5068e_24 : decode cJ0_charAt_5068e 24 = .ok (.ireturn, 1) := by decide +kernel
theorem dJ0_coder_7d493_0 : decode cJ0_coder_7d493 0 = .ok (.getstatic 38, 3) := by decide +kernel
theorem dJ0_coder_7d493_3 : decode cJ0_coder_7d493 3 = .ok (.ifCond .eq 10, 3) := by decide +kernel
theorem dJ0_coder_7d493_6 : decode cJ0_coder_7d493 6 = .ok (.aload_n 0, 1) := by decide +kernel
theorem dJ0_coder_7d493_7 : decode cJ0_coder_7d493 7 = .ok (.getfield 15, 3) := by decide +kernel
theorem dJ0_coder_7d493_10 : decode cJ0_coder_7d493 10 = .ok (.goto 4, 3) := by decide +kernel
theorem dJ0_coder_7d493_13 : decode cJ0_coder_7d493 13 = .ok (.iconst 1, 1) := by decide +kernel
theorem dJ0_coder_7d493_14 : decode cJ0_coder_7d493 14 = .ok (.ireturn, 1) := by decide +kernel
theorem dJ0_isLatin1_aae02_0 : decode cJ0_isLatin1_aae02 0 = .ok (.getstatic 38, 3) := by decide +kernel
theorem dJ0_isLatin1_aae02_3 : decode cJ0_isLatin1_aae02 3 = .ok (.ifCond .eq 14, 3) := by decide +kernel
theorem dJ0_isLatin1_aae02_6 : decode cJ0_isLatin1_aae02 6 = .ok (.aload_n 0, 1) := by decide +kernel
theorem dJ0_isLatin1_aae02_7 : decode cJ0_isLatin1_aae02 7 = .ok (.getfield 15, 3) := by decide +kernel
theorem dJ0_isLatin1_aae02_10 : decode cJ0_isLatin1_aae02 10 = .ok (.ifCond .ne 7, 3) := by decide +kernel
theorem dJ0_isLatin1_aae02_13 : decode cJ0_isLatin1_aae02 13 = .ok (.iconst 1, 1) := by decide +kernel
theorem dJ0_isLatin1_aae02_14 : decode cJ0_isLatin1_aae02 14 = .ok (.goto 4, 3) := by decide +kernel
theorem dJ0_isLatin1_aae02_17 : decode cJ0_isLatin1_aae02 17 = .ok (.iconst 0, 1) := by decide +kernel
theorem dJ0_isLatin1_aae02_18 : decode cJ0_isLatin1_aae02 18 = .ok (.ireturn, 1) := by decide +kernel
theorem dJ0_checkIndex_df160_0 : decode cJ0_checkIndex_df160 0 = .ok (.iload_n 0, 1) := by decide +kernel
theorem dJ0_checkIndex_df160_1 : decode cJ0_checkIndex_df160 1 = .ok (.iload_n 1, 1) := by decide +kernel
theorem dJ0_checkIndex_df160_2 : decode cJ0_checkIndex_df160 2 = .ok (.getstatic 1053, 3) := by decide +kernel
theorem dJ0_checkIndex_df160_5 : decode cJ0_checkIndex_df160 5 = .ok (.invokestatic 1059, 3) := by decide +kernel
theorem dJ0_checkIndex_df160_8 : decode cJ0_checkIndex_df160 8 = .ok (.pop, 1) := by decide +kernel
theorem dJ0_checkIndex_df160_9 : decode cJ0_checkIndex_df160 9 = .ok (.return_, 1) := by decide +kernel
theorem dJ1_charAt_3b067_0 : decode cJ1_charAt_3b067 0 = .ok (.iload_n 1, 1) := by decide +kernel
theorem dJ1_charAt_3b067_1 : decode cJ1_charAt_3b067 1 = .ok (.aload_n 0, 1) := by decide +kernel
theorem dJ1_charAt_3b067_2 : decode cJ1_charAt_3b067 2 = .ok (.arraylength, 1) := by decide +kernel
theorem dJ1_charAt_3b067_3 : decode cJ1_charAt_3b067 3 = .ok (.invokestatic 9, 3) := by decide +kernel
theorem dJ1_charAt_3b067_6 : decode cJ1_charAt_3b067 6 = .ok (.aload_n 0, 1) := by decide +kernel
theorem dJ1_charAt_3b067_7 : decode cJ1_charAt_3b067 7 = .ok (.iload_n 1, 1) := by decide +kernel
theorem dJ1_charAt_3b067_8 : decode cJ1_charAt_3b067 8 = .ok (.baload, 1) := by decide +kernel
theorem dJ1_charAt_3b067_9 : decode cJ1_charAt_3b067 9 = .ok (.sipush 255, 3) := by decide +kernel
theorem dJ1_charAt_3b067_12 : decode cJ1_charAt_3b067 12 = .ok (.iand, 1) := by decide +kernel
theorem dJ1_charAt_3b067_13 : decode cJ1_charAt_3b067 13 = .ok (.i2c, 1) := by decide +kernel
theorem dJ1_charAt_3b067_14 : decode cJ1_charAt_3b067 14 = .ok (.ireturn, 1) := by decide +kernel
theorem dJ2_getChar_3b067_0 : decode cJ2_getChar_3b067 0 = .ok (.getstatic 44, 3) := by decide +kernel
theorem dJ2_getChar_3b067_3 : decode cJ2_getChar_3b067 3 = .ok (.ifCond .ne 25, 3) := by decide +kernel
theorem dJ2_getChar_3b067_6 : decode cJ2_getChar_3b067 6 = .ok (.iload_n 1, 1) := by decide +kernel
theorem dJ2_getChar_3b067_7 : decode cJ2_getChar_3b067 7 = .ok (.ifCond .lt 11, 3) := by decide +kernel
theorem dJ2_getChar_3b067_10 : decode cJ2_getChar_3b067 10 = .ok (.iload_n 1, 1) := by decide +kernel
theorem dJ2_getChar_3b067_11 : decode cJ2_getChar_3b067 11 = .ok (.aload_n 0, 1) := by decide +kernel
theorem dJ2_getChar_3b067_12 : decode cJ2_getChar_3b067 12 = .ok (.invokestatic 48, 3) := by decide +kernel
theorem dJ2_getChar_3b067_15 : decode cJ2_getChar_3b067 15 = .ok (.if_icmp .lt 13, 3) := by decide +kernel
theorem dJ2_getChar_3b067_18 : decode cJ2_getChar_3b067 18 = .ok (.new 52, 3) := by decide +kernel
theorem dJ2_getChar_3b067_21 : decode cJ2_getChar_3b067 21 = .ok (.dup, 1) := by decide +kernel
theorem dJ2_getChar_3b067_22 : decode cJ2_getChar_3b067 22 = .ok (.ldc 54, 2) := by decide +kernel
theorem dJ2_getChar_3b067_24 : decode cJ2_getChar_3b067 24 = .ok (.invokespecial 56, 3) := by decide +kernel
theorem dJ2_getChar_3b067_27 : decode cJ2_getChar_3b067 27 = .ok (.athrow, 1) := by decide +kernel
theorem dJ2_getChar_3b067_28 : decode cJ2_getChar_3b067 28 = .ok (.iload_n 1, 1) := by decide +kernel
theorem dJ2_getChar_3b067_29 : decode cJ2_getChar_3b067 29 = .ok (.iconst 1, 1) := by decide +kernel
theorem dJ2_getChar_3b067_30 : decode cJ2_getChar_3b067 30 = .ok (.ishl, 1) := by decide +kernel
theorem dJ2_getChar_3b067_31 : decode cJ2_getChar_3b067 31 = .ok (.istore_n 1, 1) := by decide +kernel
theorem dJ2_getChar_3b067_32 : decode cJ2_getChar_3b067 32 = .ok (.aload_n 0, 1) := by decide +kernel
theorem dJ2_getChar_3b067_33 : decode cJ2_getChar_3b067 33 = .ok (.iload_n 1, 1) := by decide +kernel
theorem dJ2_getChar_3b067_34 : decode cJ2_getChar_3b067 34 = .ok (.iinc 1 1, 3) := by decide +kernel
theorem dJ2_getChar_3b067_37 : decode cJ2_getChar_3b067 37 = .ok (.baload, 1) := by decide +kernel
theorem dJ2_getChar_3b067_38 : decode cJ2_getChar_3b067 38 = .ok (.sipush 255, 3) := by decide +kernel
theorem dJ2_getChar_3b067_41 : decode cJ2_getChar_3b067 41 = .ok (.iand, 1) := by decide +kernel
theorem dJ2_getChar_3b067_42 : decode cJ2_getChar_3b067 42 = .ok (.getstatic 59, 3) := by decide +kernel
theorem dJ2_getChar_3b067_45 : decode cJ2_getChar_3b067 45 = .ok (.ishl, 1) := by decide +kernel
theorem dJ2_getChar_3b067_46 : decode cJ2_getChar_3b067 46 = .ok (.aload_n 0, 1) := by decide +kernel
theorem dJ2_getChar_3b067_47 : decode cJ2_getChar_3b067 47 = .ok (.iload_n 1, 1) := by decide +kernel
theorem dJ2_getChar_3b067_48 : decode cJ2_getChar_3b067 48 = .ok (.baload, 1) := by decide +kernel
theorem dJ2_getChar_3b067_49 : decode cJ2_getChar_3b067 49 = .ok (.sipush 255, 3) := by decide +kernel
theorem dJ2_getChar_3b067_52 : decode cJ2_getChar_3b067 52 = .ok (.iand, 1) := by decide +kernel
theorem dJ2_getChar_3b067_53 : decode cJ2_getChar_3b067 53 = .ok (.getstatic 63, 3) := by decide +kernel
theorem dJ2_getChar_3b067_56 : decode cJ2_getChar_3b067 56 = .ok (.ishl, 1) := by decide +kernel
theorem dJ2_getChar_3b067_57 : decode cJ2_getChar_3b067 57 = .ok (.ior, 1) := by decide +kernel
theorem dJ2_getChar_3b067_58 : decode cJ2_getChar_3b067 58 = .ok (.i2c, 1) := by decide +kernel
theorem dJ2_getChar_3b067_59 : decode cJ2_getChar_3b067 59 = .ok (.ireturn, 1) := by decide +kernel
theorem dJ2_length_9d52b_0 : decode cJ2_length_9d52b 0 = .ok (.aload_n 0, 1) := by decide +kernel
theorem dJ2_length_9d52b_1 : decode cJ2_length_9d52b 1 = .ok (.arraylength, 1) := by decide +kernel
theorem dJ2_length_9d52b_2 : decode cJ2_length_9d52b 2 = .ok (.iconst 1, 1) := by decide +kernel
theorem dJ2_length_9d52b_3 : decode cJ2_length_9d52b 3 = .ok (.ishr, 1) := by decide +kernel
theorem dJ2_length_9d52b_4 : decode cJ2_length_9d52b 4 = .ok (.ireturn, 1) := by decide +kernel
theorem dJ2_charAt_3b067_0 : decode cJ2_charAt_3b067 0 = .ok (.iload_n 1, 1) := by decide +kernel
theorem dJ2_charAt_3b067_1 : decode cJ2_charAt_3b067 1 = .ok (.aload_n 0, 1) := by decide +kernel
theorem dJ2_charAt_3b067_2 : decode cJ2_charAt_3b067 2 = .ok (.invokestatic 67, 3) := by decide +kernel
theorem dJ2_charAt_3b067_5 : decode cJ2_charAt_3b067 5 = .ok (.aload_n 0, 1) := by decide +kernel
theorem dJ2_charAt_3b067_6 : decode cJ2_charAt_3b067 6 = .ok (.iload_n 1, 1) := by decide +kernel
theorem dJ2_charAt_3b067_7 : decode cJ2_charAt_3b067 7 = .ok (.invokestatic 71, 3) := by decide +kernel
theorem dJ2_charAt_3b067_10 : decode cJ2_charAt_3b067 10 = .ok (.ireturn, 1) := by decide +kernel
theorem dJ2_checkIndex_2214a_0 : decode cJ2_checkIndex_2214a 0 = .ok (.iload_n 0, 1) := by decide +kernel
theorem dJ2_checkIndex_2214a_1 : decode cJ2_checkIndex_2214a 1 = .ok (.aload_n 1, 1) := by decide +kernel
theorem dJ2_checkIndex_2214a_2 : decode cJ2_checkIndex_2214a 2 = .ok (.invokestatic 48, 3) := by decide +kernel
theorem dJ2_checkIndex_2214a_5 : decode cJ2_checkIndex_2214a 5 = .ok (.invokestatic 414, 3) := by decide +kernel
theorem dJ2_checkIndex_2214a_8 : decode cJ2_checkIndex_2214a 8 = .ok (.return_, 1) := by decide +kernel
theorem dJ3_checkIndex_8e157_0 : decode cJ3_checkIndex_8e157 0 = .ok (.iload_n 0, 1) := by decide +kernel
theorem dJ3_checkIndex_8e157_1 : decode cJ3_checkIndex_8e157 1 = .ok (.ifCond .lt 8, 3) := by decide +kernel
theorem dJ3_checkIndex_8e157_4 : decode cJ3_checkIndex_8e157 4 = .ok (.iload_n 0, 1) := by decide +kernel
theorem dJ3_checkIndex_8e157_5 : decode cJ3_checkIndex_8e157 5 = .ok (.iload_n 1, 1) := by decide +kernel
theorem dJ3_checkIndex_8e157_6 : decode cJ3_checkIndex_8e157 6 = .ok (.if_icmp .lt 10, 3) := by decide +kernel
theorem dJ3_checkIndex_8e157_9 : decode cJ3_checkIndex_8e157 9 = .ok (.aload_n 2, 1) := by decide +kernel
theorem dJ3_checkIndex_8e157_10 : decode cJ3_checkIndex_8e157 10 = .ok (.iload_n 0, 1) := by decide +kernel
theorem dJ3_checkIndex_8e157_11 : decode cJ3_checkIndex_8e157 11 = .ok (.iload_n 1, 1) := by decide +kernel
theorem dJ3_checkIndex_8e157_12 : decode cJ3_checkIndex_8e157 12 = .ok (.invokestatic 95, 3) := by decide +kernel
theorem dJ3_checkIndex_8e157_15 : decode cJ3_checkIndex_8e157 15 = .ok (.athrow, 1) := by decide +kernel
theorem dJ3_checkIndex_8e157_16 : decode cJ3_checkIndex_8e157 16 = .ok (.iload_n 0, 1) := by decide +kernel
theorem dJ3_checkIndex_8e157_17 : decode cJ3_checkIndex_8e157 17 = .ok (.ireturn, 1) := by decide +kernel
