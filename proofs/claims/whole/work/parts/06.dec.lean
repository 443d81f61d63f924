/-! decode rows: X7 L -/
theorem dX7_init_0 : decode cX7_init 0 = .ok (.aload_n 0, 1) := by decide +kernel
theorem dX7_init_1 : decode cX7_init 1 = .ok (.invokespecial 1, 3) := by decide +kernel
theorem dX7_init_4 : decode cX7_init 4 = .ok (.aload_n 0, 1) := by decide +kernel
theorem dX7_init_5 : decode cX7_init 5 = .ok (.new 7, 3) := by decide +kernel
theorem dX7_init_8 : decode cX7_init 8 = .ok (.dup, 1) := by decide +kernel
theorem dX7_init_9 : decode cX7_init 9 = .ok (.invokespecial 9, 3) := by decide +kernel
theorem dX7_init_12 : decode cX7_init 12 = .ok (.putfield 10, 3) := by decide +kernel
theorem dX7_init_15 : decode cX7_init 15 = .ok (.aload_n 0, 1) := by decide +kernel
theorem dX7_init_16 : decode cX7_init 16 = .ok (.new 16, 3) := by decide +kernel
theorem dX7_init_19 : decode cX7_init 19 = .ok (.dup, 1) := by decide +kernel
theorem dX7_init_20 : decode cX7_init 20 = .ok (.invokespecial 18, 3) := by decide +kernel
theorem dX7_init_23 : decode cX7_init 23 = .ok (.putfield 19, 3) := by decide +kernel
theorem dX7_init_26 : decode cX7_init 26 = .ok (.aload_n 0, 1) := by decide +kernel
theorem dX7_init_27 : decode cX7_init 27 = .ok (.new 16, 3) := by decide +kernel
theorem dX7_init_30 : decode cX7_init 30 = .ok (.dup, 1) := by decide +kernel
theorem dX7_init_31 : decode cX7_init 31 = .ok (.invokespecial 18, 3) := by decide +kernel
theorem dX7_init_34 : decode cX7_init 34 = .ok (.putfield 23, 3) := by decide +kernel
theorem dX7_init_37 : decode cX7_init 37 = .ok (.aload_n 0, 1) := by decide +kernel
theorem dX7_init_38 : decode cX7_init 38 = .ok (.new 16, 3) := by decide +kernel
theorem dX7_init_41 : decode cX7_init 41 = .ok (.dup, 1) := by decide +kernel
theorem dX7_init_42 : decode cX7_init 42 = .ok (.invokespecial 18, 3) := by decide +kernel
theorem dX7_init_45 : decode cX7_init 45 = .ok (.putfield 26, 3) := by decide +kernel
theorem dX7_init_48 : decode cX7_init 48 = .ok (.aload_n 0, 1) := by decide +kernel
theorem dX7_init_49 : decode cX7_init 49 = .ok (.iconst 2, 1) := by decide +kernel
theorem dX7_init_50 : decode cX7_init 50 = .ok (.anewarray 16, 3) := by decide +kernel
theorem dX7_init_53 : decode cX7_init 53 = .ok (.putfield 29, 3) := by decide +kernel
theorem dX7_init_56 : decode cX7_init 56 = .ok (.iconst 0, 1) := by decide +kernel
theorem dX7_init_57 : decode cX7_init 57 = .ok (.istore_n 1, 1) := by decide +kernel
theorem dX7_init_58 : decode cX7_init 58 = .ok (.iload_n 1, 1) := by decide +kernel
theorem dX7_init_59 : decode cX7_init 59 = .ok (.iconst 2, 1) := by decide +kernel
theorem dX7_init_60 : decode cX7_init 60 = .ok (.if_icmp .ge 22, 3) := by decide +kernel
theorem dX7_init_63 : decode cX7_init 63 = .ok (.aload_n 0, 1) := by decide +kernel
theorem dX7_init_64 : decode cX7_init 64 = .ok (.getfield 29, 3) := by decide +kernel
theorem dX7_init_67 : decode cX7_init 67 = .ok (.iload_n 1, 1) := by decide +kernel
theorem dX7_init_68 : decode cX7_init 68 = .ok (.new 16, 3) := by decide +kernel
theorem dX7_init_71 : decode cX7_init 71 = .ok (.dup, 1) := by decide +kernel
theorem dX7_init_72 : decode cX7_init 72 = .ok (.invokespecial 18, 3) := by decide +kernel
theorem dX7_init_75 : decode cX7_init 75 = .ok (.aastore, 1) := by decide +kernel
theorem dX7_init_76 : decode cX7_init 76 = .ok (.iinc 1 1, 3) := by decide +kernel
theorem dX7_init_79 : decode cX7_init 79 = .ok (.goto (-21), 3) := by decide +kernel
theorem dX7_init_82 : decode cX7_init 82 = .ok (.aload_n 0, 1) := by decide +kernel
theorem dX7_init_83 : decode cX7_init 83 = .ok (.iconst 2, 1) := by decide +kernel
theorem dX7_init_84 : decode cX7_init 84 = .ok (.newarray .boolean, 2) := by decide +kernel
theorem dX7_init_86 : decode cX7_init 86 = .ok (.putfield 33, 3) := by decide +kernel
theorem dX7_init_89 : decode cX7_init 89 = .ok (.aload_n 0, 1) := by decide +kernel
theorem dX7_init_90 : decode cX7_init 90 = .ok (.new 37, 3) := by decide +kernel
theorem dX7_init_93 : decode cX7_init 93 = .ok (.dup, 1) := by decide +kernel
theorem dX7_init_94 : decode cX7_init 94 = .ok (.invokespecial 39, 3) := by decide +kernel
theorem dX7_init_97 : decode cX7_init 97 = .ok (.putfield 40, 3) := by decide +kernel
theorem dX7_init_100 : decode cX7_init 100 = .ok (.aload_n 0, 1) := by decide +kernel
theorem dX7_init_101 : decode cX7_init 101 = .ok (.new 44, 3) := by decide +kernel
theorem dX7_init_104 : decode cX7_init 104 = .ok (.dup, 1) := by decide +kernel
theorem dX7_init_105 : decode cX7_init 105 = .ok (.invokespecial 46, 3) := by decide +kernel
theorem dX7_init_108 : decode cX7_init 108 = .ok (.putfield 47, 3) := by decide +kernel
theorem dX7_init_111 : decode cX7_init 111 = .ok (.aload_n 0, 1) := by decide +kernel
theorem dX7_init_112 : decode cX7_init 112 = .ok (.iconst 3, 1) := by decide +kernel
theorem dX7_init_113 : decode cX7_init 113 = .ok (.anewarray 51, 3) := by decide +kernel
theorem dX7_init_116 : decode cX7_init 116 = .ok (.putfield 53, 3) := by decide +kernel
theorem dX7_init_119 : decode cX7_init 119 = .ok (.iconst 0, 1) := by decide +kernel
theorem dX7_init_120 : decode cX7_init 120 = .ok (.istore_n 1, 1) := by decide +kernel
theorem dX7_init_121 : decode cX7_init 121 = .ok (.iload_n 1, 1) := by decide +kernel
theorem dX7_init_122 : decode cX7_init 122 = .ok (.iconst 3, 1) := by decide +kernel
theorem dX7_init_123 : decode cX7_init 123 = .ok (.if_icmp .ge 22, 3) := by decide +kernel
theorem dX7_init_126 : decode cX7_init 126 = .ok (.aload_n 0, 1) := by decide +kernel
theorem dX7_init_127 : decode cX7_init 127 = .ok (.getfield 53, 3) := by decide +kernel
theorem dX7_init_130 : decode cX7_init 130 = .ok (.iload_n 1, 1) := by decide +kernel
theorem dX7_init_131 : decode cX7_init 131 = .ok (.new 51, 3) := by decide +kernel
theorem dX7_init_134 : decode cX7_init 134 = .ok (.dup, 1) := by decide +kernel
theorem dX7_init_135 : decode cX7_init 135 = .ok (.invokespecial 57, 3) := by decide +kernel
theorem dX7_init_138 : decode cX7_init 138 = .ok (.aastore, 1) := by decide +kernel
theorem dX7_init_139 : decode cX7_init 139 = .ok (.iinc 1 1, 3) := by decide +kernel
theorem dX7_init_142 : decode cX7_init 142 = .ok (.goto (-21), 3) := by decide +kernel
theorem dX7_init_145 : decode cX7_init 145 = .ok (.return_, 1) := by decide +kernel
theorem dX7_write_0 : decode cX7_write 0 = .ok (.iload_n 1, 1) := by decide +kernel
theorem dX7_write_1 : decode cX7_write 1 = .ok (.iconst 0, 1) := by decide +kernel
theorem dX7_write_2 : decode cX7_write 2 = .ok (.sipush 255, 3) := by decide +kernel
theorem dX7_write_5 : decode cX7_write 5 = .ok (.invokestatic 58, 3) := by decide +kernel
theorem dX7_write_8 : decode cX7_write 8 = .ok (.ifCond .ne 6, 3) := by decide +kernel
theorem dX7_write_11 : decode cX7_write 11 = .ok (.bipush (-3), 2) := by decide +kernel
theorem dX7_write_13 : decode cX7_write 13 = .ok (.ireturn, 1) := by decide +kernel
theorem dX7_write_14 : decode cX7_write 14 = .ok (.aload_n 0, 1) := by decide +kernel
theorem dX7_write_15 : decode cX7_write 15 = .ok (.getfield 10, 3) := by decide +kernel
theorem dX7_write_18 : decode cX7_write 18 = .ok (.iload_n 1, 1) := by decide +kernel
theorem dX7_write_19 : decode cX7_write 19 = .ok (.i2c, 1) := by decide +kernel
theorem dX7_write_20 : decode cX7_write 20 = .ok (.invokevirtual 62, 3) := by decide +kernel
theorem dX7_write_23 : decode cX7_write 23 = .ok (.ifCond .eq 13, 3) := by decide +kernel
theorem dX7_write_26 : decode cX7_write 26 = .ok (.aload_n 0, 1) := by decide +kernel
theorem dX7_write_27 : decode cX7_write 27 = .ok (.getfield 10, 3) := by decide +kernel
theorem dX7_write_30 : decode cX7_write 30 = .ok (.invokevirtual 66, 3) := by decide +kernel
theorem dX7_write_33 : decode cX7_write 33 = .ok (.goto 5, 3) := by decide +kernel
theorem dX7_write_36 : decode cX7_write 36 = .ok (.bipush (-5), 2) := by decide +kernel
theorem dX7_write_38 : decode cX7_write 38 = .ok (.ireturn, 1) := by decide +kernel
theorem dX7_erase_0 : decode cX7_erase 0 = .ok (.aload_n 0, 1) := by decide +kernel
theorem dX7_erase_1 : decode cX7_erase 1 = .ok (.getfield 10, 3) := by decide +kernel
theorem dX7_erase_4 : decode cX7_erase 4 = .ok (.invokevirtual 66, 3) := by decide +kernel
theorem dX7_erase_7 : decode cX7_erase 7 = .ok (.istore_n 1, 1) := by decide +kernel
theorem dX7_erase_8 : decode cX7_erase 8 = .ok (.aload_n 0, 1) := by decide +kernel
theorem dX7_erase_9 : decode cX7_erase 9 = .ok (.getfield 10, 3) := by decide +kernel
theorem dX7_erase_12 : decode cX7_erase 12 = .ok (.invokevirtual 70, 3) := by decide +kernel
theorem dX7_erase_15 : decode cX7_erase 15 = .ok (.iload_n 1, 1) := by decide +kernel
theorem dX7_erase_16 : decode cX7_erase 16 = .ok (.ireturn, 1) := by decide +kernel
theorem dX7_fault_0 : decode cX7_fault 0 = .ok (.aload_n 0, 1) := by decide +kernel
theorem dX7_fault_1 : decode cX7_fault 1 = .ok (.getfield 10, 3) := by decide +kernel
theorem dX7_fault_4 : decode cX7_fault 4 = .ok (.aload_n 0, 1) := by decide +kernel
theorem dX7_fault_5 : decode cX7_fault 5 = .ok (.getfield 19, 3) := by decide +kernel
theorem dX7_fault_8 : decode cX7_fault 8 = .ok (.aload_n 0, 1) := by decide +kernel
theorem dX7_fault_9 : decode cX7_fault 9 = .ok (.getfield 26, 3) := by decide +kernel
theorem dX7_fault_12 : decode cX7_fault 12 = .ok (.invokevirtual 73, 3) := by decide +kernel
theorem dX7_fault_15 : decode cX7_fault 15 = .ok (.ireturn, 1) := by decide +kernel
theorem dX7_net_0 : decode cX7_net 0 = .ok (.aload_n 0, 1) := by decide +kernel
theorem dX7_net_1 : decode cX7_net 1 = .ok (.getfield 10, 3) := by decide +kernel
theorem dX7_net_4 : decode cX7_net 4 = .ok (.aload_n 0, 1) := by decide +kernel
theorem dX7_net_5 : decode cX7_net 5 = .ok (.getfield 19, 3) := by decide +kernel
theorem dX7_net_8 : decode cX7_net 8 = .ok (.aload_n 0, 1) := by decide +kernel
theorem dX7_net_9 : decode cX7_net 9 = .ok (.getfield 26, 3) := by decide +kernel
theorem dX7_net_12 : decode cX7_net 12 = .ok (.invokevirtual 73, 3) := by decide +kernel
theorem dX7_net_15 : decode cX7_net 15 = .ok (.iconst (-1), 1) := by decide +kernel
theorem dX7_net_16 : decode cX7_net 16 = .ok (.if_icmp .eq 6, 3) := by decide +kernel
theorem dX7_net_19 : decode cX7_net 19 = .ok (.bipush (-4), 2) := by decide +kernel
theorem dX7_net_21 : decode cX7_net 21 = .ok (.ireturn, 1) := by decide +kernel
theorem dX7_net_22 : decode cX7_net 22 = .ok (.aload_n 0, 1) := by decide +kernel
theorem dX7_net_23 : decode cX7_net 23 = .ok (.getfield 19, 3) := by decide +kernel
theorem dX7_net_26 : decode cX7_net 26 = .ok (.aload_n 0, 1) := by decide +kernel
theorem dX7_net_27 : decode cX7_net 27 = .ok (.getfield 26, 3) := by decide +kernel
theorem dX7_net_30 : decode cX7_net 30 = .ok (.invokevirtual 77, 3) := by decide +kernel
theorem dX7_net_33 : decode cX7_net 33 = .ok (.aload_n 0, 1) := by decide +kernel
theorem dX7_net_34 : decode cX7_net 34 = .ok (.getfield 23, 3) := by decide +kernel
theorem dX7_net_37 : decode cX7_net 37 = .ok (.aload_n 0, 1) := by decide +kernel
theorem dX7_net_38 : decode cX7_net 38 = .ok (.getfield 19, 3) := by decide +kernel
theorem dX7_net_41 : decode cX7_net 41 = .ok (.invokevirtual 77, 3) := by decide +kernel
theorem dX7_net_44 : decode cX7_net 44 = .ok (.aload_n 0, 1) := by decide +kernel
theorem dX7_net_45 : decode cX7_net 45 = .ok (.getfield 40, 3) := by decide +kernel
theorem dX7_net_48 : decode cX7_net 48 = .ok (.invokevirtual 81, 3) := by decide +kernel
theorem dX7_net_51 : decode cX7_net 51 = .ok (.iconst 0, 1) := by decide +kernel
theorem dX7_net_52 : decode cX7_net 52 = .ok (.istore_n 1, 1) := by decide +kernel
theorem dX7_net_53 : decode cX7_net 53 = .ok (.iload_n 1, 1) := by decide +kernel
theorem dX7_net_54 : decode cX7_net 54 = .ok (.iconst 2, 1) := by decide +kernel
theorem dX7_net_55 : decode cX7_net 55 = .ok (.if_icmp .ge 16, 3) := by decide +kernel
theorem dX7_net_58 : decode cX7_net 58 = .ok (.aload_n 0, 1) := by decide +kernel
theorem dX7_net_59 : decode cX7_net 59 = .ok (.getfield 33, 3) := by decide +kernel
theorem dX7_net_62 : decode cX7_net 62 = .ok (.iload_n 1, 1) := by decide +kernel
theorem dX7_net_63 : decode cX7_net 63 = .ok (.iconst 0, 1) := by decide +kernel
theorem dX7_net_64 : decode cX7_net 64 = .ok (.bastore, 1) := by decide +kernel
theorem dX7_net_65 : decode cX7_net 65 = .ok (.iinc 1 1, 3) := by decide +kernel
theorem dX7_net_68 : decode cX7_net 68 = .ok (.goto (-15), 3) := by decide +kernel
theorem dX7_net_71 : decode cX7_net 71 = .ok (.iconst 0, 1) := by decide +kernel
theorem dX7_net_72 : decode cX7_net 72 = .ok (.istore_n 1, 1) := by decide +kernel
theorem dX7_net_73 : decode cX7_net 73 = .ok (.iload_n 1, 1) := by decide +kernel
theorem dX7_net_74 : decode cX7_net 74 = .ok (.iconst 3, 1) := by decide +kernel
theorem dX7_net_75 : decode cX7_net 75 = .ok (.if_icmp .ge 18, 3) := by decide +kernel
theorem dX7_net_78 : decode cX7_net 78 = .ok (.aload_n 0, 1) := by decide +kernel
theorem dX7_net_79 : decode cX7_net 79 = .ok (.getfield 53, 3) := by decide +kernel
theorem dX7_net_82 : decode cX7_net 82 = .ok (.iload_n 1, 1) := by decide +kernel
theorem dX7_net_83 : decode cX7_net 83 = .ok (.aaload, 1) := by decide +kernel
theorem dX7_net_84 : decode cX7_net 84 = .ok (.invokevirtual 82, 3) := by decide +kernel
theorem dX7_net_87 : decode cX7_net 87 = .ok (.iinc 1 1, 3) := by decide +kernel
theorem dX7_net_90 : decode cX7_net 90 = .ok (.goto (-17), 3) := by decide +kernel
theorem dX7_net_93 : decode cX7_net 93 = .ok (.aload_n 0, 1) := by decide +kernel
theorem dX7_net_94 : decode cX7_net 94 = .ok (.getfield 10, 3) := by decide +kernel
theorem dX7_net_97 : decode cX7_net 97 = .ok (.invokevirtual 70, 3) := by decide +kernel
theorem dX7_net_100 : decode cX7_net 100 = .ok (.aload_n 0, 1) := by decide +kernel
theorem dX7_net_101 : decode cX7_net 101 = .ok (.getfield 10, 3) := by decide +kernel
theorem dX7_net_104 : decode cX7_net 104 = .ok (.invokevirtual 85, 3) := by decide +kernel
theorem dX7_net_107 : decode cX7_net 107 = .ok (.ireturn, 1) := by decide +kernel
theorem dX7_path_0 : decode cX7_path 0 = .ok (.aload_n 0, 1) := by decide +kernel
theorem dX7_path_1 : decode cX7_path 1 = .ok (.iload_n 1, 1) := by decide +kernel
theorem dX7_path_2 : decode cX7_path 2 = .ok (.invokevirtual 88, 3) := by decide +kernel
theorem dX7_path_5 : decode cX7_path 5 = .ok (.ifCond .ne 6, 3) := by decide +kernel
theorem dX7_path_8 : decode cX7_path 8 = .ok (.bipush (-2), 2) := by decide +kernel
theorem dX7_path_10 : decode cX7_path 10 = .ok (.ireturn, 1) := by decide +kernel
theorem dX7_path_11 : decode cX7_path 11 = .ok (.iload_n 2, 1) := by decide +kernel
theorem dX7_path_12 : decode cX7_path 12 = .ok (.tableswitch 106 0 5 #[40, 50, 60, 70, 80, 93], 40) := by decide +kernel
theorem dX7_path_52 : decode cX7_path 52 = .ok (.aload_n 0, 1) := by decide +kernel
theorem dX7_path_53 : decode cX7_path 53 = .ok (.getfield 23, 3) := by decide +kernel
theorem dX7_path_56 : decode cX7_path 56 = .ok (.getfield 92, 3) := by decide +kernel
theorem dX7_path_59 : decode cX7_path 59 = .ok (.iload_n 1, 1) := by decide +kernel
theorem dX7_path_60 : decode cX7_path 60 = .ok (.iaload, 1) := by decide +kernel
theorem dX7_path_61 : decode cX7_path 61 = .ok (.ireturn, 1) := by decide +kernel
theorem dX7_path_62 : decode cX7_path 62 = .ok (.aload_n 0, 1) := by decide +kernel
theorem dX7_path_63 : decode cX7_path 63 = .ok (.getfield 23, 3) := by decide +kernel
theorem dX7_path_66 : decode cX7_path 66 = .ok (.getfield 96, 3) := by decide +kernel
theorem dX7_path_69 : decode cX7_path 69 = .ok (.iload_n 1, 1) := by decide +kernel
theorem dX7_path_70 : decode cX7_path 70 = .ok (.iaload, 1) := by decide +kernel
theorem dX7_path_71 : decode cX7_path 71 = .ok (.ireturn, 1) := by decide +kernel
theorem dX7_path_72 : decode cX7_path 72 = .ok (.aload_n 0, 1) := by decide +kernel
theorem dX7_path_73 : decode cX7_path 73 = .ok (.getfield 23, 3) := by decide +kernel
theorem dX7_path_76 : decode cX7_path 76 = .ok (.getfield 99, 3) := by decide +kernel
theorem dX7_path_79 : decode cX7_path 79 = .ok (.iload_n 1, 1) := by decide +kernel
theorem dX7_path_80 : decode cX7_path 80 = .ok (.iaload, 1) := by decide +kernel
theorem dX7_path_81 : decode cX7_path 81 = .ok (.ireturn, 1) := by decide +kernel
theorem dX7_path_82 : decode cX7_path 82 = .ok (.aload_n 0, 1) := by decide +kernel
theorem dX7_path_83 : decode cX7_path 83 = .ok (.getfield 23, 3) := by decide +kernel
theorem dX7_path_86 : decode cX7_path 86 = .ok (.getfield 102, 3) := by decide +kernel
theorem dX7_path_89 : decode cX7_path 89 = .ok (.iload_n 1, 1) := by decide +kernel
theorem dX7_path_90 : decode cX7_path 90 = .ok (.iaload, 1) := by decide +kernel
theorem dX7_path_91 : decode cX7_path 91 = .ok (.ireturn, 1) := by decide +kernel
theorem dX7_path_92 : decode cX7_path 92 = .ok (.sipush 2000, 3) := by decide +kernel
theorem dX7_path_95 : decode cX7_path 95 = .ok (.aload_n 0, 1) := by decide +kernel
theorem dX7_path_96 : decode cX7_path 96 = .ok (.getfield 23, 3) := by decide +kernel
theorem dX7_path_99 : decode cX7_path 99 = .ok (.iload_n 1, 1) := by decide +kernel
theorem dX7_path_100 : decode cX7_path 100 = .ok (.invokevirtual 105, 3) := by decide +kernel
theorem dX7_path_103 : decode cX7_path 103 = .ok (.iadd, 1) := by decide +kernel
theorem dX7_path_104 : decode cX7_path 104 = .ok (.ireturn, 1) := by decide +kernel
theorem dX7_path_105 : decode cX7_path 105 = .ok (.sipush 2000, 3) := by decide +kernel
theorem dX7_path_108 : decode cX7_path 108 = .ok (.aload_n 0, 1) := by decide +kernel
theorem dX7_path_109 : decode cX7_path 109 = .ok (.getfield 23, 3) := by decide +kernel
theorem dX7_path_112 : decode cX7_path 112 = .ok (.iload_n 1, 1) := by decide +kernel
theorem dX7_path_113 : decode cX7_path 113 = .ok (.invokevirtual 109, 3) := by decide +kernel
theorem dX7_path_116 : decode cX7_path 116 = .ok (.iadd, 1) := by decide +kernel
theorem dX7_path_117 : decode cX7_path 117 = .ok (.ireturn, 1) := by decide +kernel
theorem dX7_path_118 : decode cX7_path 118 = .ok (.bipush (-3), 2) := by decide +kernel
theorem dX7_path_120 : decode cX7_path 120 = .ok (.ireturn, 1) := by decide +kernel
theorem dX7_period_0 : decode cX7_period 0 = .ok (.iload_n 1, 1) := by decide +kernel
theorem dX7_period_1 : decode cX7_period 1 = .ok (.iconst 0, 1) := by decide +kernel
theorem dX7_period_2 : decode cX7_period 2 = .ok (.sipush 999, 3) := by decide +kernel
theorem dX7_period_5 : decode cX7_period 5 = .ok (.invokestatic 58, 3) := by decide +kernel
theorem dX7_period_8 : decode cX7_period 8 = .ok (.ifCond .ne 6, 3) := by decide +kernel
theorem dX7_period_11 : decode cX7_period 11 = .ok (.bipush (-3), 2) := by decide +kernel
theorem dX7_period_13 : decode cX7_period 13 = .ok (.ireturn, 1) := by decide +kernel
theorem dX7_period_14 : decode cX7_period 14 = .ok (.aload_n 0, 1) := by decide +kernel
theorem dX7_period_15 : decode cX7_period 15 = .ok (.getfield 23, 3) := by decide +kernel
theorem dX7_period_18 : decode cX7_period 18 = .ok (.getfield 112, 3) := by decide +kernel
theorem dX7_period_21 : decode cX7_period 21 = .ok (.istore_n 2, 1) := by decide +kernel
theorem dX7_period_22 : decode cX7_period 22 = .ok (.iload_n 1, 1) := by decide +kernel
theorem dX7_period_23 : decode cX7_period 23 = .ok (.iload_n 2, 1) := by decide +kernel
theorem dX7_period_24 : decode cX7_period 24 = .ok (.if_icmp .ne 6, 3) := by decide +kernel
theorem dX7_period_27 : decode cX7_period 27 = .ok (.bipush (-4), 2) := by decide +kernel
theorem dX7_period_29 : decode cX7_period 29 = .ok (.ireturn, 1) := by decide +kernel
theorem dX7_period_30 : decode cX7_period 30 = .ok (.aload_n 0, 1) := by decide +kernel
theorem dX7_period_31 : decode cX7_period 31 = .ok (.getfield 40, 3) := by decide +kernel
theorem dX7_period_34 : decode cX7_period 34 = .ok (.iconst (-1), 1) := by decide +kernel
theorem dX7_period_35 : decode cX7_period 35 = .ok (.iload_n 2, 1) := by decide +kernel
theorem dX7_period_36 : decode cX7_period 36 = .ok (.invokevirtual 116, 3) := by decide +kernel
theorem dX7_period_39 : decode cX7_period 39 = .ok (.aload_n 0, 1) := by decide +kernel
theorem dX7_period_40 : decode cX7_period 40 = .ok (.getfield 23, 3) := by decide +kernel
theorem dX7_period_43 : decode cX7_period 43 = .ok (.iload_n 1, 1) := by decide +kernel
theorem dX7_period_44 : decode cX7_period 44 = .ok (.putfield 112, 3) := by decide +kernel
theorem dX7_period_47 : decode cX7_period 47 = .ok (.iload_n 2, 1) := by decide +kernel
theorem dX7_period_48 : decode cX7_period 48 = .ok (.ireturn, 1) := by decide +kernel
theorem dX7_slower_0 : decode cX7_slower 0 = .ok (.aload_n 0, 1) := by decide +kernel
theorem dX7_slower_1 : decode cX7_slower 1 = .ok (.iload_n 1, 1) := by decide +kernel
theorem dX7_slower_2 : decode cX7_slower 2 = .ok (.invokevirtual 88, 3) := by decide +kernel
theorem dX7_slower_5 : decode cX7_slower 5 = .ok (.ifCond .ne 6, 3) := by decide +kernel
theorem dX7_slower_8 : decode cX7_slower 8 = .ok (.bipush (-2), 2) := by decide +kernel
theorem dX7_slower_10 : decode cX7_slower 10 = .ok (.ireturn, 1) := by decide +kernel
theorem dX7_slower_11 : decode cX7_slower 11 = .ok (.iload_n 2, 1) := by decide +kernel
theorem dX7_slower_12 : decode cX7_slower 12 = .ok (.iconst 1, 1) := by decide +kernel
theorem dX7_slower_13 : decode cX7_slower 13 = .ok (.bipush 20, 2) := by decide +kernel
theorem dX7_slower_15 : decode cX7_slower 15 = .ok (.invokestatic 58, 3) := by decide +kernel
theorem dX7_slower_18 : decode cX7_slower 18 = .ok (.ifCond .ne 6, 3) := by decide +kernel
theorem dX7_slower_21 : decode cX7_slower 21 = .ok (.bipush (-3), 2) := by decide +kernel
theorem dX7_slower_23 : decode cX7_slower 23 = .ok (.ireturn, 1) := by decide +kernel
theorem dX7_slower_24 : decode cX7_slower 24 = .ok (.aload_n 0, 1) := by decide +kernel
theorem dX7_slower_25 : decode cX7_slower 25 = .ok (.getfield 23, 3) := by decide +kernel
theorem dX7_slower_28 : decode cX7_slower 28 = .ok (.iload_n 1, 1) := by decide +kernel
theorem dX7_slower_29 : decode cX7_slower 29 = .ok (.iload_n 2, 1) := by decide +kernel
theorem dX7_slower_30 : decode cX7_slower 30 = .ok (.invokevirtual 120, 3) := by decide +kernel
theorem dX7_slower_33 : decode cX7_slower 33 = .ok (.ifCond .ne 6, 3) := by decide +kernel
theorem dX7_slower_36 : decode cX7_slower 36 = .ok (.bipush (-4), 2) := by decide +kernel
theorem dX7_slower_38 : decode cX7_slower 38 = .ok (.ireturn, 1) := by decide +kernel
theorem dX7_slower_39 : decode cX7_slower 39 = .ok (.aload_n 0, 1) := by decide +kernel
theorem dX7_slower_40 : decode cX7_slower 40 = .ok (.getfield 40, 3) := by decide +kernel
theorem dX7_slower_43 : decode cX7_slower 43 = .ok (.iload_n 1, 1) := by decide +kernel
theorem dX7_slower_44 : decode cX7_slower 44 = .ok (.iload_n 2, 1) := by decide +kernel
theorem dX7_slower_45 : decode cX7_slower 45 = .ok (.invokevirtual 116, 3) := by decide +kernel
theorem dX7_slower_48 : decode cX7_slower 48 = .ok (.aload_n 0, 1) := by decide +kernel
theorem dX7_slower_49 : decode cX7_slower 49 = .ok (.getfield 23, 3) := by decide +kernel
theorem dX7_slower_52 : decode cX7_slower 52 = .ok (.iload_n 1, 1) := by decide +kernel
theorem dX7_slower_53 : decode cX7_slower 53 = .ok (.iload_n 2, 1) := by decide +kernel
theorem dX7_slower_54 : decode cX7_slower 54 = .ok (.invokevirtual 124, 3) := by decide +kernel
theorem dX7_slower_57 : decode cX7_slower 57 = .ok (.aload_n 0, 1) := by decide +kernel
theorem dX7_slower_58 : decode cX7_slower 58 = .ok (.getfield 23, 3) := by decide +kernel
theorem dX7_slower_61 : decode cX7_slower 61 = .ok (.getfield 99, 3) := by decide +kernel
theorem dX7_slower_64 : decode cX7_slower 64 = .ok (.iload_n 1, 1) := by decide +kernel
theorem dX7_slower_65 : decode cX7_slower 65 = .ok (.iaload, 1) := by decide +kernel
theorem dX7_slower_66 : decode cX7_slower 66 = .ok (.ireturn, 1) := by decide +kernel
theorem dX7_undo_0 : decode cX7_undo 0 = .ok (.aload_n 0, 1) := by decide +kernel
theorem dX7_undo_1 : decode cX7_undo 1 = .ok (.getfield 40, 3) := by decide +kernel
theorem dX7_undo_4 : decode cX7_undo 4 = .ok (.invokevirtual 127, 3) := by decide +kernel
theorem dX7_undo_7 : decode cX7_undo 7 = .ok (.ifCond .ne 6, 3) := by decide +kernel
theorem dX7_undo_10 : decode cX7_undo 10 = .ok (.bipush (-4), 2) := by decide +kernel
theorem dX7_undo_12 : decode cX7_undo 12 = .ok (.ireturn, 1) := by decide +kernel
theorem dX7_undo_13 : decode cX7_undo 13 = .ok (.aload_n 0, 1) := by decide +kernel
theorem dX7_undo_14 : decode cX7_undo 14 = .ok (.getfield 40, 3) := by decide +kernel
theorem dX7_undo_17 : decode cX7_undo 17 = .ok (.aload_n 0, 1) := by decide +kernel
theorem dX7_undo_18 : decode cX7_undo 18 = .ok (.getfield 23, 3) := by decide +kernel
theorem dX7_undo_21 : decode cX7_undo 21 = .ok (.invokevirtual 130, 3) := by decide +kernel
theorem dX7_undo_24 : decode cX7_undo 24 = .ok (.aload_n 0, 1) := by decide +kernel
theorem dX7_undo_25 : decode cX7_undo 25 = .ok (.getfield 40, 3) := by decide +kernel
theorem dX7_undo_28 : decode cX7_undo 28 = .ok (.invokevirtual 127, 3) := by decide +kernel
theorem dX7_undo_31 : decode cX7_undo 31 = .ok (.ireturn, 1) := by decide +kernel
theorem dX7_keep_0 : decode cX7_keep 0 = .ok (.iload_n 1, 1) := by decide +kernel
theorem dX7_keep_1 : decode cX7_keep 1 = .ok (.invokestatic 133, 3) := by decide +kernel
theorem dX7_keep_4 : decode cX7_keep 4 = .ok (.ifCond .ne 6, 3) := by decide +kernel
theorem dX7_keep_7 : decode cX7_keep 7 = .ok (.bipush (-2), 2) := by decide +kernel
theorem dX7_keep_9 : decode cX7_keep 9 = .ok (.ireturn, 1) := by decide +kernel
theorem dX7_keep_10 : decode cX7_keep 10 = .ok (.aload_n 0, 1) := by decide +kernel
theorem dX7_keep_11 : decode cX7_keep 11 = .ok (.getfield 29, 3) := by decide +kernel
theorem dX7_keep_14 : decode cX7_keep 14 = .ok (.iload_n 1, 1) := by decide +kernel
theorem dX7_keep_15 : decode cX7_keep 15 = .ok (.aaload, 1) := by decide +kernel
theorem dX7_keep_16 : decode cX7_keep 16 = .ok (.aload_n 0, 1) := by decide +kernel
theorem dX7_keep_17 : decode cX7_keep 17 = .ok (.getfield 23, 3) := by decide +kernel
theorem dX7_keep_20 : decode cX7_keep 20 = .ok (.invokevirtual 77, 3) := by decide +kernel
theorem dX7_keep_23 : decode cX7_keep 23 = .ok (.aload_n 0, 1) := by decide +kernel
theorem dX7_keep_24 : decode cX7_keep 24 = .ok (.getfield 33, 3) := by decide +kernel
theorem dX7_keep_27 : decode cX7_keep 27 = .ok (.iload_n 1, 1) := by decide +kernel
theorem dX7_keep_28 : decode cX7_keep 28 = .ok (.iconst 1, 1) := by decide +kernel
theorem dX7_keep_29 : decode cX7_keep 29 = .ok (.bastore, 1) := by decide +kernel
theorem dX7_keep_30 : decode cX7_keep 30 = .ok (.aload_n 0, 1) := by decide +kernel
theorem dX7_keep_31 : decode cX7_keep 31 = .ok (.getfield 23, 3) := by decide +kernel
theorem dX7_keep_34 : decode cX7_keep 34 = .ok (.getfield 112, 3) := by decide +kernel
theorem dX7_keep_37 : decode cX7_keep 37 = .ok (.ireturn, 1) := by decide +kernel
theorem dX7_back_0 : decode cX7_back 0 = .ok (.iload_n 1, 1) := by decide +kernel
theorem dX7_back_1 : decode cX7_back 1 = .ok (.invokestatic 133, 3) := by decide +kernel
theorem dX7_back_4 : decode cX7_back 4 = .ok (.ifCond .ne 6, 3) := by decide +kernel
theorem dX7_back_7 : decode cX7_back 7 = .ok (.bipush (-2), 2) := by decide +kernel
theorem dX7_back_9 : decode cX7_back 9 = .ok (.ireturn, 1) := by decide +kernel
theorem dX7_back_10 : decode cX7_back 10 = .ok (.aload_n 0, 1) := by decide +kernel
theorem dX7_back_11 : decode cX7_back 11 = .ok (.getfield 33, 3) := by decide +kernel
theorem dX7_back_14 : decode cX7_back 14 = .ok (.iload_n 1, 1) := by decide +kernel
theorem dX7_back_15 : decode cX7_back 15 = .ok (.baload, 1) := by decide +kernel
theorem dX7_back_16 : decode cX7_back 16 = .ok (.ifCond .ne 6, 3) := by decide +kernel
theorem dX7_back_19 : decode cX7_back 19 = .ok (.bipush (-4), 2) := by decide +kernel
theorem dX7_back_21 : decode cX7_back 21 = .ok (.ireturn, 1) := by decide +kernel
theorem dX7_back_22 : decode cX7_back 22 = .ok (.aload_n 0, 1) := by decide +kernel
theorem dX7_back_23 : decode cX7_back 23 = .ok (.getfield 23, 3) := by decide +kernel
theorem dX7_back_26 : decode cX7_back 26 = .ok (.aload_n 0, 1) := by decide +kernel
theorem dX7_back_27 : decode cX7_back 27 = .ok (.getfield 29, 3) := by decide +kernel
theorem dX7_back_30 : decode cX7_back 30 = .ok (.iload_n 1, 1) := by decide +kernel
theorem dX7_back_31 : decode cX7_back 31 = .ok (.aaload, 1) := by decide +kernel
theorem dX7_back_32 : decode cX7_back 32 = .ok (.invokevirtual 77, 3) := by decide +kernel
theorem dX7_back_35 : decode cX7_back 35 = .ok (.aload_n 0, 1) := by decide +kernel
theorem dX7_back_36 : decode cX7_back 36 = .ok (.getfield 40, 3) := by decide +kernel
theorem dX7_back_39 : decode cX7_back 39 = .ok (.invokevirtual 81, 3) := by decide +kernel
theorem dX7_back_42 : decode cX7_back 42 = .ok (.aload_n 0, 1) := by decide +kernel
theorem dX7_back_43 : decode cX7_back 43 = .ok (.getfield 23, 3) := by decide +kernel
theorem dX7_back_46 : decode cX7_back 46 = .ok (.getfield 112, 3) := by decide +kernel
theorem dX7_back_49 : decode cX7_back 49 = .ok (.ireturn, 1) := by decide +kernel
theorem dX7_feasible_0 : decode cX7_feasible 0 = .ok (.aload_n 0, 1) := by decide +kernel
theorem dX7_feasible_1 : decode cX7_feasible 1 = .ok (.getfield 47, 3) := by decide +kernel
theorem dX7_feasible_4 : decode cX7_feasible 4 = .ok (.aload_n 0, 1) := by decide +kernel
theorem dX7_feasible_5 : decode cX7_feasible 5 = .ok (.getfield 23, 3) := by decide +kernel
theorem dX7_feasible_8 : decode cX7_feasible 8 = .ok (.invokevirtual 136, 3) := by decide +kernel
theorem dX7_feasible_11 : decode cX7_feasible 11 = .ok (.ifCond .eq 7, 3) := by decide +kernel
theorem dX7_feasible_14 : decode cX7_feasible 14 = .ok (.iconst 1, 1) := by decide +kernel
theorem dX7_feasible_15 : decode cX7_feasible 15 = .ok (.goto 4, 3) := by decide +kernel
theorem dX7_feasible_18 : decode cX7_feasible 18 = .ok (.iconst 0, 1) := by decide +kernel
theorem dX7_feasible_19 : decode cX7_feasible 19 = .ok (.ireturn, 1) := by decide +kernel
theorem dX7_shift_0 : decode cX7_shift 0 = .ok (.iload_n 1, 1) := by decide +kernel
theorem dX7_shift_1 : decode cX7_shift 1 = .ok (.iconst 0, 1) := by decide +kernel
theorem dX7_shift_2 : decode cX7_shift 2 = .ok (.aload_n 0, 1) := by decide +kernel
theorem dX7_shift_3 : decode cX7_shift 3 = .ok (.getfield 23, 3) := by decide +kernel
theorem dX7_shift_6 : decode cX7_shift 6 = .ok (.getfield 140, 3) := by decide +kernel
theorem dX7_shift_9 : decode cX7_shift 9 = .ok (.iconst 1, 1) := by decide +kernel
theorem dX7_shift_10 : decode cX7_shift 10 = .ok (.isub, 1) := by decide +kernel
theorem dX7_shift_11 : decode cX7_shift 11 = .ok (.invokestatic 58, 3) := by decide +kernel
theorem dX7_shift_14 : decode cX7_shift 14 = .ok (.ifCond .ne 6, 3) := by decide +kernel
theorem dX7_shift_17 : decode cX7_shift 17 = .ok (.bipush (-2), 2) := by decide +kernel
theorem dX7_shift_19 : decode cX7_shift 19 = .ok (.ireturn, 1) := by decide +kernel
theorem dX7_shift_20 : decode cX7_shift 20 = .ok (.aload_n 0, 1) := by decide +kernel
theorem dX7_shift_21 : decode cX7_shift 21 = .ok (.getfield 47, 3) := by decide +kernel
theorem dX7_shift_24 : decode cX7_shift 24 = .ok (.aload_n 0, 1) := by decide +kernel
theorem dX7_shift_25 : decode cX7_shift 25 = .ok (.getfield 23, 3) := by decide +kernel
theorem dX7_shift_28 : decode cX7_shift 28 = .ok (.invokevirtual 136, 3) := by decide +kernel
theorem dX7_shift_31 : decode cX7_shift 31 = .ok (.ifCond .ne 6, 3) := by decide +kernel
theorem dX7_shift_34 : decode cX7_shift 34 = .ok (.bipush (-4), 2) := by decide +kernel
theorem dX7_shift_36 : decode cX7_shift 36 = .ok (.ireturn, 1) := by decide +kernel
theorem dX7_shift_37 : decode cX7_shift 37 = .ok (.aload_n 0, 1) := by decide +kernel
theorem dX7_shift_38 : decode cX7_shift 38 = .ok (.getfield 47, 3) := by decide +kernel
theorem dX7_shift_41 : decode cX7_shift 41 = .ok (.iload_n 1, 1) := by decide +kernel
theorem dX7_shift_42 : decode cX7_shift 42 = .ok (.invokevirtual 143, 3) := by decide +kernel
theorem dX7_shift_45 : decode cX7_shift 45 = .ok (.ineg, 1) := by decide +kernel
theorem dX7_shift_46 : decode cX7_shift 46 = .ok (.aload_n 0, 1) := by decide +kernel
theorem dX7_shift_47 : decode cX7_shift 47 = .ok (.getfield 23, 3) := by decide +kernel
theorem dX7_shift_50 : decode cX7_shift 50 = .ok (.getfield 146, 3) := by decide +kernel
theorem dX7_shift_53 : decode cX7_shift 53 = .ok (.imul, 1) := by decide +kernel
theorem dX7_shift_54 : decode cX7_shift 54 = .ok (.ireturn, 1) := by decide +kernel
theorem dX7_least_0 : decode cX7_least 0 = .ok (.aload_n 0, 1) := by decide +kernel
theorem dX7_least_1 : decode cX7_least 1 = .ok (.getfield 47, 3) := by decide +kernel
theorem dX7_least_4 : decode cX7_least 4 = .ok (.aload_n 0, 1) := by decide +kernel
theorem dX7_least_5 : decode cX7_least 5 = .ok (.getfield 23, 3) := by decide +kernel
theorem dX7_least_8 : decode cX7_least 8 = .ok (.invokevirtual 149, 3) := by decide +kernel
theorem dX7_least_11 : decode cX7_least 11 = .ok (.ireturn, 1) := by decide +kernel
theorem dX7_rate_0 : decode cX7_rate 0 = .ok (.iload_n 1, 1) := by decide +kernel
theorem dX7_rate_1 : decode cX7_rate 1 = .ok (.iconst 0, 1) := by decide +kernel
theorem dX7_rate_2 : decode cX7_rate 2 = .ok (.iconst 1, 1) := by decide +kernel
theorem dX7_rate_3 : decode cX7_rate 3 = .ok (.invokestatic 58, 3) := by decide +kernel
theorem dX7_rate_6 : decode cX7_rate 6 = .ok (.ifCond .ne 6, 3) := by decide +kernel
theorem dX7_rate_9 : decode cX7_rate 9 = .ok (.bipush (-3), 2) := by decide +kernel
theorem dX7_rate_11 : decode cX7_rate 11 = .ok (.ireturn, 1) := by decide +kernel
theorem dX7_rate_12 : decode cX7_rate 12 = .ok (.aload_n 0, 1) := by decide +kernel
theorem dX7_rate_13 : decode cX7_rate 13 = .ok (.getfield 47, 3) := by decide +kernel
theorem dX7_rate_16 : decode cX7_rate 16 = .ok (.aload_n 0, 1) := by decide +kernel
theorem dX7_rate_17 : decode cX7_rate 17 = .ok (.getfield 23, 3) := by decide +kernel
theorem dX7_rate_20 : decode cX7_rate 20 = .ok (.invokevirtual 153, 3) := by decide +kernel
theorem dX7_rate_23 : decode cX7_rate 23 = .ok (.ifCond .ne 5, 3) := by decide +kernel
theorem dX7_rate_26 : decode cX7_rate 26 = .ok (.iconst (-1), 1) := by decide +kernel
theorem dX7_rate_27 : decode cX7_rate 27 = .ok (.ireturn, 1) := by decide +kernel
theorem dX7_rate_28 : decode cX7_rate 28 = .ok (.iload_n 1, 1) := by decide +kernel
theorem dX7_rate_29 : decode cX7_rate 29 = .ok (.ifCond .ne 13, 3) := by decide +kernel
theorem dX7_rate_32 : decode cX7_rate 32 = .ok (.aload_n 0, 1) := by decide +kernel
theorem dX7_rate_33 : decode cX7_rate 33 = .ok (.getfield 47, 3) := by decide +kernel
theorem dX7_rate_36 : decode cX7_rate 36 = .ok (.invokevirtual 156, 3) := by decide +kernel
theorem dX7_rate_39 : decode cX7_rate 39 = .ok (.goto 10, 3) := by decide +kernel
theorem dX7_rate_42 : decode cX7_rate 42 = .ok (.aload_n 0, 1) := by decide +kernel
theorem dX7_rate_43 : decode cX7_rate 43 = .ok (.getfield 47, 3) := by decide +kernel
theorem dX7_rate_46 : decode cX7_rate 46 = .ok (.invokevirtual 159, 3) := by decide +kernel
theorem dX7_rate_49 : decode cX7_rate 49 = .ok (.ireturn, 1) := by decide +kernel
theorem dX7_margin_0 : decode cX7_margin 0 = .ok (.sipush 2000, 3) := by decide +kernel
theorem dX7_margin_3 : decode cX7_margin 3 = .ok (.aload_n 0, 1) := by decide +kernel
theorem dX7_margin_4 : decode cX7_margin 4 = .ok (.getfield 47, 3) := by decide +kernel
theorem dX7_margin_7 : decode cX7_margin 7 = .ok (.aload_n 0, 1) := by decide +kernel
theorem dX7_margin_8 : decode cX7_margin 8 = .ok (.getfield 23, 3) := by decide +kernel
theorem dX7_margin_11 : decode cX7_margin 11 = .ok (.invokevirtual 162, 3) := by decide +kernel
theorem dX7_margin_14 : decode cX7_margin 14 = .ok (.iadd, 1) := by decide +kernel
theorem dX7_margin_15 : decode cX7_margin 15 = .ok (.ireturn, 1) := by decide +kernel
theorem dX7_spare_0 : decode cX7_spare 0 = .ok (.aload_n 0, 1) := by decide +kernel
theorem dX7_spare_1 : decode cX7_spare 1 = .ok (.iload_n 1, 1) := by decide +kernel
theorem dX7_spare_2 : decode cX7_spare 2 = .ok (.invokevirtual 88, 3) := by decide +kernel
theorem dX7_spare_5 : decode cX7_spare 5 = .ok (.ifCond .ne 6, 3) := by decide +kernel
theorem dX7_spare_8 : decode cX7_spare 8 = .ok (.bipush (-2), 2) := by decide +kernel
theorem dX7_spare_10 : decode cX7_spare 10 = .ok (.ireturn, 1) := by decide +kernel
theorem dX7_spare_11 : decode cX7_spare 11 = .ok (.iload_n 2, 1) := by decide +kernel
theorem dX7_spare_12 : decode cX7_spare 12 = .ok (.iconst 0, 1) := by decide +kernel
theorem dX7_spare_13 : decode cX7_spare 13 = .ok (.iconst 1, 1) := by decide +kernel
theorem dX7_spare_14 : decode cX7_spare 14 = .ok (.invokestatic 58, 3) := by decide +kernel
theorem dX7_spare_17 : decode cX7_spare 17 = .ok (.ifCond .ne 6, 3) := by decide +kernel
theorem dX7_spare_20 : decode cX7_spare 20 = .ok (.bipush (-3), 2) := by decide +kernel
theorem dX7_spare_22 : decode cX7_spare 22 = .ok (.ireturn, 1) := by decide +kernel
theorem dX7_spare_23 : decode cX7_spare 23 = .ok (.aload_n 0, 1) := by decide +kernel
theorem dX7_spare_24 : decode cX7_spare 24 = .ok (.getfield 47, 3) := by decide +kernel
theorem dX7_spare_27 : decode cX7_spare 27 = .ok (.aload_n 0, 1) := by decide +kernel
theorem dX7_spare_28 : decode cX7_spare 28 = .ok (.getfield 23, 3) := by decide +kernel
theorem dX7_spare_31 : decode cX7_spare 31 = .ok (.invokevirtual 136, 3) := by decide +kernel
theorem dX7_spare_34 : decode cX7_spare 34 = .ok (.ifCond .ne 6, 3) := by decide +kernel
theorem dX7_spare_37 : decode cX7_spare 37 = .ok (.bipush (-4), 2) := by decide +kernel
theorem dX7_spare_39 : decode cX7_spare 39 = .ok (.ireturn, 1) := by decide +kernel
theorem dX7_spare_40 : decode cX7_spare 40 = .ok (.aload_n 0, 1) := by decide +kernel
theorem dX7_spare_41 : decode cX7_spare 41 = .ok (.getfield 47, 3) := by decide +kernel
theorem dX7_spare_44 : decode cX7_spare 44 = .ok (.aload_n 0, 1) := by decide +kernel
theorem dX7_spare_45 : decode cX7_spare 45 = .ok (.getfield 23, 3) := by decide +kernel
theorem dX7_spare_48 : decode cX7_spare 48 = .ok (.getfield 92, 3) := by decide +kernel
theorem dX7_spare_51 : decode cX7_spare 51 = .ok (.iload_n 1, 1) := by decide +kernel
theorem dX7_spare_52 : decode cX7_spare 52 = .ok (.iaload, 1) := by decide +kernel
theorem dX7_spare_53 : decode cX7_spare 53 = .ok (.invokevirtual 143, 3) := by decide +kernel
theorem dX7_spare_56 : decode cX7_spare 56 = .ok (.aload_n 0, 1) := by decide +kernel
theorem dX7_spare_57 : decode cX7_spare 57 = .ok (.getfield 47, 3) := by decide +kernel
theorem dX7_spare_60 : decode cX7_spare 60 = .ok (.aload_n 0, 1) := by decide +kernel
theorem dX7_spare_61 : decode cX7_spare 61 = .ok (.getfield 23, 3) := by decide +kernel
theorem dX7_spare_64 : decode cX7_spare 64 = .ok (.getfield 96, 3) := by decide +kernel
theorem dX7_spare_67 : decode cX7_spare 67 = .ok (.iload_n 1, 1) := by decide +kernel
theorem dX7_spare_68 : decode cX7_spare 68 = .ok (.iaload, 1) := by decide +kernel
theorem dX7_spare_69 : decode cX7_spare 69 = .ok (.invokevirtual 143, 3) := by decide +kernel
theorem dX7_spare_72 : decode cX7_spare 72 = .ok (.isub, 1) := by decide +kernel
theorem dX7_spare_73 : decode cX7_spare 73 = .ok (.istore_n 3, 1) := by decide +kernel
theorem dX7_spare_74 : decode cX7_spare 74 = .ok (.iload_n 3, 1) := by decide +kernel
theorem dX7_spare_75 : decode cX7_spare 75 = .ok (.aload_n 0, 1) := by decide +kernel
theorem dX7_spare_76 : decode cX7_spare 76 = .ok (.getfield 23, 3) := by decide +kernel
theorem dX7_spare_79 : decode cX7_spare 79 = .ok (.getfield 146, 3) := by decide +kernel
theorem dX7_spare_82 : decode cX7_spare 82 = .ok (.imul, 1) := by decide +kernel
theorem dX7_spare_83 : decode cX7_spare 83 = .ok (.istore 4, 2) := by decide +kernel
theorem dX7_spare_85 : decode cX7_spare 85 = .ok (.iload_n 2, 1) := by decide +kernel
theorem dX7_spare_86 : decode cX7_spare 86 = .ok (.ifCond .ne 17, 3) := by decide +kernel
theorem dX7_spare_89 : decode cX7_spare 89 = .ok (.aload_n 0, 1) := by decide +kernel
theorem dX7_spare_90 : decode cX7_spare 90 = .ok (.getfield 23, 3) := by decide +kernel
theorem dX7_spare_93 : decode cX7_spare 93 = .ok (.iload_n 1, 1) := by decide +kernel
theorem dX7_spare_94 : decode cX7_spare 94 = .ok (.invokevirtual 105, 3) := by decide +kernel
theorem dX7_spare_97 : decode cX7_spare 97 = .ok (.iload 4, 2) := by decide +kernel
theorem dX7_spare_99 : decode cX7_spare 99 = .ok (.isub, 1) := by decide +kernel
theorem dX7_spare_100 : decode cX7_spare 100 = .ok (.goto 14, 3) := by decide +kernel
theorem dX7_spare_103 : decode cX7_spare 103 = .ok (.aload_n 0, 1) := by decide +kernel
theorem dX7_spare_104 : decode cX7_spare 104 = .ok (.getfield 23, 3) := by decide +kernel
theorem dX7_spare_107 : decode cX7_spare 107 = .ok (.iload_n 1, 1) := by decide +kernel
theorem dX7_spare_108 : decode cX7_spare 108 = .ok (.invokevirtual 109, 3) := by decide +kernel
theorem dX7_spare_111 : decode cX7_spare 111 = .ok (.iload 4, 2) := by decide +kernel
theorem dX7_spare_113 : decode cX7_spare 113 = .ok (.iadd, 1) := by decide +kernel
theorem dX7_spare_114 : decode cX7_spare 114 = .ok (.ireturn, 1) := by decide +kernel
theorem dX7_cycle_0 : decode cX7_cycle 0 = .ok (.iload_n 1, 1) := by decide +kernel
theorem dX7_cycle_1 : decode cX7_cycle 1 = .ok (.ifCond .ge 6, 3) := by decide +kernel
theorem dX7_cycle_4 : decode cX7_cycle 4 = .ok (.bipush (-3), 2) := by decide +kernel
theorem dX7_cycle_6 : decode cX7_cycle 6 = .ok (.ireturn, 1) := by decide +kernel
theorem dX7_cycle_7 : decode cX7_cycle 7 = .ok (.aload_n 0, 1) := by decide +kernel
theorem dX7_cycle_8 : decode cX7_cycle 8 = .ok (.getfield 47, 3) := by decide +kernel
theorem dX7_cycle_11 : decode cX7_cycle 11 = .ok (.aload_n 0, 1) := by decide +kernel
theorem dX7_cycle_12 : decode cX7_cycle 12 = .ok (.getfield 23, 3) := by decide +kernel
theorem dX7_cycle_15 : decode cX7_cycle 15 = .ok (.invokevirtual 136, 3) := by decide +kernel
theorem dX7_cycle_18 : decode cX7_cycle 18 = .ok (.ifCond .ne 13, 3) := by decide +kernel
theorem dX7_cycle_21 : decode cX7_cycle 21 = .ok (.aload_n 0, 1) := by decide +kernel
theorem dX7_cycle_22 : decode cX7_cycle 22 = .ok (.getfield 47, 3) := by decide +kernel
theorem dX7_cycle_25 : decode cX7_cycle 25 = .ok (.invokevirtual 165, 3) := by decide +kernel
theorem dX7_cycle_28 : decode cX7_cycle 28 = .ok (.ifCond .ne 5, 3) := by decide +kernel
theorem dX7_cycle_31 : decode cX7_cycle 31 = .ok (.iconst (-1), 1) := by decide +kernel
theorem dX7_cycle_32 : decode cX7_cycle 32 = .ok (.ireturn, 1) := by decide +kernel
theorem dX7_cycle_33 : decode cX7_cycle 33 = .ok (.iload_n 1, 1) := by decide +kernel
theorem dX7_cycle_34 : decode cX7_cycle 34 = .ok (.aload_n 0, 1) := by decide +kernel
theorem dX7_cycle_35 : decode cX7_cycle 35 = .ok (.getfield 47, 3) := by decide +kernel
theorem dX7_cycle_38 : decode cX7_cycle 38 = .ok (.invokevirtual 169, 3) := by decide +kernel
theorem dX7_cycle_41 : decode cX7_cycle 41 = .ok (.if_icmp .ge 14, 3) := by decide +kernel
theorem dX7_cycle_44 : decode cX7_cycle 44 = .ok (.aload_n 0, 1) := by decide +kernel
theorem dX7_cycle_45 : decode cX7_cycle 45 = .ok (.getfield 47, 3) := by decide +kernel
theorem dX7_cycle_48 : decode cX7_cycle 48 = .ok (.iload_n 1, 1) := by decide +kernel
theorem dX7_cycle_49 : decode cX7_cycle 49 = .ok (.invokevirtual 172, 3) := by decide +kernel
theorem dX7_cycle_52 : decode cX7_cycle 52 = .ok (.goto 4, 3) := by decide +kernel
theorem dX7_cycle_55 : decode cX7_cycle 55 = .ok (.iconst (-1), 1) := by decide +kernel
theorem dX7_cycle_56 : decode cX7_cycle 56 = .ok (.ireturn, 1) := by decide +kernel
theorem dX7_buffer_0 : decode cX7_buffer 0 = .ok (.iload_n 1, 1) := by decide +kernel
theorem dX7_buffer_1 : decode cX7_buffer 1 = .ok (.iconst 1, 1) := by decide +kernel
theorem dX7_buffer_2 : decode cX7_buffer 2 = .ok (.bipush 20, 2) := by decide +kernel
theorem dX7_buffer_4 : decode cX7_buffer 4 = .ok (.invokestatic 58, 3) := by decide +kernel
theorem dX7_buffer_7 : decode cX7_buffer 7 = .ok (.ifCond .ne 6, 3) := by decide +kernel
theorem dX7_buffer_10 : decode cX7_buffer 10 = .ok (.bipush (-3), 2) := by decide +kernel
theorem dX7_buffer_12 : decode cX7_buffer 12 = .ok (.ireturn, 1) := by decide +kernel
theorem dX7_buffer_13 : decode cX7_buffer 13 = .ok (.iconst (-1), 1) := by decide +kernel
theorem dX7_buffer_14 : decode cX7_buffer 14 = .ok (.istore_n 2, 1) := by decide +kernel
theorem dX7_buffer_15 : decode cX7_buffer 15 = .ok (.aload_n 0, 1) := by decide +kernel
theorem dX7_buffer_16 : decode cX7_buffer 16 = .ok (.getfield 47, 3) := by decide +kernel
theorem dX7_buffer_19 : decode cX7_buffer 19 = .ok (.aload_n 0, 1) := by decide +kernel
theorem dX7_buffer_20 : decode cX7_buffer 20 = .ok (.getfield 23, 3) := by decide +kernel
theorem dX7_buffer_23 : decode cX7_buffer 23 = .ok (.invokevirtual 149, 3) := by decide +kernel
theorem dX7_buffer_26 : decode cX7_buffer 26 = .ok (.invokestatic 175, 3) := by decide +kernel
theorem dX7_buffer_29 : decode cX7_buffer 29 = .ok (.istore_n 3, 1) := by decide +kernel
theorem dX7_buffer_30 : decode cX7_buffer 30 = .ok (.iconst 0, 1) := by decide +kernel
theorem dX7_buffer_31 : decode cX7_buffer 31 = .ok (.istore 4, 2) := by decide +kernel
theorem dX7_buffer_33 : decode cX7_buffer 33 = .ok (.iload 4, 2) := by decide +kernel
theorem dX7_buffer_35 : decode cX7_buffer 35 = .ok (.aload_n 0, 1) := by decide +kernel
theorem dX7_buffer_36 : decode cX7_buffer 36 = .ok (.getfield 23, 3) := by decide +kernel
theorem dX7_buffer_39 : decode cX7_buffer 39 = .ok (.getfield 178, 3) := by decide +kernel
theorem dX7_buffer_42 : decode cX7_buffer 42 = .ok (.if_icmp .ge 74, 3) := by decide +kernel
theorem dX7_buffer_45 : decode cX7_buffer 45 = .ok (.aload_n 0, 1) := by decide +kernel
theorem dX7_buffer_46 : decode cX7_buffer 46 = .ok (.getfield 23, 3) := by decide +kernel
theorem dX7_buffer_49 : decode cX7_buffer 49 = .ok (.iload 4, 2) := by decide +kernel
theorem dX7_buffer_51 : decode cX7_buffer 51 = .ok (.iload_n 1, 1) := by decide +kernel
theorem dX7_buffer_52 : decode cX7_buffer 52 = .ok (.invokevirtual 120, 3) := by decide +kernel
theorem dX7_buffer_55 : decode cX7_buffer 55 = .ok (.ifCond .ne 6, 3) := by decide +kernel
theorem dX7_buffer_58 : decode cX7_buffer 58 = .ok (.goto 52, 3) := by decide +kernel
theorem dX7_buffer_61 : decode cX7_buffer 61 = .ok (.aload_n 0, 1) := by decide +kernel
theorem dX7_buffer_62 : decode cX7_buffer 62 = .ok (.getfield 26, 3) := by decide +kernel
theorem dX7_buffer_65 : decode cX7_buffer 65 = .ok (.aload_n 0, 1) := by decide +kernel
theorem dX7_buffer_66 : decode cX7_buffer 66 = .ok (.getfield 23, 3) := by decide +kernel
theorem dX7_buffer_69 : decode cX7_buffer 69 = .ok (.invokevirtual 77, 3) := by decide +kernel
theorem dX7_buffer_72 : decode cX7_buffer 72 = .ok (.aload_n 0, 1) := by decide +kernel
theorem dX7_buffer_73 : decode cX7_buffer 73 = .ok (.getfield 26, 3) := by decide +kernel
theorem dX7_buffer_76 : decode cX7_buffer 76 = .ok (.iload 4, 2) := by decide +kernel
theorem dX7_buffer_78 : decode cX7_buffer 78 = .ok (.iload_n 1, 1) := by decide +kernel
theorem dX7_buffer_79 : decode cX7_buffer 79 = .ok (.invokevirtual 124, 3) := by decide +kernel
theorem dX7_buffer_82 : decode cX7_buffer 82 = .ok (.aload_n 0, 1) := by decide +kernel
theorem dX7_buffer_83 : decode cX7_buffer 83 = .ok (.getfield 47, 3) := by decide +kernel
theorem dX7_buffer_86 : decode cX7_buffer 86 = .ok (.aload_n 0, 1) := by decide +kernel
theorem dX7_buffer_87 : decode cX7_buffer 87 = .ok (.getfield 26, 3) := by decide +kernel
theorem dX7_buffer_90 : decode cX7_buffer 90 = .ok (.invokevirtual 149, 3) := by decide +kernel
theorem dX7_buffer_93 : decode cX7_buffer 93 = .ok (.invokestatic 175, 3) := by decide +kernel
theorem dX7_buffer_96 : decode cX7_buffer 96 = .ok (.istore 5, 2) := by decide +kernel
theorem dX7_buffer_98 : decode cX7_buffer 98 = .ok (.iload 5, 2) := by decide +kernel
theorem dX7_buffer_100 : decode cX7_buffer 100 = .ok (.iload_n 3, 1) := by decide +kernel
theorem dX7_buffer_101 : decode cX7_buffer 101 = .ok (.if_icmp .ge 9, 3) := by decide +kernel
theorem dX7_buffer_104 : decode cX7_buffer 104 = .ok (.iload 4, 2) := by decide +kernel
theorem dX7_buffer_106 : decode cX7_buffer 106 = .ok (.istore_n 2, 1) := by decide +kernel
theorem dX7_buffer_107 : decode cX7_buffer 107 = .ok (.iload 5, 2) := by decide +kernel
theorem dX7_buffer_109 : decode cX7_buffer 109 = .ok (.istore_n 3, 1) := by decide +kernel
theorem dX7_buffer_110 : decode cX7_buffer 110 = .ok (.iinc 4 1, 3) := by decide +kernel
theorem dX7_buffer_113 : decode cX7_buffer 113 = .ok (.goto (-80), 3) := by decide +kernel
theorem dX7_buffer_116 : decode cX7_buffer 116 = .ok (.iload_n 2, 1) := by decide +kernel
theorem dX7_buffer_117 : decode cX7_buffer 117 = .ok (.ireturn, 1) := by decide +kernel
theorem dX7_trace_0 : decode cX7_trace 0 = .ok (.iload_n 1, 1) := by decide +kernel
theorem dX7_trace_1 : decode cX7_trace 1 = .ok (.invokestatic 181, 3) := by decide +kernel
theorem dX7_trace_4 : decode cX7_trace 4 = .ok (.ifCond .ne 6, 3) := by decide +kernel
theorem dX7_trace_7 : decode cX7_trace 7 = .ok (.bipush (-2), 2) := by decide +kernel
theorem dX7_trace_9 : decode cX7_trace 9 = .ok (.ireturn, 1) := by decide +kernel
theorem dX7_trace_10 : decode cX7_trace 10 = .ok (.iload_n 2, 1) := by decide +kernel
theorem dX7_trace_11 : decode cX7_trace 11 = .ok (.invokestatic 184, 3) := by decide +kernel
theorem dX7_trace_14 : decode cX7_trace 14 = .ok (.ifCond .eq 9, 3) := by decide +kernel
theorem dX7_trace_17 : decode cX7_trace 17 = .ok (.iload_n 3, 1) := by decide +kernel
theorem dX7_trace_18 : decode cX7_trace 18 = .ok (.bipush 8, 2) := by decide +kernel
theorem dX7_trace_20 : decode cX7_trace 20 = .ok (.if_icmp .le 6, 3) := by decide +kernel
theorem dX7_trace_23 : decode cX7_trace 23 = .ok (.bipush (-3), 2) := by decide +kernel
theorem dX7_trace_25 : decode cX7_trace 25 = .ok (.ireturn, 1) := by decide +kernel
theorem dX7_trace_26 : decode cX7_trace 26 = .ok (.iload_n 3, 1) := by decide +kernel
theorem dX7_trace_27 : decode cX7_trace 27 = .ok (.ifCond .ge 6, 3) := by decide +kernel
theorem dX7_trace_30 : decode cX7_trace 30 = .ok (.bipush (-12), 2) := by decide +kernel
theorem dX7_trace_32 : decode cX7_trace 32 = .ok (.ireturn, 1) := by decide +kernel
theorem dX7_trace_33 : decode cX7_trace 33 = .ok (.aload_n 0, 1) := by decide +kernel
theorem dX7_trace_34 : decode cX7_trace 34 = .ok (.getfield 53, 3) := by decide +kernel
theorem dX7_trace_37 : decode cX7_trace 37 = .ok (.iload_n 1, 1) := by decide +kernel
theorem dX7_trace_38 : decode cX7_trace 38 = .ok (.aaload, 1) := by decide +kernel
theorem dX7_trace_39 : decode cX7_trace 39 = .ok (.iload_n 2, 1) := by decide +kernel
theorem dX7_trace_40 : decode cX7_trace 40 = .ok (.iload_n 3, 1) := by decide +kernel
theorem dX7_trace_41 : decode cX7_trace 41 = .ok (.invokevirtual 187, 3) := by decide +kernel
theorem dX7_trace_44 : decode cX7_trace 44 = .ok (.iload_n 3, 1) := by decide +kernel
theorem dX7_trace_45 : decode cX7_trace 45 = .ok (.ireturn, 1) := by decide +kernel
theorem dX7_set_0 : decode cX7_set 0 = .ok (.iload_n 1, 1) := by decide +kernel
theorem dX7_set_1 : decode cX7_set 1 = .ok (.invokestatic 181, 3) := by decide +kernel
theorem dX7_set_4 : decode cX7_set 4 = .ok (.ifCond .ne 6, 3) := by decide +kernel
theorem dX7_set_7 : decode cX7_set 7 = .ok (.bipush (-2), 2) := by decide +kernel
theorem dX7_set_9 : decode cX7_set 9 = .ok (.ireturn, 1) := by decide +kernel
theorem dX7_set_10 : decode cX7_set 10 = .ok (.iload_n 2, 1) := by decide +kernel
theorem dX7_set_11 : decode cX7_set 11 = .ok (.invokestatic 184, 3) := by decide +kernel
theorem dX7_set_14 : decode cX7_set 14 = .ok (.ifCond .eq 19, 3) := by decide +kernel
theorem dX7_set_17 : decode cX7_set 17 = .ok (.iload 4, 2) := by decide +kernel
theorem dX7_set_19 : decode cX7_set 19 = .ok (.invokestatic 190, 3) := by decide +kernel
theorem dX7_set_22 : decode cX7_set 22 = .ok (.ifCond .eq 11, 3) := by decide +kernel
theorem dX7_set_25 : decode cX7_set 25 = .ok (.iload 5, 2) := by decide +kernel
theorem dX7_set_27 : decode cX7_set 27 = .ok (.invokestatic 190, 3) := by decide +kernel
theorem dX7_set_30 : decode cX7_set 30 = .ok (.ifCond .ne 6, 3) := by decide +kernel
theorem dX7_set_33 : decode cX7_set 33 = .ok (.bipush (-3), 2) := by decide +kernel
theorem dX7_set_35 : decode cX7_set 35 = .ok (.ireturn, 1) := by decide +kernel
theorem dX7_set_36 : decode cX7_set 36 = .ok (.aload_n 0, 1) := by decide +kernel
theorem dX7_set_37 : decode cX7_set 37 = .ok (.getfield 53, 3) := by decide +kernel
theorem dX7_set_40 : decode cX7_set 40 = .ok (.iload_n 1, 1) := by decide +kernel
theorem dX7_set_41 : decode cX7_set 41 = .ok (.aaload, 1) := by decide +kernel
theorem dX7_set_42 : decode cX7_set 42 = .ok (.astore 6, 2) := by decide +kernel
theorem dX7_set_44 : decode cX7_set 44 = .ok (.aload 6, 2) := by decide +kernel
theorem dX7_set_46 : decode cX7_set 46 = .ok (.iload_n 2, 1) := by decide +kernel
theorem dX7_set_47 : decode cX7_set 47 = .ok (.iload_n 3, 1) := by decide +kernel
theorem dX7_set_48 : decode cX7_set 48 = .ok (.iload_n 3, 1) := by decide +kernel
theorem dX7_set_49 : decode cX7_set 49 = .ok (.invokevirtual 193, 3) := by decide +kernel
theorem dX7_set_52 : decode cX7_set 52 = .ok (.istore 7, 2) := by decide +kernel
theorem dX7_set_54 : decode cX7_set 54 = .ok (.iload 7, 2) := by decide +kernel
theorem dX7_set_56 : decode cX7_set 56 = .ok (.iconst (-1), 1) := by decide +kernel
theorem dX7_set_57 : decode cX7_set 57 = .ok (.if_icmp .eq 6, 3) := by decide +kernel
theorem dX7_set_60 : decode cX7_set 60 = .ok (.iload 7, 2) := by decide +kernel
theorem dX7_set_62 : decode cX7_set 62 = .ok (.ireturn, 1) := by decide +kernel
theorem dX7_set_63 : decode cX7_set 63 = .ok (.aload 6, 2) := by decide +kernel
theorem dX7_set_65 : decode cX7_set 65 = .ok (.iload_n 3, 1) := by decide +kernel
theorem dX7_set_66 : decode cX7_set 66 = .ok (.iload 4, 2) := by decide +kernel
theorem dX7_set_68 : decode cX7_set 68 = .ok (.iload 5, 2) := by decide +kernel
theorem dX7_set_70 : decode cX7_set 70 = .ok (.invokevirtual 197, 3) := by decide +kernel
theorem dX7_set_73 : decode cX7_set 73 = .ok (.aload 6, 2) := by decide +kernel
theorem dX7_set_75 : decode cX7_set 75 = .ok (.iload_n 3, 1) := by decide +kernel
theorem dX7_set_76 : decode cX7_set 76 = .ok (.invokevirtual 201, 3) := by decide +kernel
theorem dX7_set_79 : decode cX7_set 79 = .ok (.ireturn, 1) := by decide +kernel
theorem dX7_get_0 : decode cX7_get 0 = .ok (.aload_n 0, 1) := by decide +kernel
theorem dX7_get_1 : decode cX7_get 1 = .ok (.iload_n 1, 1) := by decide +kernel
theorem dX7_get_2 : decode cX7_get 2 = .ok (.iload_n 2, 1) := by decide +kernel
theorem dX7_get_3 : decode cX7_get 3 = .ok (.iload_n 3, 1) := by decide +kernel
theorem dX7_get_4 : decode cX7_get 4 = .ok (.iload_n 3, 1) := by decide +kernel
theorem dX7_get_5 : decode cX7_get 5 = .ok (.invokevirtual 204, 3) := by decide +kernel
theorem dX7_get_8 : decode cX7_get 8 = .ok (.istore 4, 2) := by decide +kernel
theorem dX7_get_10 : decode cX7_get 10 = .ok (.iload 4, 2) := by decide +kernel
theorem dX7_get_12 : decode cX7_get 12 = .ok (.iconst (-1), 1) := by decide +kernel
theorem dX7_get_13 : decode cX7_get 13 = .ok (.if_icmp .eq 8, 3) := by decide +kernel
theorem dX7_get_16 : decode cX7_get 16 = .ok (.iload 4, 2) := by decide +kernel
theorem dX7_get_18 : decode cX7_get 18 = .ok (.goto 13, 3) := by decide +kernel
theorem dX7_get_21 : decode cX7_get 21 = .ok (.aload_n 0, 1) := by decide +kernel
theorem dX7_get_22 : decode cX7_get 22 = .ok (.getfield 53, 3) := by decide +kernel
theorem dX7_get_25 : decode cX7_get 25 = .ok (.iload_n 1, 1) := by decide +kernel
theorem dX7_get_26 : decode cX7_get 26 = .ok (.aaload, 1) := by decide +kernel
theorem dX7_get_27 : decode cX7_get 27 = .ok (.iload_n 3, 1) := by decide +kernel
theorem dX7_get_28 : decode cX7_get 28 = .ok (.invokevirtual 201, 3) := by decide +kernel
theorem dX7_get_31 : decode cX7_get 31 = .ok (.ireturn, 1) := by decide +kernel
theorem dX7_rest_0 : decode cX7_rest 0 = .ok (.aload_n 0, 1) := by decide +kernel
theorem dX7_rest_1 : decode cX7_rest 1 = .ok (.iload_n 1, 1) := by decide +kernel
theorem dX7_rest_2 : decode cX7_rest 2 = .ok (.iload_n 2, 1) := by decide +kernel
theorem dX7_rest_3 : decode cX7_rest 3 = .ok (.iload_n 3, 1) := by decide +kernel
theorem dX7_rest_4 : decode cX7_rest 4 = .ok (.iload 4, 2) := by decide +kernel
theorem dX7_rest_6 : decode cX7_rest 6 = .ok (.invokevirtual 204, 3) := by decide +kernel
theorem dX7_rest_9 : decode cX7_rest 9 = .ok (.istore 5, 2) := by decide +kernel
theorem dX7_rest_11 : decode cX7_rest 11 = .ok (.iload 5, 2) := by decide +kernel
theorem dX7_rest_13 : decode cX7_rest 13 = .ok (.iconst (-1), 1) := by decide +kernel
theorem dX7_rest_14 : decode cX7_rest 14 = .ok (.if_icmp .eq 6, 3) := by decide +kernel
theorem dX7_rest_17 : decode cX7_rest 17 = .ok (.iload 5, 2) := by decide +kernel
theorem dX7_rest_19 : decode cX7_rest 19 = .ok (.ireturn, 1) := by decide +kernel
theorem dX7_rest_20 : decode cX7_rest 20 = .ok (.aload_n 0, 1) := by decide +kernel
theorem dX7_rest_21 : decode cX7_rest 21 = .ok (.getfield 53, 3) := by decide +kernel
theorem dX7_rest_24 : decode cX7_rest 24 = .ok (.iload_n 1, 1) := by decide +kernel
theorem dX7_rest_25 : decode cX7_rest 25 = .ok (.aaload, 1) := by decide +kernel
theorem dX7_rest_26 : decode cX7_rest 26 = .ok (.iload_n 3, 1) := by decide +kernel
theorem dX7_rest_27 : decode cX7_rest 27 = .ok (.iload 4, 2) := by decide +kernel
theorem dX7_rest_29 : decode cX7_rest 29 = .ok (.invokevirtual 208, 3) := by decide +kernel
theorem dX7_rest_32 : decode cX7_rest 32 = .ok (.aload_n 0, 1) := by decide +kernel
theorem dX7_rest_33 : decode cX7_rest 33 = .ok (.getfield 53, 3) := by decide +kernel
theorem dX7_rest_36 : decode cX7_rest 36 = .ok (.iload_n 1, 1) := by decide +kernel
theorem dX7_rest_37 : decode cX7_rest 37 = .ok (.aaload, 1) := by decide +kernel
theorem dX7_rest_38 : decode cX7_rest 38 = .ok (.iload_n 3, 1) := by decide +kernel
theorem dX7_rest_39 : decode cX7_rest 39 = .ok (.invokevirtual 201, 3) := by decide +kernel
theorem dX7_rest_42 : decode cX7_rest 42 = .ok (.ireturn, 1) := by decide +kernel
theorem dX7_compare_0 : decode cX7_compare 0 = .ok (.aload_n 0, 1) := by decide +kernel
theorem dX7_compare_1 : decode cX7_compare 1 = .ok (.iload_n 1, 1) := by decide +kernel
theorem dX7_compare_2 : decode cX7_compare 2 = .ok (.iload_n 2, 1) := by decide +kernel
theorem dX7_compare_3 : decode cX7_compare 3 = .ok (.iload_n 3, 1) := by decide +kernel
theorem dX7_compare_4 : decode cX7_compare 4 = .ok (.iload 4, 2) := by decide +kernel
theorem dX7_compare_6 : decode cX7_compare 6 = .ok (.invokevirtual 204, 3) := by decide +kernel
theorem dX7_compare_9 : decode cX7_compare 9 = .ok (.istore 5, 2) := by decide +kernel
theorem dX7_compare_11 : decode cX7_compare 11 = .ok (.iload 5, 2) := by decide +kernel
theorem dX7_compare_13 : decode cX7_compare 13 = .ok (.iconst (-1), 1) := by decide +kernel
theorem dX7_compare_14 : decode cX7_compare 14 = .ok (.if_icmp .eq 8, 3) := by decide +kernel
theorem dX7_compare_17 : decode cX7_compare 17 = .ok (.iload 5, 2) := by decide +kernel
theorem dX7_compare_19 : decode cX7_compare 19 = .ok (.goto 15, 3) := by decide +kernel
theorem dX7_compare_22 : decode cX7_compare 22 = .ok (.aload_n 0, 1) := by decide +kernel
theorem dX7_compare_23 : decode cX7_compare 23 = .ok (.getfield 53, 3) := by decide +kernel
theorem dX7_compare_26 : decode cX7_compare 26 = .ok (.iload_n 1, 1) := by decide +kernel
theorem dX7_compare_27 : decode cX7_compare 27 = .ok (.aaload, 1) := by decide +kernel
theorem dX7_compare_28 : decode cX7_compare 28 = .ok (.iload_n 3, 1) := by decide +kernel
theorem dX7_compare_29 : decode cX7_compare 29 = .ok (.iload 4, 2) := by decide +kernel
theorem dX7_compare_31 : decode cX7_compare 31 = .ok (.invokevirtual 211, 3) := by decide +kernel
theorem dX7_compare_34 : decode cX7_compare 34 = .ok (.ireturn, 1) := by decide +kernel
theorem dX7_sum_0 : decode cX7_sum 0 = .ok (.iload_n 1, 1) := by decide +kernel
theorem dX7_sum_1 : decode cX7_sum 1 = .ok (.invokestatic 181, 3) := by decide +kernel
theorem dX7_sum_4 : decode cX7_sum 4 = .ok (.ifCond .ne 6, 3) := by decide +kernel
theorem dX7_sum_7 : decode cX7_sum 7 = .ok (.bipush (-2), 2) := by decide +kernel
theorem dX7_sum_9 : decode cX7_sum 9 = .ok (.ireturn, 1) := by decide +kernel
theorem dX7_sum_10 : decode cX7_sum 10 = .ok (.iload_n 2, 1) := by decide +kernel
theorem dX7_sum_11 : decode cX7_sum 11 = .ok (.iconst 0, 1) := by decide +kernel
theorem dX7_sum_12 : decode cX7_sum 12 = .ok (.iconst 1, 1) := by decide +kernel
theorem dX7_sum_13 : decode cX7_sum 13 = .ok (.invokestatic 58, 3) := by decide +kernel
theorem dX7_sum_16 : decode cX7_sum 16 = .ok (.ifCond .ne 6, 3) := by decide +kernel
theorem dX7_sum_19 : decode cX7_sum 19 = .ok (.bipush (-3), 2) := by decide +kernel
theorem dX7_sum_21 : decode cX7_sum 21 = .ok (.ireturn, 1) := by decide +kernel
theorem dX7_sum_22 : decode cX7_sum 22 = .ok (.aload_n 0, 1) := by decide +kernel
theorem dX7_sum_23 : decode cX7_sum 23 = .ok (.getfield 53, 3) := by decide +kernel
theorem dX7_sum_26 : decode cX7_sum 26 = .ok (.iload_n 1, 1) := by decide +kernel
theorem dX7_sum_27 : decode cX7_sum 27 = .ok (.aaload, 1) := by decide +kernel
theorem dX7_sum_28 : decode cX7_sum 28 = .ok (.astore_n 3, 1) := by decide +kernel
theorem dX7_sum_29 : decode cX7_sum 29 = .ok (.aload_n 3, 1) := by decide +kernel
theorem dX7_sum_30 : decode cX7_sum 30 = .ok (.invokevirtual 215, 3) := by decide +kernel
theorem dX7_sum_33 : decode cX7_sum 33 = .ok (.ifCond .eq 6, 3) := by decide +kernel
theorem dX7_sum_36 : decode cX7_sum 36 = .ok (.bipush (-11), 2) := by decide +kernel
theorem dX7_sum_38 : decode cX7_sum 38 = .ok (.ireturn, 1) := by decide +kernel
theorem dX7_sum_39 : decode cX7_sum 39 = .ok (.iload_n 2, 1) := by decide +kernel
theorem dX7_sum_40 : decode cX7_sum 40 = .ok (.ifCond .ne 10, 3) := by decide +kernel
theorem dX7_sum_43 : decode cX7_sum 43 = .ok (.aload_n 3, 1) := by decide +kernel
theorem dX7_sum_44 : decode cX7_sum 44 = .ok (.invokevirtual 218, 3) := by decide +kernel
theorem dX7_sum_47 : decode cX7_sum 47 = .ok (.goto 7, 3) := by decide +kernel
theorem dX7_sum_50 : decode cX7_sum 50 = .ok (.aload_n 3, 1) := by decide +kernel
theorem dX7_sum_51 : decode cX7_sum 51 = .ok (.invokevirtual 221, 3) := by decide +kernel
theorem dX7_sum_54 : decode cX7_sum 54 = .ok (.ireturn, 1) := by decide +kernel
theorem dX7_drop_0 : decode cX7_drop 0 = .ok (.iload_n 1, 1) := by decide +kernel
theorem dX7_drop_1 : decode cX7_drop 1 = .ok (.invokestatic 181, 3) := by decide +kernel
theorem dX7_drop_4 : decode cX7_drop 4 = .ok (.ifCond .ne 6, 3) := by decide +kernel
theorem dX7_drop_7 : decode cX7_drop 7 = .ok (.bipush (-2), 2) := by decide +kernel
theorem dX7_drop_9 : decode cX7_drop 9 = .ok (.ireturn, 1) := by decide +kernel
theorem dX7_drop_10 : decode cX7_drop 10 = .ok (.aload_n 0, 1) := by decide +kernel
theorem dX7_drop_11 : decode cX7_drop 11 = .ok (.getfield 53, 3) := by decide +kernel
theorem dX7_drop_14 : decode cX7_drop 14 = .ok (.iload_n 1, 1) := by decide +kernel
theorem dX7_drop_15 : decode cX7_drop 15 = .ok (.aaload, 1) := by decide +kernel
theorem dX7_drop_16 : decode cX7_drop 16 = .ok (.astore_n 2, 1) := by decide +kernel
theorem dX7_drop_17 : decode cX7_drop 17 = .ok (.aload_n 2, 1) := by decide +kernel
theorem dX7_drop_18 : decode cX7_drop 18 = .ok (.invokevirtual 215, 3) := by decide +kernel
theorem dX7_drop_21 : decode cX7_drop 21 = .ok (.ifCond .eq 6, 3) := by decide +kernel
theorem dX7_drop_24 : decode cX7_drop 24 = .ok (.bipush (-11), 2) := by decide +kernel
theorem dX7_drop_26 : decode cX7_drop 26 = .ok (.ireturn, 1) := by decide +kernel
theorem dX7_drop_27 : decode cX7_drop 27 = .ok (.aload_n 2, 1) := by decide +kernel
theorem dX7_drop_28 : decode cX7_drop 28 = .ok (.invokevirtual 224, 3) := by decide +kernel
theorem dX7_drop_31 : decode cX7_drop 31 = .ok (.istore_n 3, 1) := by decide +kernel
theorem dX7_drop_32 : decode cX7_drop 32 = .ok (.aload_n 2, 1) := by decide +kernel
theorem dX7_drop_33 : decode cX7_drop 33 = .ok (.invokevirtual 82, 3) := by decide +kernel
theorem dX7_drop_36 : decode cX7_drop 36 = .ok (.iload_n 3, 1) := by decide +kernel
theorem dX7_drop_37 : decode cX7_drop 37 = .ok (.ireturn, 1) := by decide +kernel
theorem dX7_count_0 : decode cX7_count 0 = .ok (.iload_n 1, 1) := by decide +kernel
theorem dX7_count_1 : decode cX7_count 1 = .ok (.tableswitch 132 0 9 #[55, 63, 71, 79, 87, 95, 103, 108, 116, 124], 55) := by decide +kernel
theorem dX7_count_56 : decode cX7_count 56 = .ok (.aload_n 0, 1) := by decide +kernel
theorem dX7_count_57 : decode cX7_count 57 = .ok (.getfield 23, 3) := by decide +kernel
theorem dX7_count_60 : decode cX7_count 60 = .ok (.getfield 140, 3) := by decide +kernel
theorem dX7_count_63 : decode cX7_count 63 = .ok (.ireturn, 1) := by decide +kernel
theorem dX7_count_64 : decode cX7_count 64 = .ok (.aload_n 0, 1) := by decide +kernel
theorem dX7_count_65 : decode cX7_count 65 = .ok (.getfield 23, 3) := by decide +kernel
theorem dX7_count_68 : decode cX7_count 68 = .ok (.getfield 178, 3) := by decide +kernel
theorem dX7_count_71 : decode cX7_count 71 = .ok (.ireturn, 1) := by decide +kernel
theorem dX7_count_72 : decode cX7_count 72 = .ok (.aload_n 0, 1) := by decide +kernel
theorem dX7_count_73 : decode cX7_count 73 = .ok (.getfield 23, 3) := by decide +kernel
theorem dX7_count_76 : decode cX7_count 76 = .ok (.getfield 227, 3) := by decide +kernel
theorem dX7_count_79 : decode cX7_count 79 = .ok (.ireturn, 1) := by decide +kernel
theorem dX7_count_80 : decode cX7_count 80 = .ok (.aload_n 0, 1) := by decide +kernel
theorem dX7_count_81 : decode cX7_count 81 = .ok (.getfield 23, 3) := by decide +kernel
theorem dX7_count_84 : decode cX7_count 84 = .ok (.getfield 230, 3) := by decide +kernel
theorem dX7_count_87 : decode cX7_count 87 = .ok (.ireturn, 1) := by decide +kernel
theorem dX7_count_88 : decode cX7_count 88 = .ok (.aload_n 0, 1) := by decide +kernel
theorem dX7_count_89 : decode cX7_count 89 = .ok (.getfield 23, 3) := by decide +kernel
theorem dX7_count_92 : decode cX7_count 92 = .ok (.getfield 146, 3) := by decide +kernel
theorem dX7_count_95 : decode cX7_count 95 = .ok (.ireturn, 1) := by decide +kernel
theorem dX7_count_96 : decode cX7_count 96 = .ok (.aload_n 0, 1) := by decide +kernel
theorem dX7_count_97 : decode cX7_count 97 = .ok (.getfield 23, 3) := by decide +kernel
theorem dX7_count_100 : decode cX7_count 100 = .ok (.getfield 112, 3) := by decide +kernel
theorem dX7_count_103 : decode cX7_count 103 = .ok (.ireturn, 1) := by decide +kernel
theorem dX7_count_104 : decode cX7_count 104 = .ok (.aload_n 0, 1) := by decide +kernel
theorem dX7_count_105 : decode cX7_count 105 = .ok (.invokevirtual 233, 3) := by decide +kernel
theorem dX7_count_108 : decode cX7_count 108 = .ok (.ireturn, 1) := by decide +kernel
theorem dX7_count_109 : decode cX7_count 109 = .ok (.aload_n 0, 1) := by decide +kernel
theorem dX7_count_110 : decode cX7_count 110 = .ok (.getfield 40, 3) := by decide +kernel
theorem dX7_count_113 : decode cX7_count 113 = .ok (.invokevirtual 127, 3) := by decide +kernel
theorem dX7_count_116 : decode cX7_count 116 = .ok (.ireturn, 1) := by decide +kernel
theorem dX7_count_117 : decode cX7_count 117 = .ok (.aload_n 0, 1) := by decide +kernel
theorem dX7_count_118 : decode cX7_count 118 = .ok (.getfield 10, 3) := by decide +kernel
theorem dX7_count_121 : decode cX7_count 121 = .ok (.invokevirtual 66, 3) := by decide +kernel
theorem dX7_count_124 : decode cX7_count 124 = .ok (.ireturn, 1) := by decide +kernel
theorem dX7_count_125 : decode cX7_count 125 = .ok (.aload_n 0, 1) := by decide +kernel
theorem dX7_count_126 : decode cX7_count 126 = .ok (.getfield 23, 3) := by decide +kernel
theorem dX7_count_129 : decode cX7_count 129 = .ok (.invokevirtual 236, 3) := by decide +kernel
theorem dX7_count_132 : decode cX7_count 132 = .ok (.ireturn, 1) := by decide +kernel
theorem dX7_count_133 : decode cX7_count 133 = .ok (.bipush (-3), 2) := by decide +kernel
theorem dX7_count_135 : decode cX7_count 135 = .ok (.ireturn, 1) := by decide +kernel
theorem dX7_isWithin_0 : decode cX7_isWithin 0 = .ok (.iload_n 0, 1) := by decide +kernel
theorem dX7_isWithin_1 : decode cX7_isWithin 1 = .ok (.iload_n 1, 1) := by decide +kernel
theorem dX7_isWithin_2 : decode cX7_isWithin 2 = .ok (.if_icmp .lt 12, 3) := by decide +kernel
theorem dX7_isWithin_5 : decode cX7_isWithin 5 = .ok (.iload_n 0, 1) := by decide +kernel
theorem dX7_isWithin_6 : decode cX7_isWithin 6 = .ok (.iload_n 2, 1) := by decide +kernel
theorem dX7_isWithin_7 : decode cX7_isWithin 7 = .ok (.if_icmp .gt 7, 3) := by decide +kernel
theorem dX7_isWithin_10 : decode cX7_isWithin 10 = .ok (.iconst 1, 1) := by decide +kernel
theorem dX7_isWithin_11 : decode cX7_isWithin 11 = .ok (.goto 4, 3) := by decide +kernel
theorem dX7_isWithin_14 : decode cX7_isWithin 14 = .ok (.iconst 0, 1) := by decide +kernel
theorem dX7_isWithin_15 : decode cX7_isWithin 15 = .ok (.ireturn, 1) := by decide +kernel
theorem dX7_isPath_0 : decode cX7_isPath 0 = .ok (.iload_n 1, 1) := by decide +kernel
theorem dX7_isPath_1 : decode cX7_isPath 1 = .ok (.iconst 0, 1) := by decide +kernel
theorem dX7_isPath_2 : decode cX7_isPath 2 = .ok (.aload_n 0, 1) := by decide +kernel
theorem dX7_isPath_3 : decode cX7_isPath 3 = .ok (.getfield 23, 3) := by decide +kernel
theorem dX7_isPath_6 : decode cX7_isPath 6 = .ok (.getfield 178, 3) := by decide +kernel
theorem dX7_isPath_9 : decode cX7_isPath 9 = .ok (.iconst 1, 1) := by decide +kernel
theorem dX7_isPath_10 : decode cX7_isPath 10 = .ok (.isub, 1) := by decide +kernel
theorem dX7_isPath_11 : decode cX7_isPath 11 = .ok (.invokestatic 58, 3) := by decide +kernel
theorem dX7_isPath_14 : decode cX7_isPath 14 = .ok (.ireturn, 1) := by decide +kernel
theorem dX7_isKeptPlace_0 : decode cX7_isKeptPlace 0 = .ok (.iload_n 0, 1) := by decide +kernel
theorem dX7_isKeptPlace_1 : decode cX7_isKeptPlace 1 = .ok (.iconst 0, 1) := by decide +kernel
theorem dX7_isKeptPlace_2 : decode cX7_isKeptPlace 2 = .ok (.iconst 1, 1) := by decide +kernel
theorem dX7_isKeptPlace_3 : decode cX7_isKeptPlace 3 = .ok (.invokestatic 58, 3) := by decide +kernel
theorem dX7_isKeptPlace_6 : decode cX7_isKeptPlace 6 = .ok (.ireturn, 1) := by decide +kernel
theorem dX7_isTrace_0 : decode cX7_isTrace 0 = .ok (.iload_n 0, 1) := by decide +kernel
theorem dX7_isTrace_1 : decode cX7_isTrace 1 = .ok (.iconst 0, 1) := by decide +kernel
theorem dX7_isTrace_2 : decode cX7_isTrace 2 = .ok (.iconst 2, 1) := by decide +kernel
theorem dX7_isTrace_3 : decode cX7_isTrace 3 = .ok (.invokestatic 58, 3) := by decide +kernel
theorem dX7_isTrace_6 : decode cX7_isTrace 6 = .ok (.ireturn, 1) := by decide +kernel
theorem dX7_isSort_0 : decode cX7_isSort 0 = .ok (.iload_n 0, 1) := by decide +kernel
theorem dX7_isSort_1 : decode cX7_isSort 1 = .ok (.ifCond .eq 8, 3) := by decide +kernel
theorem dX7_isSort_4 : decode cX7_isSort 4 = .ok (.iload_n 0, 1) := by decide +kernel
theorem dX7_isSort_5 : decode cX7_isSort 5 = .ok (.iconst 1, 1) := by decide +kernel
theorem dX7_isSort_6 : decode cX7_isSort 6 = .ok (.if_icmp .ne 7, 3) := by decide +kernel
theorem dX7_isSort_9 : decode cX7_isSort 9 = .ok (.iconst 1, 1) := by decide +kernel
theorem dX7_isSort_10 : decode cX7_isSort 10 = .ok (.goto 4, 3) := by decide +kernel
theorem dX7_isSort_13 : decode cX7_isSort 13 = .ok (.iconst 0, 1) := by decide +kernel
theorem dX7_isSort_14 : decode cX7_isSort 14 = .ok (.ireturn, 1) := by decide +kernel
theorem dX7_isQuotientPart_0 : decode cX7_isQuotientPart 0 = .ok (.iload_n 0, 1) := by decide +kernel
theorem dX7_isQuotientPart_1 : decode cX7_isQuotientPart 1 = .ok (.sipush (-9999), 3) := by decide +kernel
theorem dX7_isQuotientPart_4 : decode cX7_isQuotientPart 4 = .ok (.sipush 9999, 3) := by decide +kernel
theorem dX7_isQuotientPart_7 : decode cX7_isQuotientPart 7 = .ok (.invokestatic 58, 3) := by decide +kernel
theorem dX7_isQuotientPart_10 : decode cX7_isQuotientPart 10 = .ok (.ireturn, 1) := by decide +kernel
theorem dX7_traceRefusal_0 : decode cX7_traceRefusal 0 = .ok (.iload_n 1, 1) := by decide +kernel
theorem dX7_traceRefusal_1 : decode cX7_traceRefusal 1 = .ok (.invokestatic 181, 3) := by decide +kernel
theorem dX7_traceRefusal_4 : decode cX7_traceRefusal 4 = .ok (.ifCond .ne 6, 3) := by decide +kernel
theorem dX7_traceRefusal_7 : decode cX7_traceRefusal 7 = .ok (.bipush (-2), 2) := by decide +kernel
theorem dX7_traceRefusal_9 : decode cX7_traceRefusal 9 = .ok (.ireturn, 1) := by decide +kernel
theorem dX7_traceRefusal_10 : decode cX7_traceRefusal 10 = .ok (.iload_n 2, 1) := by decide +kernel
theorem dX7_traceRefusal_11 : decode cX7_traceRefusal 11 = .ok (.invokestatic 184, 3) := by decide +kernel
theorem dX7_traceRefusal_14 : decode cX7_traceRefusal 14 = .ok (.ifCond .eq 19, 3) := by decide +kernel
theorem dX7_traceRefusal_17 : decode cX7_traceRefusal 17 = .ok (.aload_n 0, 1) := by decide +kernel
theorem dX7_traceRefusal_18 : decode cX7_traceRefusal 18 = .ok (.getfield 53, 3) := by decide +kernel
theorem dX7_traceRefusal_21 : decode cX7_traceRefusal 21 = .ok (.iload_n 1, 1) := by decide +kernel
theorem dX7_traceRefusal_22 : decode cX7_traceRefusal 22 = .ok (.aaload, 1) := by decide +kernel
theorem dX7_traceRefusal_23 : decode cX7_traceRefusal 23 = .ok (.iload_n 2, 1) := by decide +kernel
theorem dX7_traceRefusal_24 : decode cX7_traceRefusal 24 = .ok (.iload_n 3, 1) := by decide +kernel
theorem dX7_traceRefusal_25 : decode cX7_traceRefusal 25 = .ok (.iload 4, 2) := by decide +kernel
theorem dX7_traceRefusal_27 : decode cX7_traceRefusal 27 = .ok (.invokevirtual 193, 3) := by decide +kernel
theorem dX7_traceRefusal_30 : decode cX7_traceRefusal 30 = .ok (.goto 5, 3) := by decide +kernel
theorem dX7_traceRefusal_33 : decode cX7_traceRefusal 33 = .ok (.bipush (-3), 2) := by decide +kernel
theorem dX7_traceRefusal_35 : decode cX7_traceRefusal 35 = .ok (.ireturn, 1) := by decide +kernel
theorem dX7_placesOfAllTraces_0 : decode cX7_placesOfAllTraces 0 = .ok (.iconst 0, 1) := by decide +kernel
theorem dX7_placesOfAllTraces_1 : decode cX7_placesOfAllTraces 1 = .ok (.istore_n 1, 1) := by decide +kernel
theorem dX7_placesOfAllTraces_2 : decode cX7_placesOfAllTraces 2 = .ok (.iconst 0, 1) := by decide +kernel
theorem dX7_placesOfAllTraces_3 : decode cX7_placesOfAllTraces 3 = .ok (.istore_n 2, 1) := by decide +kernel
theorem dX7_placesOfAllTraces_4 : decode cX7_placesOfAllTraces 4 = .ok (.iload_n 2, 1) := by decide +kernel
theorem dX7_placesOfAllTraces_5 : decode cX7_placesOfAllTraces 5 = .ok (.iconst 3, 1) := by decide +kernel
theorem dX7_placesOfAllTraces_6 : decode cX7_placesOfAllTraces 6 = .ok (.if_icmp .ge 21, 3) := by decide +kernel
theorem dX7_placesOfAllTraces_9 : decode cX7_placesOfAllTraces 9 = .ok (.iload_n 1, 1) := by decide +kernel
theorem dX7_placesOfAllTraces_10 : decode cX7_placesOfAllTraces 10 = .ok (.aload_n 0, 1) := by decide +kernel
theorem dX7_placesOfAllTraces_11 : decode cX7_placesOfAllTraces 11 = .ok (.getfield 53, 3) := by decide +kernel
theorem dX7_placesOfAllTraces_14 : decode cX7_placesOfAllTraces 14 = .ok (.iload_n 2, 1) := by decide +kernel
theorem dX7_placesOfAllTraces_15 : decode cX7_placesOfAllTraces 15 = .ok (.aaload, 1) := by decide +kernel
theorem dX7_placesOfAllTraces_16 : decode cX7_placesOfAllTraces 16 = .ok (.invokevirtual 224, 3) := by decide +kernel
theorem dX7_placesOfAllTraces_19 : decode cX7_placesOfAllTraces 19 = .ok (.iadd, 1) := by decide +kernel
theorem dX7_placesOfAllTraces_20 : decode cX7_placesOfAllTraces 20 = .ok (.istore_n 1, 1) := by decide +kernel
theorem dX7_placesOfAllTraces_21 : decode cX7_placesOfAllTraces 21 = .ok (.iinc 2 1, 3) := by decide +kernel
theorem dX7_placesOfAllTraces_24 : decode cX7_placesOfAllTraces 24 = .ok (.goto (-20), 3) := by decide +kernel
theorem dX7_placesOfAllTraces_27 : decode cX7_placesOfAllTraces 27 = .ok (.iload_n 1, 1) := by decide +kernel
theorem dX7_placesOfAllTraces_28 : decode cX7_placesOfAllTraces 28 = .ok (.ireturn, 1) := by decide +kernel
theorem dX7_orAboveAll_0 : decode cX7_orAboveAll 0 = .ok (.iload_n 0, 1) := by decide +kernel
theorem dX7_orAboveAll_1 : decode cX7_orAboveAll 1 = .ok (.iconst (-1), 1) := by decide +kernel
theorem dX7_orAboveAll_2 : decode cX7_orAboveAll 2 = .ok (.if_icmp .ne 9, 3) := by decide +kernel
theorem dX7_orAboveAll_5 : decode cX7_orAboveAll 5 = .ok (.sipush 1000, 3) := by decide +kernel
theorem dX7_orAboveAll_8 : decode cX7_orAboveAll 8 = .ok (.goto 4, 3) := by decide +kernel
theorem dX7_orAboveAll_11 : decode cX7_orAboveAll 11 = .ok (.iload_n 0, 1) := by decide +kernel
theorem dX7_orAboveAll_12 : decode cX7_orAboveAll 12 = .ok (.ireturn, 1) := by decide +kernel
theorem dL_law_0 : decode cL_law 0 = .ok (.new 7, 3) := by decide +kernel
theorem dL_law_3 : decode cL_law 3 = .ok (.dup, 1) := by decide +kernel
theorem dL_law_4 : decode cL_law 4 = .ok (.invokespecial 9, 3) := by decide +kernel
theorem dL_law_7 : decode cL_law 7 = .ok (.astore_n 1, 1) := by decide +kernel
theorem dL_law_8 : decode cL_law 8 = .ok (.new 10, 3) := by decide +kernel
theorem dL_law_11 : decode cL_law 11 = .ok (.dup, 1) := by decide +kernel
theorem dL_law_12 : decode cL_law 12 = .ok (.invokespecial 12, 3) := by decide +kernel
theorem dL_law_15 : decode cL_law 15 = .ok (.astore_n 2, 1) := by decide +kernel
theorem dL_law_16 : decode cL_law 16 = .ok (.iconst 0, 1) := by decide +kernel
theorem dL_law_17 : decode cL_law 17 = .ok (.istore_n 3, 1) := by decide +kernel
theorem dL_law_18 : decode cL_law 18 = .ok (.iload_n 3, 1) := by decide +kernel
theorem dL_law_19 : decode cL_law 19 = .ok (.aload_n 0, 1) := by decide +kernel
theorem dL_law_20 : decode cL_law 20 = .ok (.arraylength, 1) := by decide +kernel
theorem dL_law_21 : decode cL_law 21 = .ok (.bipush 6, 2) := by decide +kernel
theorem dL_law_23 : decode cL_law 23 = .ok (.isub, 1) := by decide +kernel
theorem dL_law_24 : decode cL_law 24 = .ok (.if_icmp .gt 842, 3) := by decide +kernel
theorem dL_law_27 : decode cL_law 27 = .ok (.aload_n 0, 1) := by decide +kernel
theorem dL_law_28 : decode cL_law 28 = .ok (.iload_n 3, 1) := by decide +kernel
theorem dL_law_29 : decode cL_law 29 = .ok (.iaload, 1) := by decide +kernel
theorem dL_law_30 : decode cL_law 30 = .ok (.bipush 31, 2) := by decide +kernel
theorem dL_law_32 : decode cL_law 32 = .ok (.iand, 1) := by decide +kernel
theorem dL_law_33 : decode cL_law 33 = .ok (.tableswitch 827 0 25 #[119, 142, 155, 168, 181, 214, 237, 270, 283, 306, 329, 342, 365, 378, 401, 414, 447, 470, 493, 536, 599, 642, 695, 748, 781, 804], 119) := by decide +kernel
theorem dL_law_152 : decode cL_law 152 = .ok (.aload_n 1, 1) := by decide +kernel
theorem dL_law_153 : decode cL_law 153 = .ok (.aload_n 0, 1) := by decide +kernel
theorem dL_law_154 : decode cL_law 154 = .ok (.iload_n 3, 1) := by decide +kernel
theorem dL_law_155 : decode cL_law 155 = .ok (.iconst 1, 1) := by decide +kernel
theorem dL_law_156 : decode cL_law 156 = .ok (.iadd, 1) := by decide +kernel
theorem dL_law_157 : decode cL_law 157 = .ok (.iaload, 1) := by decide +kernel
theorem dL_law_158 : decode cL_law 158 = .ok (.invokevirtual 13, 3) := by decide +kernel
theorem dL_law_161 : decode cL_law 161 = .ok (.aload_n 2, 1) := by decide +kernel
theorem dL_law_162 : decode cL_law 162 = .ok (.aload_n 0, 1) := by decide +kernel
theorem dL_law_163 : decode cL_law 163 = .ok (.iload_n 3, 1) := by decide +kernel
theorem dL_law_164 : decode cL_law 164 = .ok (.iconst 1, 1) := by decide +kernel
theorem dL_law_165 : decode cL_law 165 = .ok (.iadd, 1) := by decide +kernel
theorem dL_law_166 : decode cL_law 166 = .ok (.iaload, 1) := by decide +kernel
theorem dL_law_167 : decode cL_law 167 = .ok (.invokevirtual 17, 3) := by decide +kernel
theorem dL_law_170 : decode cL_law 170 = .ok (.if_icmp .eq 690, 3) := by decide +kernel
theorem dL_law_173 : decode cL_law 173 = .ok (.iconst 0, 1) := by decide +kernel
theorem dL_law_174 : decode cL_law 174 = .ok (.ireturn, 1) := by decide +kernel
theorem dL_law_175 : decode cL_law 175 = .ok (.aload_n 1, 1) := by decide +kernel
theorem dL_law_176 : decode cL_law 176 = .ok (.invokevirtual 18, 3) := by decide +kernel
theorem dL_law_179 : decode cL_law 179 = .ok (.aload_n 2, 1) := by decide +kernel
theorem dL_law_180 : decode cL_law 180 = .ok (.invokevirtual 22, 3) := by decide +kernel
theorem dL_law_183 : decode cL_law 183 = .ok (.if_icmp .eq 677, 3) := by decide +kernel
theorem dL_law_186 : decode cL_law 186 = .ok (.iconst 0, 1) := by decide +kernel
theorem dL_law_187 : decode cL_law 187 = .ok (.ireturn, 1) := by decide +kernel
theorem dL_law_188 : decode cL_law 188 = .ok (.aload_n 1, 1) := by decide +kernel
theorem dL_law_189 : decode cL_law 189 = .ok (.invokevirtual 23, 3) := by decide +kernel
theorem dL_law_192 : decode cL_law 192 = .ok (.aload_n 2, 1) := by decide +kernel
theorem dL_law_193 : decode cL_law 193 = .ok (.invokevirtual 26, 3) := by decide +kernel
theorem dL_law_196 : decode cL_law 196 = .ok (.if_icmp .eq 664, 3) := by decide +kernel
theorem dL_law_199 : decode cL_law 199 = .ok (.iconst 0, 1) := by decide +kernel
theorem dL_law_200 : decode cL_law 200 = .ok (.ireturn, 1) := by decide +kernel
theorem dL_law_201 : decode cL_law 201 = .ok (.aload_n 1, 1) := by decide +kernel
theorem dL_law_202 : decode cL_law 202 = .ok (.invokevirtual 27, 3) := by decide +kernel
theorem dL_law_205 : decode cL_law 205 = .ok (.aload_n 2, 1) := by decide +kernel
theorem dL_law_206 : decode cL_law 206 = .ok (.invokevirtual 30, 3) := by decide +kernel
theorem dL_law_209 : decode cL_law 209 = .ok (.if_icmp .eq 651, 3) := by decide +kernel
theorem dL_law_212 : decode cL_law 212 = .ok (.iconst 0, 1) := by decide +kernel
theorem dL_law_213 : decode cL_law 213 = .ok (.ireturn, 1) := by decide +kernel
theorem dL_law_214 : decode cL_law 214 = .ok (.aload_n 1, 1) := by decide +kernel
theorem dL_law_215 : decode cL_law 215 = .ok (.aload_n 0, 1) := by decide +kernel
theorem dL_law_216 : decode cL_law 216 = .ok (.iload_n 3, 1) := by decide +kernel
theorem dL_law_217 : decode cL_law 217 = .ok (.iconst 1, 1) := by decide +kernel
theorem dL_law_218 : decode cL_law 218 = .ok (.iadd, 1) := by decide +kernel
theorem dL_law_219 : decode cL_law 219 = .ok (.iaload, 1) := by decide +kernel
theorem dL_law_220 : decode cL_law 220 = .ok (.aload_n 0, 1) := by decide +kernel
theorem dL_law_221 : decode cL_law 221 = .ok (.iload_n 3, 1) := by decide +kernel
theorem dL_law_222 : decode cL_law 222 = .ok (.iconst 2, 1) := by decide +kernel
theorem dL_law_223 : decode cL_law 223 = .ok (.iadd, 1) := by decide +kernel
theorem dL_law_224 : decode cL_law 224 = .ok (.iaload, 1) := by decide +kernel
theorem dL_law_225 : decode cL_law 225 = .ok (.invokevirtual 31, 3) := by decide +kernel
theorem dL_law_228 : decode cL_law 228 = .ok (.aload_n 2, 1) := by decide +kernel
theorem dL_law_229 : decode cL_law 229 = .ok (.aload_n 0, 1) := by decide +kernel
theorem dL_law_230 : decode cL_law 230 = .ok (.iload_n 3, 1) := by decide +kernel
theorem dL_law_231 : decode cL_law 231 = .ok (.iconst 1, 1) := by decide +kernel
theorem dL_law_232 : decode cL_law 232 = .ok (.iadd, 1) := by decide +kernel
theorem dL_law_233 : decode cL_law 233 = .ok (.iaload, 1) := by decide +kernel
theorem dL_law_234 : decode cL_law 234 = .ok (.aload_n 0, 1) := by decide +kernel
theorem dL_law_235 : decode cL_law 235 = .ok (.iload_n 3, 1) := by decide +kernel
theorem dL_law_236 : decode cL_law 236 = .ok (.iconst 2, 1) := by decide +kernel
theorem dL_law_237 : decode cL_law 237 = .ok (.iadd, 1) := by decide +kernel
theorem dL_law_238 : decode cL_law 238 = .ok (.iaload, 1) := by decide +kernel
theorem dL_law_239 : decode cL_law 239 = .ok (.invokevirtual 35, 3) := by decide +kernel
theorem dL_law_242 : decode cL_law 242 = .ok (.if_icmp .eq 618, 3) := by decide +kernel
theorem dL_law_245 : decode cL_law 245 = .ok (.iconst 0, 1) := by decide +kernel
theorem dL_law_246 : decode cL_law 246 = .ok (.ireturn, 1) := by decide +kernel
theorem dL_law_247 : decode cL_law 247 = .ok (.aload_n 1, 1) := by decide +kernel
theorem dL_law_248 : decode cL_law 248 = .ok (.aload_n 0, 1) := by decide +kernel
theorem dL_law_249 : decode cL_law 249 = .ok (.iload_n 3, 1) := by decide +kernel
theorem dL_law_250 : decode cL_law 250 = .ok (.iconst 1, 1) := by decide +kernel
theorem dL_law_251 : decode cL_law 251 = .ok (.iadd, 1) := by decide +kernel
theorem dL_law_252 : decode cL_law 252 = .ok (.iaload, 1) := by decide +kernel
theorem dL_law_253 : decode cL_law 253 = .ok (.invokevirtual 36, 3) := by decide +kernel
theorem dL_law_256 : decode cL_law 256 = .ok (.aload_n 2, 1) := by decide +kernel
theorem dL_law_257 : decode cL_law 257 = .ok (.aload_n 0, 1) := by decide +kernel
theorem dL_law_258 : decode cL_law 258 = .ok (.iload_n 3, 1) := by decide +kernel
theorem dL_law_259 : decode cL_law 259 = .ok (.iconst 1, 1) := by decide +kernel
theorem dL_law_260 : decode cL_law 260 = .ok (.iadd, 1) := by decide +kernel
theorem dL_law_261 : decode cL_law 261 = .ok (.iaload, 1) := by decide +kernel
theorem dL_law_262 : decode cL_law 262 = .ok (.invokevirtual 39, 3) := by decide +kernel
theorem dL_law_265 : decode cL_law 265 = .ok (.if_icmp .eq 595, 3) := by decide +kernel
theorem dL_law_268 : decode cL_law 268 = .ok (.iconst 0, 1) := by decide +kernel
theorem dL_law_269 : decode cL_law 269 = .ok (.ireturn, 1) := by decide +kernel
theorem dL_law_270 : decode cL_law 270 = .ok (.aload_n 1, 1) := by decide +kernel
theorem dL_law_271 : decode cL_law 271 = .ok (.aload_n 0, 1) := by decide +kernel
theorem dL_law_272 : decode cL_law 272 = .ok (.iload_n 3, 1) := by decide +kernel
theorem dL_law_273 : decode cL_law 273 = .ok (.iconst 1, 1) := by decide +kernel
theorem dL_law_274 : decode cL_law 274 = .ok (.iadd, 1) := by decide +kernel
theorem dL_law_275 : decode cL_law 275 = .ok (.iaload, 1) := by decide +kernel
theorem dL_law_276 : decode cL_law 276 = .ok (.aload_n 0, 1) := by decide +kernel
theorem dL_law_277 : decode cL_law 277 = .ok (.iload_n 3, 1) := by decide +kernel
theorem dL_law_278 : decode cL_law 278 = .ok (.iconst 2, 1) := by decide +kernel
theorem dL_law_279 : decode cL_law 279 = .ok (.iadd, 1) := by decide +kernel
theorem dL_law_280 : decode cL_law 280 = .ok (.iaload, 1) := by decide +kernel
theorem dL_law_281 : decode cL_law 281 = .ok (.invokevirtual 40, 3) := by decide +kernel
theorem dL_law_284 : decode cL_law 284 = .ok (.aload_n 2, 1) := by decide +kernel
theorem dL_law_285 : decode cL_law 285 = .ok (.aload_n 0, 1) := by decide +kernel
theorem dL_law_286 : decode cL_law 286 = .ok (.iload_n 3, 1) := by decide +kernel
theorem dL_law_287 : decode cL_law 287 = .ok (.iconst 1, 1) := by decide +kernel
theorem dL_law_288 : decode cL_law 288 = .ok (.iadd, 1) := by decide +kernel
theorem dL_law_289 : decode cL_law 289 = .ok (.iaload, 1) := by decide +kernel
theorem dL_law_290 : decode cL_law 290 = .ok (.aload_n 0, 1) := by decide +kernel
theorem dL_law_291 : decode cL_law 291 = .ok (.iload_n 3, 1) := by decide +kernel
theorem dL_law_292 : decode cL_law 292 = .ok (.iconst 2, 1) := by decide +kernel
theorem dL_law_293 : decode cL_law 293 = .ok (.iadd, 1) := by decide +kernel
theorem dL_law_294 : decode cL_law 294 = .ok (.iaload, 1) := by decide +kernel
theorem dL_law_295 : decode cL_law 295 = .ok (.invokevirtual 43, 3) := by decide +kernel
theorem dL_law_298 : decode cL_law 298 = .ok (.if_icmp .eq 562, 3) := by decide +kernel
theorem dL_law_301 : decode cL_law 301 = .ok (.iconst 0, 1) := by decide +kernel
theorem dL_law_302 : decode cL_law 302 = .ok (.ireturn, 1) := by decide +kernel
theorem dL_law_303 : decode cL_law 303 = .ok (.aload_n 1, 1) := by decide +kernel
theorem dL_law_304 : decode cL_law 304 = .ok (.invokevirtual 44, 3) := by decide +kernel
theorem dL_law_307 : decode cL_law 307 = .ok (.aload_n 2, 1) := by decide +kernel
theorem dL_law_308 : decode cL_law 308 = .ok (.invokevirtual 47, 3) := by decide +kernel
theorem dL_law_311 : decode cL_law 311 = .ok (.if_icmp .eq 549, 3) := by decide +kernel
theorem dL_law_314 : decode cL_law 314 = .ok (.iconst 0, 1) := by decide +kernel
theorem dL_law_315 : decode cL_law 315 = .ok (.ireturn, 1) := by decide +kernel
theorem dL_law_316 : decode cL_law 316 = .ok (.aload_n 1, 1) := by decide +kernel
theorem dL_law_317 : decode cL_law 317 = .ok (.aload_n 0, 1) := by decide +kernel
theorem dL_law_318 : decode cL_law 318 = .ok (.iload_n 3, 1) := by decide +kernel
theorem dL_law_319 : decode cL_law 319 = .ok (.iconst 1, 1) := by decide +kernel
theorem dL_law_320 : decode cL_law 320 = .ok (.iadd, 1) := by decide +kernel
theorem dL_law_321 : decode cL_law 321 = .ok (.iaload, 1) := by decide +kernel
theorem dL_law_322 : decode cL_law 322 = .ok (.invokevirtual 48, 3) := by decide +kernel
theorem dL_law_325 : decode cL_law 325 = .ok (.aload_n 2, 1) := by decide +kernel
theorem dL_law_326 : decode cL_law 326 = .ok (.aload_n 0, 1) := by decide +kernel
theorem dL_law_327 : decode cL_law 327 = .ok (.iload_n 3, 1) := by decide +kernel
theorem dL_law_328 : decode cL_law 328 = .ok (.iconst 1, 1) := by decide +kernel
theorem dL_law_329 : decode cL_law 329 = .ok (.iadd, 1) := by decide +kernel
theorem dL_law_330 : decode cL_law 330 = .ok (.iaload, 1) := by decide +kernel
theorem dL_law_331 : decode cL_law 331 = .ok (.invokevirtual 51, 3) := by decide +kernel
theorem dL_law_334 : decode cL_law 334 = .ok (.if_icmp .eq 526, 3) := by decide +kernel
theorem dL_law_337 : decode cL_law 337 = .ok (.iconst 0, 1) := by decide +kernel
theorem dL_law_338 : decode cL_law 338 = .ok (.ireturn, 1) := by decide +kernel
theorem dL_law_339 : decode cL_law 339 = .ok (.aload_n 1, 1) := by decide +kernel
theorem dL_law_340 : decode cL_law 340 = .ok (.aload_n 0, 1) := by decide +kernel
theorem dL_law_341 : decode cL_law 341 = .ok (.iload_n 3, 1) := by decide +kernel
theorem dL_law_342 : decode cL_law 342 = .ok (.iconst 1, 1) := by decide +kernel
theorem dL_law_343 : decode cL_law 343 = .ok (.iadd, 1) := by decide +kernel
theorem dL_law_344 : decode cL_law 344 = .ok (.iaload, 1) := by decide +kernel
theorem dL_law_345 : decode cL_law 345 = .ok (.invokevirtual 52, 3) := by decide +kernel
theorem dL_law_348 : decode cL_law 348 = .ok (.aload_n 2, 1) := by decide +kernel
theorem dL_law_349 : decode cL_law 349 = .ok (.aload_n 0, 1) := by decide +kernel
theorem dL_law_350 : decode cL_law 350 = .ok (.iload_n 3, 1) := by decide +kernel
theorem dL_law_351 : decode cL_law 351 = .ok (.iconst 1, 1) := by decide +kernel
theorem dL_law_352 : decode cL_law 352 = .ok (.iadd, 1) := by decide +kernel
theorem dL_law_353 : decode cL_law 353 = .ok (.iaload, 1) := by decide +kernel
theorem dL_law_354 : decode cL_law 354 = .ok (.invokevirtual 55, 3) := by decide +kernel
theorem dL_law_357 : decode cL_law 357 = .ok (.if_icmp .eq 503, 3) := by decide +kernel
theorem dL_law_360 : decode cL_law 360 = .ok (.iconst 0, 1) := by decide +kernel
theorem dL_law_361 : decode cL_law 361 = .ok (.ireturn, 1) := by decide +kernel
theorem dL_law_362 : decode cL_law 362 = .ok (.aload_n 1, 1) := by decide +kernel
theorem dL_law_363 : decode cL_law 363 = .ok (.invokevirtual 56, 3) := by decide +kernel
theorem dL_law_366 : decode cL_law 366 = .ok (.aload_n 2, 1) := by decide +kernel
theorem dL_law_367 : decode cL_law 367 = .ok (.invokevirtual 59, 3) := by decide +kernel
theorem dL_law_370 : decode cL_law 370 = .ok (.if_icmp .eq 490, 3) := by decide +kernel
theorem dL_law_373 : decode cL_law 373 = .ok (.iconst 0, 1) := by decide +kernel
theorem dL_law_374 : decode cL_law 374 = .ok (.ireturn, 1) := by decide +kernel
theorem dL_law_375 : decode cL_law 375 = .ok (.aload_n 1, 1) := by decide +kernel
theorem dL_law_376 : decode cL_law 376 = .ok (.aload_n 0, 1) := by decide +kernel
theorem dL_law_377 : decode cL_law 377 = .ok (.iload_n 3, 1) := by decide +kernel
theorem dL_law_378 : decode cL_law 378 = .ok (.iconst 1, 1) := by decide +kernel
theorem dL_law_379 : decode cL_law 379 = .ok (.iadd, 1) := by decide +kernel
theorem dL_law_380 : decode cL_law 380 = .ok (.iaload, 1) := by decide +kernel
theorem dL_law_381 : decode cL_law 381 = .ok (.invokevirtual 60, 3) := by decide +kernel
theorem dL_law_384 : decode cL_law 384 = .ok (.aload_n 2, 1) := by decide +kernel
theorem dL_law_385 : decode cL_law 385 = .ok (.aload_n 0, 1) := by decide +kernel
theorem dL_law_386 : decode cL_law 386 = .ok (.iload_n 3, 1) := by decide +kernel
theorem dL_law_387 : decode cL_law 387 = .ok (.iconst 1, 1) := by decide +kernel
theorem dL_law_388 : decode cL_law 388 = .ok (.iadd, 1) := by decide +kernel
theorem dL_law_389 : decode cL_law 389 = .ok (.iaload, 1) := by decide +kernel
theorem dL_law_390 : decode cL_law 390 = .ok (.invokevirtual 63, 3) := by decide +kernel
theorem dL_law_393 : decode cL_law 393 = .ok (.if_icmp .eq 467, 3) := by decide +kernel
theorem dL_law_396 : decode cL_law 396 = .ok (.iconst 0, 1) := by decide +kernel
theorem dL_law_397 : decode cL_law 397 = .ok (.ireturn, 1) := by decide +kernel
theorem dL_law_398 : decode cL_law 398 = .ok (.aload_n 1, 1) := by decide +kernel
theorem dL_law_399 : decode cL_law 399 = .ok (.invokevirtual 64, 3) := by decide +kernel
theorem dL_law_402 : decode cL_law 402 = .ok (.aload_n 2, 1) := by decide +kernel
theorem dL_law_403 : decode cL_law 403 = .ok (.invokevirtual 67, 3) := by decide +kernel
theorem dL_law_406 : decode cL_law 406 = .ok (.if_icmp .eq 454, 3) := by decide +kernel
theorem dL_law_409 : decode cL_law 409 = .ok (.iconst 0, 1) := by decide +kernel
theorem dL_law_410 : decode cL_law 410 = .ok (.ireturn, 1) := by decide +kernel
theorem dL_law_411 : decode cL_law 411 = .ok (.aload_n 1, 1) := by decide +kernel
theorem dL_law_412 : decode cL_law 412 = .ok (.aload_n 0, 1) := by decide +kernel
theorem dL_law_413 : decode cL_law 413 = .ok (.iload_n 3, 1) := by decide +kernel
theorem dL_law_414 : decode cL_law 414 = .ok (.iconst 1, 1) := by decide +kernel
theorem dL_law_415 : decode cL_law 415 = .ok (.iadd, 1) := by decide +kernel
theorem dL_law_416 : decode cL_law 416 = .ok (.iaload, 1) := by decide +kernel
theorem dL_law_417 : decode cL_law 417 = .ok (.invokevirtual 68, 3) := by decide +kernel
theorem dL_law_420 : decode cL_law 420 = .ok (.aload_n 2, 1) := by decide +kernel
theorem dL_law_421 : decode cL_law 421 = .ok (.aload_n 0, 1) := by decide +kernel
theorem dL_law_422 : decode cL_law 422 = .ok (.iload_n 3, 1) := by decide +kernel
theorem dL_law_423 : decode cL_law 423 = .ok (.iconst 1, 1) := by decide +kernel
theorem dL_law_424 : decode cL_law 424 = .ok (.iadd, 1) := by decide +kernel
theorem dL_law_425 : decode cL_law 425 = .ok (.iaload, 1) := by decide +kernel
theorem dL_law_426 : decode cL_law 426 = .ok (.invokevirtual 71, 3) := by decide +kernel
theorem dL_law_429 : decode cL_law 429 = .ok (.if_icmp .eq 431, 3) := by decide +kernel
theorem dL_law_432 : decode cL_law 432 = .ok (.iconst 0, 1) := by decide +kernel
theorem dL_law_433 : decode cL_law 433 = .ok (.ireturn, 1) := by decide +kernel
theorem dL_law_434 : decode cL_law 434 = .ok (.aload_n 1, 1) := by decide +kernel
theorem dL_law_435 : decode cL_law 435 = .ok (.invokevirtual 72, 3) := by decide +kernel
theorem dL_law_438 : decode cL_law 438 = .ok (.aload_n 2, 1) := by decide +kernel
theorem dL_law_439 : decode cL_law 439 = .ok (.invokevirtual 75, 3) := by decide +kernel
theorem dL_law_442 : decode cL_law 442 = .ok (.if_icmp .eq 418, 3) := by decide +kernel
theorem dL_law_445 : decode cL_law 445 = .ok (.iconst 0, 1) := by decide +kernel
theorem dL_law_446 : decode cL_law 446 = .ok (.ireturn, 1) := by decide +kernel
theorem dL_law_447 : decode cL_law 447 = .ok (.aload_n 1, 1) := by decide +kernel
theorem dL_law_448 : decode cL_law 448 = .ok (.aload_n 0, 1) := by decide +kernel
theorem dL_law_449 : decode cL_law 449 = .ok (.iload_n 3, 1) := by decide +kernel
theorem dL_law_450 : decode cL_law 450 = .ok (.iconst 1, 1) := by decide +kernel
theorem dL_law_451 : decode cL_law 451 = .ok (.iadd, 1) := by decide +kernel
theorem dL_law_452 : decode cL_law 452 = .ok (.iaload, 1) := by decide +kernel
theorem dL_law_453 : decode cL_law 453 = .ok (.aload_n 0, 1) := by decide +kernel
theorem dL_law_454 : decode cL_law 454 = .ok (.iload_n 3, 1) := by decide +kernel
theorem dL_law_455 : decode cL_law 455 = .ok (.iconst 2, 1) := by decide +kernel
theorem dL_law_456 : decode cL_law 456 = .ok (.iadd, 1) := by decide +kernel
theorem dL_law_457 : decode cL_law 457 = .ok (.iaload, 1) := by decide +kernel
theorem dL_law_458 : decode cL_law 458 = .ok (.invokevirtual 76, 3) := by decide +kernel
theorem dL_law_461 : decode cL_law 461 = .ok (.aload_n 2, 1) := by decide +kernel
theorem dL_law_462 : decode cL_law 462 = .ok (.aload_n 0, 1) := by decide +kernel
theorem dL_law_463 : decode cL_law 463 = .ok (.iload_n 3, 1) := by decide +kernel
theorem dL_law_464 : decode cL_law 464 = .ok (.iconst 1, 1) := by decide +kernel
theorem dL_law_465 : decode cL_law 465 = .ok (.iadd, 1) := by decide +kernel
theorem dL_law_466 : decode cL_law 466 = .ok (.iaload, 1) := by decide +kernel
theorem dL_law_467 : decode cL_law 467 = .ok (.aload_n 0, 1) := by decide +kernel
theorem dL_law_468 : decode cL_law 468 = .ok (.iload_n 3, 1) := by decide +kernel
theorem dL_law_469 : decode cL_law 469 = .ok (.iconst 2, 1) := by decide +kernel
theorem dL_law_470 : decode cL_law 470 = .ok (.iadd, 1) := by decide +kernel
theorem dL_law_471 : decode cL_law 471 = .ok (.iaload, 1) := by decide +kernel
theorem dL_law_472 : decode cL_law 472 = .ok (.invokevirtual 79, 3) := by decide +kernel
theorem dL_law_475 : decode cL_law 475 = .ok (.if_icmp .eq 385, 3) := by decide +kernel
theorem dL_law_478 : decode cL_law 478 = .ok (.iconst 0, 1) := by decide +kernel
theorem dL_law_479 : decode cL_law 479 = .ok (.ireturn, 1) := by decide +kernel
theorem dL_law_480 : decode cL_law 480 = .ok (.aload_n 1, 1) := by decide +kernel
theorem dL_law_481 : decode cL_law 481 = .ok (.aload_n 0, 1) := by decide +kernel
theorem dL_law_482 : decode cL_law 482 = .ok (.iload_n 3, 1) := by decide +kernel
theorem dL_law_483 : decode cL_law 483 = .ok (.iconst 1, 1) := by decide +kernel
theorem dL_law_484 : decode cL_law 484 = .ok (.iadd, 1) := by decide +kernel
theorem dL_law_485 : decode cL_law 485 = .ok (.iaload, 1) := by decide +kernel
theorem dL_law_486 : decode cL_law 486 = .ok (.invokevirtual 80, 3) := by decide +kernel
theorem dL_law_489 : decode cL_law 489 = .ok (.aload_n 2, 1) := by decide +kernel
theorem dL_law_490 : decode cL_law 490 = .ok (.aload_n 0, 1) := by decide +kernel
theorem dL_law_491 : decode cL_law 491 = .ok (.iload_n 3, 1) := by decide +kernel
theorem dL_law_492 : decode cL_law 492 = .ok (.iconst 1, 1) := by decide +kernel
theorem dL_law_493 : decode cL_law 493 = .ok (.iadd, 1) := by decide +kernel
theorem dL_law_494 : decode cL_law 494 = .ok (.iaload, 1) := by decide +kernel
theorem dL_law_495 : decode cL_law 495 = .ok (.invokevirtual 83, 3) := by decide +kernel
theorem dL_law_498 : decode cL_law 498 = .ok (.if_icmp .eq 362, 3) := by decide +kernel
theorem dL_law_501 : decode cL_law 501 = .ok (.iconst 0, 1) := by decide +kernel
theorem dL_law_502 : decode cL_law 502 = .ok (.ireturn, 1) := by decide +kernel
theorem dL_law_503 : decode cL_law 503 = .ok (.aload_n 1, 1) := by decide +kernel
theorem dL_law_504 : decode cL_law 504 = .ok (.aload_n 0, 1) := by decide +kernel
theorem dL_law_505 : decode cL_law 505 = .ok (.iload_n 3, 1) := by decide +kernel
theorem dL_law_506 : decode cL_law 506 = .ok (.iconst 1, 1) := by decide +kernel
theorem dL_law_507 : decode cL_law 507 = .ok (.iadd, 1) := by decide +kernel
theorem dL_law_508 : decode cL_law 508 = .ok (.iaload, 1) := by decide +kernel
theorem dL_law_509 : decode cL_law 509 = .ok (.invokevirtual 84, 3) := by decide +kernel
theorem dL_law_512 : decode cL_law 512 = .ok (.aload_n 2, 1) := by decide +kernel
theorem dL_law_513 : decode cL_law 513 = .ok (.aload_n 0, 1) := by decide +kernel
theorem dL_law_514 : decode cL_law 514 = .ok (.iload_n 3, 1) := by decide +kernel
theorem dL_law_515 : decode cL_law 515 = .ok (.iconst 1, 1) := by decide +kernel
theorem dL_law_516 : decode cL_law 516 = .ok (.iadd, 1) := by decide +kernel
theorem dL_law_517 : decode cL_law 517 = .ok (.iaload, 1) := by decide +kernel
theorem dL_law_518 : decode cL_law 518 = .ok (.invokevirtual 87, 3) := by decide +kernel
theorem dL_law_521 : decode cL_law 521 = .ok (.if_icmp .eq 339, 3) := by decide +kernel
theorem dL_law_524 : decode cL_law 524 = .ok (.iconst 0, 1) := by decide +kernel
theorem dL_law_525 : decode cL_law 525 = .ok (.ireturn, 1) := by decide +kernel
theorem dL_law_526 : decode cL_law 526 = .ok (.aload_n 1, 1) := by decide +kernel
theorem dL_law_527 : decode cL_law 527 = .ok (.aload_n 0, 1) := by decide +kernel
theorem dL_law_528 : decode cL_law 528 = .ok (.iload_n 3, 1) := by decide +kernel
theorem dL_law_529 : decode cL_law 529 = .ok (.iconst 1, 1) := by decide +kernel
theorem dL_law_530 : decode cL_law 530 = .ok (.iadd, 1) := by decide +kernel
theorem dL_law_531 : decode cL_law 531 = .ok (.iaload, 1) := by decide +kernel
theorem dL_law_532 : decode cL_law 532 = .ok (.aload_n 0, 1) := by decide +kernel
theorem dL_law_533 : decode cL_law 533 = .ok (.iload_n 3, 1) := by decide +kernel
theorem dL_law_534 : decode cL_law 534 = .ok (.iconst 2, 1) := by decide +kernel
theorem dL_law_535 : decode cL_law 535 = .ok (.iadd, 1) := by decide +kernel
theorem dL_law_536 : decode cL_law 536 = .ok (.iaload, 1) := by decide +kernel
theorem dL_law_537 : decode cL_law 537 = .ok (.aload_n 0, 1) := by decide +kernel
theorem dL_law_538 : decode cL_law 538 = .ok (.iload_n 3, 1) := by decide +kernel
theorem dL_law_539 : decode cL_law 539 = .ok (.iconst 3, 1) := by decide +kernel
theorem dL_law_540 : decode cL_law 540 = .ok (.iadd, 1) := by decide +kernel
theorem dL_law_541 : decode cL_law 541 = .ok (.iaload, 1) := by decide +kernel
theorem dL_law_542 : decode cL_law 542 = .ok (.invokevirtual 88, 3) := by decide +kernel
theorem dL_law_545 : decode cL_law 545 = .ok (.aload_n 2, 1) := by decide +kernel
theorem dL_law_546 : decode cL_law 546 = .ok (.aload_n 0, 1) := by decide +kernel
theorem dL_law_547 : decode cL_law 547 = .ok (.iload_n 3, 1) := by decide +kernel
theorem dL_law_548 : decode cL_law 548 = .ok (.iconst 1, 1) := by decide +kernel
theorem dL_law_549 : decode cL_law 549 = .ok (.iadd, 1) := by decide +kernel
theorem dL_law_550 : decode cL_law 550 = .ok (.iaload, 1) := by decide +kernel
theorem dL_law_551 : decode cL_law 551 = .ok (.aload_n 0, 1) := by decide +kernel
theorem dL_law_552 : decode cL_law 552 = .ok (.iload_n 3, 1) := by decide +kernel
theorem dL_law_553 : decode cL_law 553 = .ok (.iconst 2, 1) := by decide +kernel
theorem dL_law_554 : decode cL_law 554 = .ok (.iadd, 1) := by decide +kernel
theorem dL_law_555 : decode cL_law 555 = .ok (.iaload, 1) := by decide +kernel
theorem dL_law_556 : decode cL_law 556 = .ok (.aload_n 0, 1) := by decide +kernel
theorem dL_law_557 : decode cL_law 557 = .ok (.iload_n 3, 1) := by decide +kernel
theorem dL_law_558 : decode cL_law 558 = .ok (.iconst 3, 1) := by decide +kernel
theorem dL_law_559 : decode cL_law 559 = .ok (.iadd, 1) := by decide +kernel
theorem dL_law_560 : decode cL_law 560 = .ok (.iaload, 1) := by decide +kernel
theorem dL_law_561 : decode cL_law 561 = .ok (.invokevirtual 92, 3) := by decide +kernel
theorem dL_law_564 : decode cL_law 564 = .ok (.if_icmp .eq 296, 3) := by decide +kernel
theorem dL_law_567 : decode cL_law 567 = .ok (.iconst 0, 1) := by decide +kernel
theorem dL_law_568 : decode cL_law 568 = .ok (.ireturn, 1) := by decide +kernel
theorem dL_law_569 : decode cL_law 569 = .ok (.aload_n 1, 1) := by decide +kernel
theorem dL_law_570 : decode cL_law 570 = .ok (.aload_n 0, 1) := by decide +kernel
theorem dL_law_571 : decode cL_law 571 = .ok (.iload_n 3, 1) := by decide +kernel
theorem dL_law_572 : decode cL_law 572 = .ok (.iconst 1, 1) := by decide +kernel
theorem dL_law_573 : decode cL_law 573 = .ok (.iadd, 1) := by decide +kernel
theorem dL_law_574 : decode cL_law 574 = .ok (.iaload, 1) := by decide +kernel
theorem dL_law_575 : decode cL_law 575 = .ok (.aload_n 0, 1) := by decide +kernel
theorem dL_law_576 : decode cL_law 576 = .ok (.iload_n 3, 1) := by decide +kernel
theorem dL_law_577 : decode cL_law 577 = .ok (.iconst 2, 1) := by decide +kernel
theorem dL_law_578 : decode cL_law 578 = .ok (.iadd, 1) := by decide +kernel
theorem dL_law_579 : decode cL_law 579 = .ok (.iaload, 1) := by decide +kernel
theorem dL_law_580 : decode cL_law 580 = .ok (.aload_n 0, 1) := by decide +kernel
theorem dL_law_581 : decode cL_law 581 = .ok (.iload_n 3, 1) := by decide +kernel
theorem dL_law_582 : decode cL_law 582 = .ok (.iconst 3, 1) := by decide +kernel
theorem dL_law_583 : decode cL_law 583 = .ok (.iadd, 1) := by decide +kernel
theorem dL_law_584 : decode cL_law 584 = .ok (.iaload, 1) := by decide +kernel
theorem dL_law_585 : decode cL_law 585 = .ok (.aload_n 0, 1) := by decide +kernel
theorem dL_law_586 : decode cL_law 586 = .ok (.iload_n 3, 1) := by decide +kernel
theorem dL_law_587 : decode cL_law 587 = .ok (.iconst 4, 1) := by decide +kernel
theorem dL_law_588 : decode cL_law 588 = .ok (.iadd, 1) := by decide +kernel
theorem dL_law_589 : decode cL_law 589 = .ok (.iaload, 1) := by decide +kernel
theorem dL_law_590 : decode cL_law 590 = .ok (.aload_n 0, 1) := by decide +kernel
theorem dL_law_591 : decode cL_law 591 = .ok (.iload_n 3, 1) := by decide +kernel
theorem dL_law_592 : decode cL_law 592 = .ok (.iconst 5, 1) := by decide +kernel
theorem dL_law_593 : decode cL_law 593 = .ok (.iadd, 1) := by decide +kernel
theorem dL_law_594 : decode cL_law 594 = .ok (.iaload, 1) := by decide +kernel
theorem dL_law_595 : decode cL_law 595 = .ok (.invokevirtual 93, 3) := by decide +kernel
theorem dL_law_598 : decode cL_law 598 = .ok (.aload_n 2, 1) := by decide +kernel
theorem dL_law_599 : decode cL_law 599 = .ok (.aload_n 0, 1) := by decide +kernel
theorem dL_law_600 : decode cL_law 600 = .ok (.iload_n 3, 1) := by decide +kernel
theorem dL_law_601 : decode cL_law 601 = .ok (.iconst 1, 1) := by decide +kernel
theorem dL_law_602 : decode cL_law 602 = .ok (.iadd, 1) := by decide +kernel
theorem dL_law_603 : decode cL_law 603 = .ok (.iaload, 1) := by decide +kernel
theorem dL_law_604 : decode cL_law 604 = .ok (.aload_n 0, 1) := by decide +kernel
theorem dL_law_605 : decode cL_law 605 = .ok (.iload_n 3, 1) := by decide +kernel
theorem dL_law_606 : decode cL_law 606 = .ok (.iconst 2, 1) := by decide +kernel
theorem dL_law_607 : decode cL_law 607 = .ok (.iadd, 1) := by decide +kernel
theorem dL_law_608 : decode cL_law 608 = .ok (.iaload, 1) := by decide +kernel
theorem dL_law_609 : decode cL_law 609 = .ok (.aload_n 0, 1) := by decide +kernel
theorem dL_law_610 : decode cL_law 610 = .ok (.iload_n 3, 1) := by decide +kernel
theorem dL_law_611 : decode cL_law 611 = .ok (.iconst 3, 1) := by decide +kernel
theorem dL_law_612 : decode cL_law 612 = .ok (.iadd, 1) := by decide +kernel
theorem dL_law_613 : decode cL_law 613 = .ok (.iaload, 1) := by decide +kernel
theorem dL_law_614 : decode cL_law 614 = .ok (.aload_n 0, 1) := by decide +kernel
theorem dL_law_615 : decode cL_law 615 = .ok (.iload_n 3, 1) := by decide +kernel
theorem dL_law_616 : decode cL_law 616 = .ok (.iconst 4, 1) := by decide +kernel
theorem dL_law_617 : decode cL_law 617 = .ok (.iadd, 1) := by decide +kernel
theorem dL_law_618 : decode cL_law 618 = .ok (.iaload, 1) := by decide +kernel
theorem dL_law_619 : decode cL_law 619 = .ok (.aload_n 0, 1) := by decide +kernel
theorem dL_law_620 : decode cL_law 620 = .ok (.iload_n 3, 1) := by decide +kernel
theorem dL_law_621 : decode cL_law 621 = .ok (.iconst 5, 1) := by decide +kernel
theorem dL_law_622 : decode cL_law 622 = .ok (.iadd, 1) := by decide +kernel
theorem dL_law_623 : decode cL_law 623 = .ok (.iaload, 1) := by decide +kernel
theorem dL_law_624 : decode cL_law 624 = .ok (.invokevirtual 97, 3) := by decide +kernel
theorem dL_law_627 : decode cL_law 627 = .ok (.if_icmp .eq 233, 3) := by decide +kernel
theorem dL_law_630 : decode cL_law 630 = .ok (.iconst 0, 1) := by decide +kernel
theorem dL_law_631 : decode cL_law 631 = .ok (.ireturn, 1) := by decide +kernel
theorem dL_law_632 : decode cL_law 632 = .ok (.aload_n 1, 1) := by decide +kernel
theorem dL_law_633 : decode cL_law 633 = .ok (.aload_n 0, 1) := by decide +kernel
theorem dL_law_634 : decode cL_law 634 = .ok (.iload_n 3, 1) := by decide +kernel
theorem dL_law_635 : decode cL_law 635 = .ok (.iconst 1, 1) := by decide +kernel
theorem dL_law_636 : decode cL_law 636 = .ok (.iadd, 1) := by decide +kernel
theorem dL_law_637 : decode cL_law 637 = .ok (.iaload, 1) := by decide +kernel
theorem dL_law_638 : decode cL_law 638 = .ok (.aload_n 0, 1) := by decide +kernel
theorem dL_law_639 : decode cL_law 639 = .ok (.iload_n 3, 1) := by decide +kernel
theorem dL_law_640 : decode cL_law 640 = .ok (.iconst 2, 1) := by decide +kernel
theorem dL_law_641 : decode cL_law 641 = .ok (.iadd, 1) := by decide +kernel
theorem dL_law_642 : decode cL_law 642 = .ok (.iaload, 1) := by decide +kernel
theorem dL_law_643 : decode cL_law 643 = .ok (.aload_n 0, 1) := by decide +kernel
theorem dL_law_644 : decode cL_law 644 = .ok (.iload_n 3, 1) := by decide +kernel
theorem dL_law_645 : decode cL_law 645 = .ok (.iconst 3, 1) := by decide +kernel
theorem dL_law_646 : decode cL_law 646 = .ok (.iadd, 1) := by decide +kernel
theorem dL_law_647 : decode cL_law 647 = .ok (.iaload, 1) := by decide +kernel
theorem dL_law_648 : decode cL_law 648 = .ok (.invokevirtual 98, 3) := by decide +kernel
theorem dL_law_651 : decode cL_law 651 = .ok (.aload_n 2, 1) := by decide +kernel
theorem dL_law_652 : decode cL_law 652 = .ok (.aload_n 0, 1) := by decide +kernel
theorem dL_law_653 : decode cL_law 653 = .ok (.iload_n 3, 1) := by decide +kernel
theorem dL_law_654 : decode cL_law 654 = .ok (.iconst 1, 1) := by decide +kernel
theorem dL_law_655 : decode cL_law 655 = .ok (.iadd, 1) := by decide +kernel
theorem dL_law_656 : decode cL_law 656 = .ok (.iaload, 1) := by decide +kernel
theorem dL_law_657 : decode cL_law 657 = .ok (.aload_n 0, 1) := by decide +kernel
theorem dL_law_658 : decode cL_law 658 = .ok (.iload_n 3, 1) := by decide +kernel
theorem dL_law_659 : decode cL_law 659 = .ok (.iconst 2, 1) := by decide +kernel
theorem dL_law_660 : decode cL_law 660 = .ok (.iadd, 1) := by decide +kernel
theorem dL_law_661 : decode cL_law 661 = .ok (.iaload, 1) := by decide +kernel
theorem dL_law_662 : decode cL_law 662 = .ok (.aload_n 0, 1) := by decide +kernel
theorem dL_law_663 : decode cL_law 663 = .ok (.iload_n 3, 1) := by decide +kernel
theorem dL_law_664 : decode cL_law 664 = .ok (.iconst 3, 1) := by decide +kernel
theorem dL_law_665 : decode cL_law 665 = .ok (.iadd, 1) := by decide +kernel
theorem dL_law_666 : decode cL_law 666 = .ok (.iaload, 1) := by decide +kernel
theorem dL_law_667 : decode cL_law 667 = .ok (.invokevirtual 101, 3) := by decide +kernel
theorem dL_law_670 : decode cL_law 670 = .ok (.if_icmp .eq 190, 3) := by decide +kernel
theorem dL_law_673 : decode cL_law 673 = .ok (.iconst 0, 1) := by decide +kernel
theorem dL_law_674 : decode cL_law 674 = .ok (.ireturn, 1) := by decide +kernel
theorem dL_law_675 : decode cL_law 675 = .ok (.aload_n 1, 1) := by decide +kernel
theorem dL_law_676 : decode cL_law 676 = .ok (.aload_n 0, 1) := by decide +kernel
theorem dL_law_677 : decode cL_law 677 = .ok (.iload_n 3, 1) := by decide +kernel
theorem dL_law_678 : decode cL_law 678 = .ok (.iconst 1, 1) := by decide +kernel
theorem dL_law_679 : decode cL_law 679 = .ok (.iadd, 1) := by decide +kernel
theorem dL_law_680 : decode cL_law 680 = .ok (.iaload, 1) := by decide +kernel
theorem dL_law_681 : decode cL_law 681 = .ok (.aload_n 0, 1) := by decide +kernel
theorem dL_law_682 : decode cL_law 682 = .ok (.iload_n 3, 1) := by decide +kernel
theorem dL_law_683 : decode cL_law 683 = .ok (.iconst 2, 1) := by decide +kernel
theorem dL_law_684 : decode cL_law 684 = .ok (.iadd, 1) := by decide +kernel
theorem dL_law_685 : decode cL_law 685 = .ok (.iaload, 1) := by decide +kernel
theorem dL_law_686 : decode cL_law 686 = .ok (.aload_n 0, 1) := by decide +kernel
theorem dL_law_687 : decode cL_law 687 = .ok (.iload_n 3, 1) := by decide +kernel
theorem dL_law_688 : decode cL_law 688 = .ok (.iconst 3, 1) := by decide +kernel
theorem dL_law_689 : decode cL_law 689 = .ok (.iadd, 1) := by decide +kernel
theorem dL_law_690 : decode cL_law 690 = .ok (.iaload, 1) := by decide +kernel
theorem dL_law_691 : decode cL_law 691 = .ok (.aload_n 0, 1) := by decide +kernel
theorem dL_law_692 : decode cL_law 692 = .ok (.iload_n 3, 1) := by decide +kernel
theorem dL_law_693 : decode cL_law 693 = .ok (.iconst 4, 1) := by decide +kernel
theorem dL_law_694 : decode cL_law 694 = .ok (.iadd, 1) := by decide +kernel
theorem dL_law_695 : decode cL_law 695 = .ok (.iaload, 1) := by decide +kernel
theorem dL_law_696 : decode cL_law 696 = .ok (.invokevirtual 102, 3) := by decide +kernel
theorem dL_law_699 : decode cL_law 699 = .ok (.aload_n 2, 1) := by decide +kernel
theorem dL_law_700 : decode cL_law 700 = .ok (.aload_n 0, 1) := by decide +kernel
theorem dL_law_701 : decode cL_law 701 = .ok (.iload_n 3, 1) := by decide +kernel
theorem dL_law_702 : decode cL_law 702 = .ok (.iconst 1, 1) := by decide +kernel
theorem dL_law_703 : decode cL_law 703 = .ok (.iadd, 1) := by decide +kernel
theorem dL_law_704 : decode cL_law 704 = .ok (.iaload, 1) := by decide +kernel
theorem dL_law_705 : decode cL_law 705 = .ok (.aload_n 0, 1) := by decide +kernel
theorem dL_law_706 : decode cL_law 706 = .ok (.iload_n 3, 1) := by decide +kernel
theorem dL_law_707 : decode cL_law 707 = .ok (.iconst 2, 1) := by decide +kernel
theorem dL_law_708 : decode cL_law 708 = .ok (.iadd, 1) := by decide +kernel
theorem dL_law_709 : decode cL_law 709 = .ok (.iaload, 1) := by decide +kernel
theorem dL_law_710 : decode cL_law 710 = .ok (.aload_n 0, 1) := by decide +kernel
theorem dL_law_711 : decode cL_law 711 = .ok (.iload_n 3, 1) := by decide +kernel
theorem dL_law_712 : decode cL_law 712 = .ok (.iconst 3, 1) := by decide +kernel
theorem dL_law_713 : decode cL_law 713 = .ok (.iadd, 1) := by decide +kernel
theorem dL_law_714 : decode cL_law 714 = .ok (.iaload, 1) := by decide +kernel
theorem dL_law_715 : decode cL_law 715 = .ok (.aload_n 0, 1) := by decide +kernel
theorem dL_law_716 : decode cL_law 716 = .ok (.iload_n 3, 1) := by decide +kernel
theorem dL_law_717 : decode cL_law 717 = .ok (.iconst 4, 1) := by decide +kernel
theorem dL_law_718 : decode cL_law 718 = .ok (.iadd, 1) := by decide +kernel
theorem dL_law_719 : decode cL_law 719 = .ok (.iaload, 1) := by decide +kernel
theorem dL_law_720 : decode cL_law 720 = .ok (.invokevirtual 106, 3) := by decide +kernel
theorem dL_law_723 : decode cL_law 723 = .ok (.if_icmp .eq 137, 3) := by decide +kernel
theorem dL_law_726 : decode cL_law 726 = .ok (.iconst 0, 1) := by decide +kernel
theorem dL_law_727 : decode cL_law 727 = .ok (.ireturn, 1) := by decide +kernel
theorem dL_law_728 : decode cL_law 728 = .ok (.aload_n 1, 1) := by decide +kernel
theorem dL_law_729 : decode cL_law 729 = .ok (.aload_n 0, 1) := by decide +kernel
theorem dL_law_730 : decode cL_law 730 = .ok (.iload_n 3, 1) := by decide +kernel
theorem dL_law_731 : decode cL_law 731 = .ok (.iconst 1, 1) := by decide +kernel
theorem dL_law_732 : decode cL_law 732 = .ok (.iadd, 1) := by decide +kernel
theorem dL_law_733 : decode cL_law 733 = .ok (.iaload, 1) := by decide +kernel
theorem dL_law_734 : decode cL_law 734 = .ok (.aload_n 0, 1) := by decide +kernel
theorem dL_law_735 : decode cL_law 735 = .ok (.iload_n 3, 1) := by decide +kernel
theorem dL_law_736 : decode cL_law 736 = .ok (.iconst 2, 1) := by decide +kernel
theorem dL_law_737 : decode cL_law 737 = .ok (.iadd, 1) := by decide +kernel
theorem dL_law_738 : decode cL_law 738 = .ok (.iaload, 1) := by decide +kernel
theorem dL_law_739 : decode cL_law 739 = .ok (.aload_n 0, 1) := by decide +kernel
theorem dL_law_740 : decode cL_law 740 = .ok (.iload_n 3, 1) := by decide +kernel
theorem dL_law_741 : decode cL_law 741 = .ok (.iconst 3, 1) := by decide +kernel
theorem dL_law_742 : decode cL_law 742 = .ok (.iadd, 1) := by decide +kernel
theorem dL_law_743 : decode cL_law 743 = .ok (.iaload, 1) := by decide +kernel
theorem dL_law_744 : decode cL_law 744 = .ok (.aload_n 0, 1) := by decide +kernel
theorem dL_law_745 : decode cL_law 745 = .ok (.iload_n 3, 1) := by decide +kernel
theorem dL_law_746 : decode cL_law 746 = .ok (.iconst 4, 1) := by decide +kernel
theorem dL_law_747 : decode cL_law 747 = .ok (.iadd, 1) := by decide +kernel
theorem dL_law_748 : decode cL_law 748 = .ok (.iaload, 1) := by decide +kernel
theorem dL_law_749 : decode cL_law 749 = .ok (.invokevirtual 107, 3) := by decide +kernel
theorem dL_law_752 : decode cL_law 752 = .ok (.aload_n 2, 1) := by decide +kernel
theorem dL_law_753 : decode cL_law 753 = .ok (.aload_n 0, 1) := by decide +kernel
theorem dL_law_754 : decode cL_law 754 = .ok (.iload_n 3, 1) := by decide +kernel
theorem dL_law_755 : decode cL_law 755 = .ok (.iconst 1, 1) := by decide +kernel
theorem dL_law_756 : decode cL_law 756 = .ok (.iadd, 1) := by decide +kernel
theorem dL_law_757 : decode cL_law 757 = .ok (.iaload, 1) := by decide +kernel
theorem dL_law_758 : decode cL_law 758 = .ok (.aload_n 0, 1) := by decide +kernel
theorem dL_law_759 : decode cL_law 759 = .ok (.iload_n 3, 1) := by decide +kernel
theorem dL_law_760 : decode cL_law 760 = .ok (.iconst 2, 1) := by decide +kernel
theorem dL_law_761 : decode cL_law 761 = .ok (.iadd, 1) := by decide +kernel
theorem dL_law_762 : decode cL_law 762 = .ok (.iaload, 1) := by decide +kernel
theorem dL_law_763 : decode cL_law 763 = .ok (.aload_n 0, 1) := by decide +kernel
theorem dL_law_764 : decode cL_law 764 = .ok (.iload_n 3, 1) := by decide +kernel
theorem dL_law_765 : decode cL_law 765 = .ok (.iconst 3, 1) := by decide +kernel
theorem dL_law_766 : decode cL_law 766 = .ok (.iadd, 1) := by decide +kernel
theorem dL_law_767 : decode cL_law 767 = .ok (.iaload, 1) := by decide +kernel
theorem dL_law_768 : decode cL_law 768 = .ok (.aload_n 0, 1) := by decide +kernel
theorem dL_law_769 : decode cL_law 769 = .ok (.iload_n 3, 1) := by decide +kernel
theorem dL_law_770 : decode cL_law 770 = .ok (.iconst 4, 1) := by decide +kernel
theorem dL_law_771 : decode cL_law 771 = .ok (.iadd, 1) := by decide +kernel
theorem dL_law_772 : decode cL_law 772 = .ok (.iaload, 1) := by decide +kernel
theorem dL_law_773 : decode cL_law 773 = .ok (.invokevirtual 110, 3) := by decide +kernel
theorem dL_law_776 : decode cL_law 776 = .ok (.if_icmp .eq 84, 3) := by decide +kernel
theorem dL_law_779 : decode cL_law 779 = .ok (.iconst 0, 1) := by decide +kernel
theorem dL_law_780 : decode cL_law 780 = .ok (.ireturn, 1) := by decide +kernel
theorem dL_law_781 : decode cL_law 781 = .ok (.aload_n 1, 1) := by decide +kernel
theorem dL_law_782 : decode cL_law 782 = .ok (.aload_n 0, 1) := by decide +kernel
theorem dL_law_783 : decode cL_law 783 = .ok (.iload_n 3, 1) := by decide +kernel
theorem dL_law_784 : decode cL_law 784 = .ok (.iconst 1, 1) := by decide +kernel
theorem dL_law_785 : decode cL_law 785 = .ok (.iadd, 1) := by decide +kernel
theorem dL_law_786 : decode cL_law 786 = .ok (.iaload, 1) := by decide +kernel
theorem dL_law_787 : decode cL_law 787 = .ok (.aload_n 0, 1) := by decide +kernel
theorem dL_law_788 : decode cL_law 788 = .ok (.iload_n 3, 1) := by decide +kernel
theorem dL_law_789 : decode cL_law 789 = .ok (.iconst 2, 1) := by decide +kernel
theorem dL_law_790 : decode cL_law 790 = .ok (.iadd, 1) := by decide +kernel
theorem dL_law_791 : decode cL_law 791 = .ok (.iaload, 1) := by decide +kernel
theorem dL_law_792 : decode cL_law 792 = .ok (.invokevirtual 111, 3) := by decide +kernel
theorem dL_law_795 : decode cL_law 795 = .ok (.aload_n 2, 1) := by decide +kernel
theorem dL_law_796 : decode cL_law 796 = .ok (.aload_n 0, 1) := by decide +kernel
theorem dL_law_797 : decode cL_law 797 = .ok (.iload_n 3, 1) := by decide +kernel
theorem dL_law_798 : decode cL_law 798 = .ok (.iconst 1, 1) := by decide +kernel
theorem dL_law_799 : decode cL_law 799 = .ok (.iadd, 1) := by decide +kernel
theorem dL_law_800 : decode cL_law 800 = .ok (.iaload, 1) := by decide +kernel
theorem dL_law_801 : decode cL_law 801 = .ok (.aload_n 0, 1) := by decide +kernel
theorem dL_law_802 : decode cL_law 802 = .ok (.iload_n 3, 1) := by decide +kernel
theorem dL_law_803 : decode cL_law 803 = .ok (.iconst 2, 1) := by decide +kernel
theorem dL_law_804 : decode cL_law 804 = .ok (.iadd, 1) := by decide +kernel
theorem dL_law_805 : decode cL_law 805 = .ok (.iaload, 1) := by decide +kernel
theorem dL_law_806 : decode cL_law 806 = .ok (.invokevirtual 114, 3) := by decide +kernel
theorem dL_law_809 : decode cL_law 809 = .ok (.if_icmp .eq 51, 3) := by decide +kernel
theorem dL_law_812 : decode cL_law 812 = .ok (.iconst 0, 1) := by decide +kernel
theorem dL_law_813 : decode cL_law 813 = .ok (.ireturn, 1) := by decide +kernel
theorem dL_law_814 : decode cL_law 814 = .ok (.aload_n 1, 1) := by decide +kernel
theorem dL_law_815 : decode cL_law 815 = .ok (.aload_n 0, 1) := by decide +kernel
theorem dL_law_816 : decode cL_law 816 = .ok (.iload_n 3, 1) := by decide +kernel
theorem dL_law_817 : decode cL_law 817 = .ok (.iconst 1, 1) := by decide +kernel
theorem dL_law_818 : decode cL_law 818 = .ok (.iadd, 1) := by decide +kernel
theorem dL_law_819 : decode cL_law 819 = .ok (.iaload, 1) := by decide +kernel
theorem dL_law_820 : decode cL_law 820 = .ok (.invokevirtual 115, 3) := by decide +kernel
theorem dL_law_823 : decode cL_law 823 = .ok (.aload_n 2, 1) := by decide +kernel
theorem dL_law_824 : decode cL_law 824 = .ok (.aload_n 0, 1) := by decide +kernel
theorem dL_law_825 : decode cL_law 825 = .ok (.iload_n 3, 1) := by decide +kernel
theorem dL_law_826 : decode cL_law 826 = .ok (.iconst 1, 1) := by decide +kernel
theorem dL_law_827 : decode cL_law 827 = .ok (.iadd, 1) := by decide +kernel
theorem dL_law_828 : decode cL_law 828 = .ok (.iaload, 1) := by decide +kernel
theorem dL_law_829 : decode cL_law 829 = .ok (.invokevirtual 118, 3) := by decide +kernel
theorem dL_law_832 : decode cL_law 832 = .ok (.if_icmp .eq 28, 3) := by decide +kernel
theorem dL_law_835 : decode cL_law 835 = .ok (.iconst 0, 1) := by decide +kernel
theorem dL_law_836 : decode cL_law 836 = .ok (.ireturn, 1) := by decide +kernel
theorem dL_law_837 : decode cL_law 837 = .ok (.aload_n 1, 1) := by decide +kernel
theorem dL_law_838 : decode cL_law 838 = .ok (.aload_n 0, 1) := by decide +kernel
theorem dL_law_839 : decode cL_law 839 = .ok (.iload_n 3, 1) := by decide +kernel
theorem dL_law_840 : decode cL_law 840 = .ok (.iconst 1, 1) := by decide +kernel
theorem dL_law_841 : decode cL_law 841 = .ok (.iadd, 1) := by decide +kernel
theorem dL_law_842 : decode cL_law 842 = .ok (.iaload, 1) := by decide +kernel
theorem dL_law_843 : decode cL_law 843 = .ok (.invokevirtual 119, 3) := by decide +kernel
theorem dL_law_846 : decode cL_law 846 = .ok (.aload_n 2, 1) := by decide +kernel
theorem dL_law_847 : decode cL_law 847 = .ok (.aload_n 0, 1) := by decide +kernel
theorem dL_law_848 : decode cL_law 848 = .ok (.iload_n 3, 1) := by decide +kernel
theorem dL_law_849 : decode cL_law 849 = .ok (.iconst 1, 1) := by decide +kernel
theorem dL_law_850 : decode cL_law 850 = .ok (.iadd, 1) := by decide +kernel
theorem dL_law_851 : decode cL_law 851 = .ok (.iaload, 1) := by decide +kernel
theorem dL_law_852 : decode cL_law 852 = .ok (.invokevirtual 122, 3) := by decide +kernel
theorem dL_law_855 : decode cL_law 855 = .ok (.if_icmp .eq 5, 3) := by decide +kernel
theorem dL_law_858 : decode cL_law 858 = .ok (.iconst 0, 1) := by decide +kernel
theorem dL_law_859 : decode cL_law 859 = .ok (.ireturn, 1) := by decide +kernel
theorem dL_law_860 : decode cL_law 860 = .ok (.iinc 3 6, 3) := by decide +kernel
theorem dL_law_863 : decode cL_law 863 = .ok (.goto (-845), 3) := by decide +kernel
theorem dL_law_866 : decode cL_law 866 = .ok (.iconst 1, 1) := by decide +kernel
theorem dL_law_867 : decode cL_law 867 = .ok (.ireturn, 1) := by decide +kernel
