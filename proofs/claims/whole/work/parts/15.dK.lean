section DC
theorem d_K_init_0 : decode c_K_init 0 = .ok (.aload_n 0, 1) := by decide +kernel
theorem d_K_init_1 : decode c_K_init 1 = .ok (.invokespecial 3, 3) := by decide +kernel
theorem d_K_init_4 : decode c_K_init 4 = .ok (.aload_n 0, 1) := by decide +kernel
theorem d_K_init_5 : decode c_K_init 5 = .ok (.iconst 0, 1) := by decide +kernel
theorem d_K_init_6 : decode c_K_init 6 = .ok (.putfield 9, 3) := by decide +kernel
theorem d_K_init_9 : decode c_K_init 9 = .ok (.aload_n 0, 1) := by decide +kernel
theorem d_K_init_10 : decode c_K_init 10 = .ok (.lconst 0, 1) := by decide +kernel
theorem d_K_init_11 : decode c_K_init 11 = .ok (.putfield 15, 3) := by decide +kernel
theorem d_K_init_14 : decode c_K_init 14 = .ok (.aload_n 0, 1) := by decide +kernel
theorem d_K_init_15 : decode c_K_init 15 = .ok (.lconst 0, 1) := by decide +kernel
theorem d_K_init_16 : decode c_K_init 16 = .ok (.putfield 19, 3) := by decide +kernel
theorem d_K_init_19 : decode c_K_init 19 = .ok (.aload_n 0, 1) := by decide +kernel
theorem d_K_init_20 : decode c_K_init 20 = .ok (.new 22, 3) := by decide +kernel
theorem d_K_init_23 : decode c_K_init 23 = .ok (.dup, 1) := by decide +kernel
theorem d_K_init_24 : decode c_K_init 24 = .ok (.bipush 8, 2) := by decide +kernel
theorem d_K_init_26 : decode c_K_init 26 = .ok (.bipush 8, 2) := by decide +kernel
theorem d_K_init_28 : decode c_K_init 28 = .ok (.invokespecial 24, 3) := by decide +kernel
theorem d_K_init_31 : decode c_K_init 31 = .ok (.putfield 27, 3) := by decide +kernel
theorem d_K_init_34 : decode c_K_init 34 = .ok (.aload_n 0, 1) := by decide +kernel
theorem d_K_init_35 : decode c_K_init 35 = .ok (.new 22, 3) := by decide +kernel
theorem d_K_init_38 : decode c_K_init 38 = .ok (.dup, 1) := by decide +kernel
theorem d_K_init_39 : decode c_K_init 39 = .ok (.bipush 8, 2) := by decide +kernel
theorem d_K_init_41 : decode c_K_init 41 = .ok (.iconst 4, 1) := by decide +kernel
theorem d_K_init_42 : decode c_K_init 42 = .ok (.invokespecial 24, 3) := by decide +kernel
theorem d_K_init_45 : decode c_K_init 45 = .ok (.putfield 31, 3) := by decide +kernel
theorem d_K_init_48 : decode c_K_init 48 = .ok (.aload_n 0, 1) := by decide +kernel
theorem d_K_init_49 : decode c_K_init 49 = .ok (.new 22, 3) := by decide +kernel
theorem d_K_init_52 : decode c_K_init 52 = .ok (.dup, 1) := by decide +kernel
theorem d_K_init_53 : decode c_K_init 53 = .ok (.bipush 8, 2) := by decide +kernel
theorem d_K_init_55 : decode c_K_init 55 = .ok (.iconst 4, 1) := by decide +kernel
theorem d_K_init_56 : decode c_K_init 56 = .ok (.invokespecial 24, 3) := by decide +kernel
theorem d_K_init_59 : decode c_K_init 59 = .ok (.putfield 34, 3) := by decide +kernel
theorem d_K_init_62 : decode c_K_init 62 = .ok (.aload_n 0, 1) := by decide +kernel
theorem d_K_init_63 : decode c_K_init 63 = .ok (.new 22, 3) := by decide +kernel
theorem d_K_init_66 : decode c_K_init 66 = .ok (.dup, 1) := by decide +kernel
theorem d_K_init_67 : decode c_K_init 67 = .ok (.bipush 8, 2) := by decide +kernel
theorem d_K_init_69 : decode c_K_init 69 = .ok (.iconst 4, 1) := by decide +kernel
theorem d_K_init_70 : decode c_K_init 70 = .ok (.invokespecial 24, 3) := by decide +kernel
theorem d_K_init_73 : decode c_K_init 73 = .ok (.putfield 37, 3) := by decide +kernel
theorem d_K_init_76 : decode c_K_init 76 = .ok (.aload_n 0, 1) := by decide +kernel
theorem d_K_init_77 : decode c_K_init 77 = .ok (.bipush 68, 2) := by decide +kernel
theorem d_K_init_79 : decode c_K_init 79 = .ok (.newarray .int, 2) := by decide +kernel
theorem d_K_init_81 : decode c_K_init 81 = .ok (.putfield 40, 3) := by decide +kernel
theorem d_K_init_84 : decode c_K_init 84 = .ok (.return_, 1) := by decide +kernel
theorem d_K_fillFrom_0 : decode c_K_fillFrom 0 = .ok (.aload_n 0, 1) := by decide +kernel
theorem d_K_fillFrom_1 : decode c_K_fillFrom 1 = .ok (.lload_n 1, 1) := by decide +kernel
theorem d_K_fillFrom_2 : decode c_K_fillFrom 2 = .ok (.putfield 15, 3) := by decide +kernel
theorem d_K_fillFrom_5 : decode c_K_fillFrom 5 = .ok (.aload 7, 2) := by decide +kernel
theorem d_K_fillFrom_7 : decode c_K_fillFrom 7 = .ok (.lload 5, 2) := by decide +kernel
theorem d_K_fillFrom_9 : decode c_K_fillFrom 9 = .ok (.invokevirtual 44, 3) := by decide +kernel
theorem d_K_fillFrom_12 : decode c_K_fillFrom 12 = .ok (.lstore 8, 2) := by decide +kernel
theorem d_K_fillFrom_14 : decode c_K_fillFrom 14 = .ok (.aload_n 0, 1) := by decide +kernel
theorem d_K_fillFrom_15 : decode c_K_fillFrom 15 = .ok (.lload 8, 2) := by decide +kernel
theorem d_K_fillFrom_17 : decode c_K_fillFrom 17 = .ok (.aload 7, 2) := by decide +kernel
theorem d_K_fillFrom_19 : decode c_K_fillFrom 19 = .ok (.invokevirtual 50, 3) := by decide +kernel
theorem d_K_fillFrom_22 : decode c_K_fillFrom 22 = .ok (.aload 7, 2) := by decide +kernel
theorem d_K_fillFrom_24 : decode c_K_fillFrom 24 = .ok (.bipush 95, 2) := by decide +kernel
theorem d_K_fillFrom_26 : decode c_K_fillFrom 26 = .ok (.lload_n 3, 1) := by decide +kernel
theorem d_K_fillFrom_27 : decode c_K_fillFrom 27 = .ok (.invokevirtual 54, 3) := by decide +kernel
theorem d_K_fillFrom_30 : decode c_K_fillFrom 30 = .ok (.aload_n 0, 1) := by decide +kernel
theorem d_K_fillFrom_31 : decode c_K_fillFrom 31 = .ok (.getfield 31, 3) := by decide +kernel
theorem d_K_fillFrom_34 : decode c_K_fillFrom 34 = .ok (.aload 7, 2) := by decide +kernel
theorem d_K_fillFrom_36 : decode c_K_fillFrom 36 = .ok (.iconst 0, 1) := by decide +kernel
theorem d_K_fillFrom_37 : decode c_K_fillFrom 37 = .ok (.invokevirtual 58, 3) := by decide +kernel
theorem d_K_fillFrom_40 : decode c_K_fillFrom 40 = .ok (.aload_n 0, 1) := by decide +kernel
theorem d_K_fillFrom_41 : decode c_K_fillFrom 41 = .ok (.getfield 34, 3) := by decide +kernel
theorem d_K_fillFrom_44 : decode c_K_fillFrom 44 = .ok (.aload 7, 2) := by decide +kernel
theorem d_K_fillFrom_46 : decode c_K_fillFrom 46 = .ok (.bipush 32, 2) := by decide +kernel
theorem d_K_fillFrom_48 : decode c_K_fillFrom 48 = .ok (.invokevirtual 58, 3) := by decide +kernel
theorem d_K_fillFrom_51 : decode c_K_fillFrom 51 = .ok (.aload_n 0, 1) := by decide +kernel
theorem d_K_fillFrom_52 : decode c_K_fillFrom 52 = .ok (.getfield 37, 3) := by decide +kernel
theorem d_K_fillFrom_55 : decode c_K_fillFrom 55 = .ok (.aload_n 0, 1) := by decide +kernel
theorem d_K_fillFrom_56 : decode c_K_fillFrom 56 = .ok (.getfield 34, 3) := by decide +kernel
theorem d_K_fillFrom_59 : decode c_K_fillFrom 59 = .ok (.iconst 1, 1) := by decide +kernel
theorem d_K_fillFrom_60 : decode c_K_fillFrom 60 = .ok (.aload_n 0, 1) := by decide +kernel
theorem d_K_fillFrom_61 : decode c_K_fillFrom 61 = .ok (.getfield 27, 3) := by decide +kernel
theorem d_K_fillFrom_64 : decode c_K_fillFrom 64 = .ok (.aload_n 0, 1) := by decide +kernel
theorem d_K_fillFrom_65 : decode c_K_fillFrom 65 = .ok (.getfield 31, 3) := by decide +kernel
theorem d_K_fillFrom_68 : decode c_K_fillFrom 68 = .ok (.invokevirtual 62, 3) := by decide +kernel
theorem d_K_fillFrom_71 : decode c_K_fillFrom 71 = .ok (.iconst 0, 1) := by decide +kernel
theorem d_K_fillFrom_72 : decode c_K_fillFrom 72 = .ok (.istore 10, 2) := by decide +kernel
theorem d_K_fillFrom_74 : decode c_K_fillFrom 74 = .ok (.iload 10, 2) := by decide +kernel
theorem d_K_fillFrom_76 : decode c_K_fillFrom 76 = .ok (.bipush 8, 2) := by decide +kernel
theorem d_K_fillFrom_78 : decode c_K_fillFrom 78 = .ok (.if_icmp .ge 29, 3) := by decide +kernel
theorem d_K_fillFrom_81 : decode c_K_fillFrom 81 = .ok (.aload_n 0, 1) := by decide +kernel
theorem d_K_fillFrom_82 : decode c_K_fillFrom 82 = .ok (.getfield 40, 3) := by decide +kernel
theorem d_K_fillFrom_85 : decode c_K_fillFrom 85 = .ok (.iload 10, 2) := by decide +kernel
theorem d_K_fillFrom_87 : decode c_K_fillFrom 87 = .ok (.lload 8, 2) := by decide +kernel
theorem d_K_fillFrom_89 : decode c_K_fillFrom 89 = .ok (.bipush 8, 2) := by decide +kernel
theorem d_K_fillFrom_91 : decode c_K_fillFrom 91 = .ok (.iload 10, 2) := by decide +kernel
theorem d_K_fillFrom_93 : decode c_K_fillFrom 93 = .ok (.imul, 1) := by decide +kernel
theorem d_K_fillFrom_94 : decode c_K_fillFrom 94 = .ok (.lushr, 1) := by decide +kernel
theorem d_K_fillFrom_95 : decode c_K_fillFrom 95 = .ok (.l2i, 1) := by decide +kernel
theorem d_K_fillFrom_96 : decode c_K_fillFrom 96 = .ok (.sipush 255, 3) := by decide +kernel
theorem d_K_fillFrom_99 : decode c_K_fillFrom 99 = .ok (.iand, 1) := by decide +kernel
theorem d_K_fillFrom_100 : decode c_K_fillFrom 100 = .ok (.iastore, 1) := by decide +kernel
theorem d_K_fillFrom_101 : decode c_K_fillFrom 101 = .ok (.iinc 10 1, 3) := by decide +kernel
theorem d_K_fillFrom_104 : decode c_K_fillFrom 104 = .ok (.goto (-30), 3) := by decide +kernel
theorem d_K_fillFrom_107 : decode c_K_fillFrom 107 = .ok (.aload_n 0, 1) := by decide +kernel
theorem d_K_fillFrom_108 : decode c_K_fillFrom 108 = .ok (.getfield 37, 3) := by decide +kernel
theorem d_K_fillFrom_111 : decode c_K_fillFrom 111 = .ok (.aload_n 0, 1) := by decide +kernel
theorem d_K_fillFrom_112 : decode c_K_fillFrom 112 = .ok (.getfield 40, 3) := by decide +kernel
theorem d_K_fillFrom_115 : decode c_K_fillFrom 115 = .ok (.bipush 8, 2) := by decide +kernel
theorem d_K_fillFrom_117 : decode c_K_fillFrom 117 = .ok (.invokevirtual 66, 3) := by decide +kernel
theorem d_K_fillFrom_120 : decode c_K_fillFrom 120 = .ok (.aload 7, 2) := by decide +kernel
theorem d_K_fillFrom_122 : decode c_K_fillFrom 122 = .ok (.invokevirtual 70, 3) := by decide +kernel
theorem d_K_fillFrom_125 : decode c_K_fillFrom 125 = .ok (.aload 7, 2) := by decide +kernel
theorem d_K_fillFrom_127 : decode c_K_fillFrom 127 = .ok (.aload_n 0, 1) := by decide +kernel
theorem d_K_fillFrom_128 : decode c_K_fillFrom 128 = .ok (.getfield 40, 3) := by decide +kernel
theorem d_K_fillFrom_131 : decode c_K_fillFrom 131 = .ok (.invokevirtual 73, 3) := by decide +kernel
theorem d_K_fillFrom_134 : decode c_K_fillFrom 134 = .ok (.aload 7, 2) := by decide +kernel
theorem d_K_fillFrom_136 : decode c_K_fillFrom 136 = .ok (.invokevirtual 77, 3) := by decide +kernel
theorem d_K_fillFrom_139 : decode c_K_fillFrom 139 = .ok (.aload_n 0, 1) := by decide +kernel
theorem d_K_fillFrom_140 : decode c_K_fillFrom 140 = .ok (.aload 7, 2) := by decide +kernel
theorem d_K_fillFrom_142 : decode c_K_fillFrom 142 = .ok (.iconst 0, 1) := by decide +kernel
theorem d_K_fillFrom_143 : decode c_K_fillFrom 143 = .ok (.invokevirtual 80, 3) := by decide +kernel
theorem d_K_fillFrom_146 : decode c_K_fillFrom 146 = .ok (.putfield 19, 3) := by decide +kernel
theorem d_K_fillFrom_149 : decode c_K_fillFrom 149 = .ok (.aload_n 0, 1) := by decide +kernel
theorem d_K_fillFrom_150 : decode c_K_fillFrom 150 = .ok (.iconst 1, 1) := by decide +kernel
theorem d_K_fillFrom_151 : decode c_K_fillFrom 151 = .ok (.putfield 9, 3) := by decide +kernel
theorem d_K_fillFrom_154 : decode c_K_fillFrom 154 = .ok (.return_, 1) := by decide +kernel
theorem d_K_fillA_0 : decode c_K_fillA 0 = .ok (.iconst 0, 1) := by decide +kernel
theorem d_K_fillA_1 : decode c_K_fillA 1 = .ok (.istore 4, 2) := by decide +kernel
theorem d_K_fillA_3 : decode c_K_fillA 3 = .ok (.iload 4, 2) := by decide +kernel
theorem d_K_fillA_5 : decode c_K_fillA 5 = .ok (.bipush 8, 2) := by decide +kernel
theorem d_K_fillA_7 : decode c_K_fillA 7 = .ok (.if_icmp .ge 68, 3) := by decide +kernel
theorem d_K_fillA_10 : decode c_K_fillA 10 = .ok (.aload_n 3, 1) := by decide +kernel
theorem d_K_fillA_11 : decode c_K_fillA 11 = .ok (.invokevirtual 70, 3) := by decide +kernel
theorem d_K_fillA_14 : decode c_K_fillA 14 = .ok (.aload_n 3, 1) := by decide +kernel
theorem d_K_fillA_15 : decode c_K_fillA 15 = .ok (.iload 4, 2) := by decide +kernel
theorem d_K_fillA_17 : decode c_K_fillA 17 = .ok (.invokevirtual 84, 3) := by decide +kernel
theorem d_K_fillA_20 : decode c_K_fillA 20 = .ok (.aload_n 3, 1) := by decide +kernel
theorem d_K_fillA_21 : decode c_K_fillA 21 = .ok (.iconst 0, 1) := by decide +kernel
theorem d_K_fillA_22 : decode c_K_fillA 22 = .ok (.invokevirtual 84, 3) := by decide +kernel
theorem d_K_fillA_25 : decode c_K_fillA 25 = .ok (.aload_n 3, 1) := by decide +kernel
theorem d_K_fillA_26 : decode c_K_fillA 26 = .ok (.lload_n 1, 1) := by decide +kernel
theorem d_K_fillA_27 : decode c_K_fillA 27 = .ok (.bipush 8, 2) := by decide +kernel
theorem d_K_fillA_29 : decode c_K_fillA 29 = .ok (.invokevirtual 88, 3) := by decide +kernel
theorem d_K_fillA_32 : decode c_K_fillA 32 = .ok (.aload_n 3, 1) := by decide +kernel
theorem d_K_fillA_33 : decode c_K_fillA 33 = .ok (.invokevirtual 77, 3) := by decide +kernel
theorem d_K_fillA_36 : decode c_K_fillA 36 = .ok (.iconst 0, 1) := by decide +kernel
theorem d_K_fillA_37 : decode c_K_fillA 37 = .ok (.istore 5, 2) := by decide +kernel
theorem d_K_fillA_39 : decode c_K_fillA 39 = .ok (.iload 5, 2) := by decide +kernel
theorem d_K_fillA_41 : decode c_K_fillA 41 = .ok (.bipush 8, 2) := by decide +kernel
theorem d_K_fillA_43 : decode c_K_fillA 43 = .ok (.if_icmp .ge 26, 3) := by decide +kernel
theorem d_K_fillA_46 : decode c_K_fillA 46 = .ok (.aload_n 0, 1) := by decide +kernel
theorem d_K_fillA_47 : decode c_K_fillA 47 = .ok (.getfield 27, 3) := by decide +kernel
theorem d_K_fillA_50 : decode c_K_fillA 50 = .ok (.iload 4, 2) := by decide +kernel
theorem d_K_fillA_52 : decode c_K_fillA 52 = .ok (.iload 5, 2) := by decide +kernel
theorem d_K_fillA_54 : decode c_K_fillA 54 = .ok (.aload_n 3, 1) := by decide +kernel
theorem d_K_fillA_55 : decode c_K_fillA 55 = .ok (.iload 5, 2) := by decide +kernel
theorem d_K_fillA_57 : decode c_K_fillA 57 = .ok (.invokevirtual 92, 3) := by decide +kernel
theorem d_K_fillA_60 : decode c_K_fillA 60 = .ok (.invokevirtual 96, 3) := by decide +kernel
theorem d_K_fillA_63 : decode c_K_fillA 63 = .ok (.iinc 5 1, 3) := by decide +kernel
theorem d_K_fillA_66 : decode c_K_fillA 66 = .ok (.goto (-27), 3) := by decide +kernel
theorem d_K_fillA_69 : decode c_K_fillA 69 = .ok (.iinc 4 1, 3) := by decide +kernel
theorem d_K_fillA_72 : decode c_K_fillA 72 = .ok (.goto (-69), 3) := by decide +kernel
theorem d_K_fillA_75 : decode c_K_fillA 75 = .ok (.return_, 1) := by decide +kernel
theorem d_K_matrix_0 : decode c_K_matrix 0 = .ok (.iload_n 1, 1) := by decide +kernel
theorem d_K_matrix_1 : decode c_K_matrix 1 = .ok (.tableswitch 42 0 2 #[27, 32, 37], 27) := by decide +kernel
theorem d_K_matrix_28 : decode c_K_matrix 28 = .ok (.aload_n 0, 1) := by decide +kernel
theorem d_K_matrix_29 : decode c_K_matrix 29 = .ok (.getfield 27, 3) := by decide +kernel
theorem d_K_matrix_32 : decode c_K_matrix 32 = .ok (.areturn, 1) := by decide +kernel
theorem d_K_matrix_33 : decode c_K_matrix 33 = .ok (.aload_n 0, 1) := by decide +kernel
theorem d_K_matrix_34 : decode c_K_matrix 34 = .ok (.getfield 31, 3) := by decide +kernel
theorem d_K_matrix_37 : decode c_K_matrix 37 = .ok (.areturn, 1) := by decide +kernel
theorem d_K_matrix_38 : decode c_K_matrix 38 = .ok (.aload_n 0, 1) := by decide +kernel
theorem d_K_matrix_39 : decode c_K_matrix 39 = .ok (.getfield 37, 3) := by decide +kernel
theorem d_K_matrix_42 : decode c_K_matrix 42 = .ok (.areturn, 1) := by decide +kernel
theorem d_K_matrix_43 : decode c_K_matrix 43 = .ok (.aload_n 0, 1) := by decide +kernel
theorem d_K_matrix_44 : decode c_K_matrix 44 = .ok (.getfield 34, 3) := by decide +kernel
theorem d_K_matrix_47 : decode c_K_matrix 47 = .ok (.areturn, 1) := by decide +kernel
end DC
