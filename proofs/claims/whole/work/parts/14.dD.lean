section DC
theorem d_D_init_0 : decode c_D_init 0 = .ok (.aload_n 0, 1) := by decide +kernel
theorem d_D_init_1 : decode c_D_init 1 = .ok (.invokespecial 3, 3) := by decide +kernel
theorem d_D_init_4 : decode c_D_init 4 = .ok (.aload_n 0, 1) := by decide +kernel
theorem d_D_init_5 : decode c_D_init 5 = .ok (.new 9, 3) := by decide +kernel
theorem d_D_init_8 : decode c_D_init 8 = .ok (.dup, 1) := by decide +kernel
theorem d_D_init_9 : decode c_D_init 9 = .ok (.invokespecial 11, 3) := by decide +kernel
theorem d_D_init_12 : decode c_D_init 12 = .ok (.putfield 12, 3) := by decide +kernel
theorem d_D_init_15 : decode c_D_init 15 = .ok (.aload_n 0, 1) := by decide +kernel
theorem d_D_init_16 : decode c_D_init 16 = .ok (.new 18, 3) := by decide +kernel
theorem d_D_init_19 : decode c_D_init 19 = .ok (.dup, 1) := by decide +kernel
theorem d_D_init_20 : decode c_D_init 20 = .ok (.iconst 4, 1) := by decide +kernel
theorem d_D_init_21 : decode c_D_init 21 = .ok (.bipush 8, 2) := by decide +kernel
theorem d_D_init_23 : decode c_D_init 23 = .ok (.invokespecial 20, 3) := by decide +kernel
theorem d_D_init_26 : decode c_D_init 26 = .ok (.putfield 23, 3) := by decide +kernel
theorem d_D_init_29 : decode c_D_init 29 = .ok (.aload_n 0, 1) := by decide +kernel
theorem d_D_init_30 : decode c_D_init 30 = .ok (.new 18, 3) := by decide +kernel
theorem d_D_init_33 : decode c_D_init 33 = .ok (.dup, 1) := by decide +kernel
theorem d_D_init_34 : decode c_D_init 34 = .ok (.iconst 4, 1) := by decide +kernel
theorem d_D_init_35 : decode c_D_init 35 = .ok (.bipush 8, 2) := by decide +kernel
theorem d_D_init_37 : decode c_D_init 37 = .ok (.invokespecial 20, 3) := by decide +kernel
theorem d_D_init_40 : decode c_D_init 40 = .ok (.putfield 27, 3) := by decide +kernel
theorem d_D_init_43 : decode c_D_init 43 = .ok (.aload_n 0, 1) := by decide +kernel
theorem d_D_init_44 : decode c_D_init 44 = .ok (.new 18, 3) := by decide +kernel
theorem d_D_init_47 : decode c_D_init 47 = .ok (.dup, 1) := by decide +kernel
theorem d_D_init_48 : decode c_D_init 48 = .ok (.iconst 4, 1) := by decide +kernel
theorem d_D_init_49 : decode c_D_init 49 = .ok (.iconst 4, 1) := by decide +kernel
theorem d_D_init_50 : decode c_D_init 50 = .ok (.invokespecial 20, 3) := by decide +kernel
theorem d_D_init_53 : decode c_D_init 53 = .ok (.putfield 30, 3) := by decide +kernel
theorem d_D_init_56 : decode c_D_init 56 = .ok (.aload_n 0, 1) := by decide +kernel
theorem d_D_init_57 : decode c_D_init 57 = .ok (.new 18, 3) := by decide +kernel
theorem d_D_init_60 : decode c_D_init 60 = .ok (.dup, 1) := by decide +kernel
theorem d_D_init_61 : decode c_D_init 61 = .ok (.iconst 4, 1) := by decide +kernel
theorem d_D_init_62 : decode c_D_init 62 = .ok (.bipush 8, 2) := by decide +kernel
theorem d_D_init_64 : decode c_D_init 64 = .ok (.invokespecial 20, 3) := by decide +kernel
theorem d_D_init_67 : decode c_D_init 67 = .ok (.putfield 33, 3) := by decide +kernel
theorem d_D_init_70 : decode c_D_init 70 = .ok (.aload_n 0, 1) := by decide +kernel
theorem d_D_init_71 : decode c_D_init 71 = .ok (.new 18, 3) := by decide +kernel
theorem d_D_init_74 : decode c_D_init 74 = .ok (.dup, 1) := by decide +kernel
theorem d_D_init_75 : decode c_D_init 75 = .ok (.iconst 4, 1) := by decide +kernel
theorem d_D_init_76 : decode c_D_init 76 = .ok (.iconst 4, 1) := by decide +kernel
theorem d_D_init_77 : decode c_D_init 77 = .ok (.invokespecial 20, 3) := by decide +kernel
theorem d_D_init_80 : decode c_D_init 80 = .ok (.putfield 36, 3) := by decide +kernel
theorem d_D_init_83 : decode c_D_init 83 = .ok (.aload_n 0, 1) := by decide +kernel
theorem d_D_init_84 : decode c_D_init 84 = .ok (.new 18, 3) := by decide +kernel
theorem d_D_init_87 : decode c_D_init 87 = .ok (.dup, 1) := by decide +kernel
theorem d_D_init_88 : decode c_D_init 88 = .ok (.iconst 4, 1) := by decide +kernel
theorem d_D_init_89 : decode c_D_init 89 = .ok (.iconst 4, 1) := by decide +kernel
theorem d_D_init_90 : decode c_D_init 90 = .ok (.invokespecial 20, 3) := by decide +kernel
theorem d_D_init_93 : decode c_D_init 93 = .ok (.putfield 39, 3) := by decide +kernel
theorem d_D_init_96 : decode c_D_init 96 = .ok (.aload_n 0, 1) := by decide +kernel
theorem d_D_init_97 : decode c_D_init 97 = .ok (.bipush 90, 2) := by decide +kernel
theorem d_D_init_99 : decode c_D_init 99 = .ok (.newarray .int, 2) := by decide +kernel
theorem d_D_init_101 : decode c_D_init 101 = .ok (.putfield 42, 3) := by decide +kernel
theorem d_D_init_104 : decode c_D_init 104 = .ok (.return_, 1) := by decide +kernel
theorem d_D_seal_0 : decode c_D_seal 0 = .ok (.aload_n 0, 1) := by decide +kernel
theorem d_D_seal_1 : decode c_D_seal 1 = .ok (.getfield 12, 3) := by decide +kernel
theorem d_D_seal_4 : decode c_D_seal 4 = .ok (.invokevirtual 46, 3) := by decide +kernel
theorem d_D_seal_7 : decode c_D_seal 7 = .ok (.aload_n 0, 1) := by decide +kernel
theorem d_D_seal_8 : decode c_D_seal 8 = .ok (.getfield 12, 3) := by decide +kernel
theorem d_D_seal_11 : decode c_D_seal 11 = .ok (.aload_n 2, 1) := by decide +kernel
theorem d_D_seal_12 : decode c_D_seal 12 = .ok (.getfield 49, 3) := by decide +kernel
theorem d_D_seal_15 : decode c_D_seal 15 = .ok (.bipush 8, 2) := by decide +kernel
theorem d_D_seal_17 : decode c_D_seal 17 = .ok (.invokevirtual 55, 3) := by decide +kernel
theorem d_D_seal_20 : decode c_D_seal 20 = .ok (.aload_n 0, 1) := by decide +kernel
theorem d_D_seal_21 : decode c_D_seal 21 = .ok (.getfield 12, 3) := by decide +kernel
theorem d_D_seal_24 : decode c_D_seal 24 = .ok (.iload_n 1, 1) := by decide +kernel
theorem d_D_seal_25 : decode c_D_seal 25 = .ok (.i2l, 1) := by decide +kernel
theorem d_D_seal_26 : decode c_D_seal 26 = .ok (.iconst 4, 1) := by decide +kernel
theorem d_D_seal_27 : decode c_D_seal 27 = .ok (.invokevirtual 55, 3) := by decide +kernel
theorem d_D_seal_30 : decode c_D_seal 30 = .ok (.aload_n 0, 1) := by decide +kernel
theorem d_D_seal_31 : decode c_D_seal 31 = .ok (.getfield 12, 3) := by decide +kernel
theorem d_D_seal_34 : decode c_D_seal 34 = .ok (.invokevirtual 59, 3) := by decide +kernel
theorem d_D_seal_37 : decode c_D_seal 37 = .ok (.aload_n 0, 1) := by decide +kernel
theorem d_D_seal_38 : decode c_D_seal 38 = .ok (.getfield 12, 3) := by decide +kernel
theorem d_D_seal_41 : decode c_D_seal 41 = .ok (.iconst 0, 1) := by decide +kernel
theorem d_D_seal_42 : decode c_D_seal 42 = .ok (.invokevirtual 62, 3) := by decide +kernel
theorem d_D_seal_45 : decode c_D_seal 45 = .ok (.lstore 4, 2) := by decide +kernel
theorem d_D_seal_47 : decode c_D_seal 47 = .ok (.aload_n 0, 1) := by decide +kernel
theorem d_D_seal_48 : decode c_D_seal 48 = .ok (.getfield 12, 3) := by decide +kernel
theorem d_D_seal_51 : decode c_D_seal 51 = .ok (.iconst 1, 1) := by decide +kernel
theorem d_D_seal_52 : decode c_D_seal 52 = .ok (.invokevirtual 62, 3) := by decide +kernel
theorem d_D_seal_55 : decode c_D_seal 55 = .ok (.lstore 6, 2) := by decide +kernel
theorem d_D_seal_57 : decode c_D_seal 57 = .ok (.aload_n 0, 1) := by decide +kernel
theorem d_D_seal_58 : decode c_D_seal 58 = .ok (.lload 4, 2) := by decide +kernel
theorem d_D_seal_60 : decode c_D_seal 60 = .ok (.invokevirtual 66, 3) := by decide +kernel
theorem d_D_seal_63 : decode c_D_seal 63 = .ok (.aload_n 0, 1) := by decide +kernel
theorem d_D_seal_64 : decode c_D_seal 64 = .ok (.getfield 33, 3) := by decide +kernel
theorem d_D_seal_67 : decode c_D_seal 67 = .ok (.aload_n 0, 1) := by decide +kernel
theorem d_D_seal_68 : decode c_D_seal 68 = .ok (.getfield 27, 3) := by decide +kernel
theorem d_D_seal_71 : decode c_D_seal 71 = .ok (.iconst 1, 1) := by decide +kernel
theorem d_D_seal_72 : decode c_D_seal 72 = .ok (.aload_n 0, 1) := by decide +kernel
theorem d_D_seal_73 : decode c_D_seal 73 = .ok (.getfield 23, 3) := by decide +kernel
theorem d_D_seal_76 : decode c_D_seal 76 = .ok (.aload_n 2, 1) := by decide +kernel
theorem d_D_seal_77 : decode c_D_seal 77 = .ok (.getfield 70, 3) := by decide +kernel
theorem d_D_seal_80 : decode c_D_seal 80 = .ok (.invokevirtual 73, 3) := by decide +kernel
theorem d_D_seal_83 : decode c_D_seal 83 = .ok (.aload_n 0, 1) := by decide +kernel
theorem d_D_seal_84 : decode c_D_seal 84 = .ok (.getfield 36, 3) := by decide +kernel
theorem d_D_seal_87 : decode c_D_seal 87 = .ok (.aload_n 0, 1) := by decide +kernel
theorem d_D_seal_88 : decode c_D_seal 88 = .ok (.getfield 30, 3) := by decide +kernel
theorem d_D_seal_91 : decode c_D_seal 91 = .ok (.iconst 1, 1) := by decide +kernel
theorem d_D_seal_92 : decode c_D_seal 92 = .ok (.aload_n 0, 1) := by decide +kernel
theorem d_D_seal_93 : decode c_D_seal 93 = .ok (.getfield 23, 3) := by decide +kernel
theorem d_D_seal_96 : decode c_D_seal 96 = .ok (.aload_n 2, 1) := by decide +kernel
theorem d_D_seal_97 : decode c_D_seal 97 = .ok (.getfield 77, 3) := by decide +kernel
theorem d_D_seal_100 : decode c_D_seal 100 = .ok (.invokevirtual 73, 3) := by decide +kernel
theorem d_D_seal_103 : decode c_D_seal 103 = .ok (.aload_n 0, 1) := by decide +kernel
theorem d_D_seal_104 : decode c_D_seal 104 = .ok (.iload_n 1, 1) := by decide +kernel
theorem d_D_seal_105 : decode c_D_seal 105 = .ok (.invokevirtual 80, 3) := by decide +kernel
theorem d_D_seal_108 : decode c_D_seal 108 = .ok (.aload_n 0, 1) := by decide +kernel
theorem d_D_seal_109 : decode c_D_seal 109 = .ok (.getfield 33, 3) := by decide +kernel
theorem d_D_seal_112 : decode c_D_seal 112 = .ok (.aload_n 3, 1) := by decide +kernel
theorem d_D_seal_113 : decode c_D_seal 113 = .ok (.iconst 0, 1) := by decide +kernel
theorem d_D_seal_114 : decode c_D_seal 114 = .ok (.invokevirtual 84, 3) := by decide +kernel
theorem d_D_seal_117 : decode c_D_seal 117 = .ok (.aload_n 0, 1) := by decide +kernel
theorem d_D_seal_118 : decode c_D_seal 118 = .ok (.getfield 36, 3) := by decide +kernel
theorem d_D_seal_121 : decode c_D_seal 121 = .ok (.aload_n 3, 1) := by decide +kernel
theorem d_D_seal_122 : decode c_D_seal 122 = .ok (.bipush 60, 2) := by decide +kernel
theorem d_D_seal_124 : decode c_D_seal 124 = .ok (.invokevirtual 84, 3) := by decide +kernel
theorem d_D_seal_127 : decode c_D_seal 127 = .ok (.aload_n 0, 1) := by decide +kernel
theorem d_D_seal_128 : decode c_D_seal 128 = .ok (.getfield 12, 3) := by decide +kernel
theorem d_D_seal_131 : decode c_D_seal 131 = .ok (.aload_n 3, 1) := by decide +kernel
theorem d_D_seal_132 : decode c_D_seal 132 = .ok (.lload 6, 2) := by decide +kernel
theorem d_D_seal_134 : decode c_D_seal 134 = .ok (.invokevirtual 88, 3) := by decide +kernel
theorem d_D_seal_137 : decode c_D_seal 137 = .ok (.lreturn, 1) := by decide +kernel
theorem d_D_takeNoise_0 : decode c_D_takeNoise 0 = .ok (.aload_n 0, 1) := by decide +kernel
theorem d_D_takeNoise_1 : decode c_D_takeNoise 1 = .ok (.getfield 12, 3) := by decide +kernel
theorem d_D_takeNoise_4 : decode c_D_takeNoise 4 = .ok (.sipush 150, 3) := by decide +kernel
theorem d_D_takeNoise_7 : decode c_D_takeNoise 7 = .ok (.lload_n 1, 1) := by decide +kernel
theorem d_D_takeNoise_8 : decode c_D_takeNoise 8 = .ok (.invokevirtual 92, 3) := by decide +kernel
theorem d_D_takeNoise_11 : decode c_D_takeNoise 11 = .ok (.aload_n 0, 1) := by decide +kernel
theorem d_D_takeNoise_12 : decode c_D_takeNoise 12 = .ok (.getfield 23, 3) := by decide +kernel
theorem d_D_takeNoise_15 : decode c_D_takeNoise 15 = .ok (.aload_n 0, 1) := by decide +kernel
theorem d_D_takeNoise_16 : decode c_D_takeNoise 16 = .ok (.getfield 12, 3) := by decide +kernel
theorem d_D_takeNoise_19 : decode c_D_takeNoise 19 = .ok (.iconst 0, 1) := by decide +kernel
theorem d_D_takeNoise_20 : decode c_D_takeNoise 20 = .ok (.invokevirtual 96, 3) := by decide +kernel
theorem d_D_takeNoise_23 : decode c_D_takeNoise 23 = .ok (.aload_n 0, 1) := by decide +kernel
theorem d_D_takeNoise_24 : decode c_D_takeNoise 24 = .ok (.getfield 27, 3) := by decide +kernel
theorem d_D_takeNoise_27 : decode c_D_takeNoise 27 = .ok (.aload_n 0, 1) := by decide +kernel
theorem d_D_takeNoise_28 : decode c_D_takeNoise 28 = .ok (.getfield 12, 3) := by decide +kernel
theorem d_D_takeNoise_31 : decode c_D_takeNoise 31 = .ok (.bipush 32, 2) := by decide +kernel
theorem d_D_takeNoise_33 : decode c_D_takeNoise 33 = .ok (.invokevirtual 96, 3) := by decide +kernel
theorem d_D_takeNoise_36 : decode c_D_takeNoise 36 = .ok (.aload_n 0, 1) := by decide +kernel
theorem d_D_takeNoise_37 : decode c_D_takeNoise 37 = .ok (.getfield 30, 3) := by decide +kernel
theorem d_D_takeNoise_40 : decode c_D_takeNoise 40 = .ok (.aload_n 0, 1) := by decide +kernel
theorem d_D_takeNoise_41 : decode c_D_takeNoise 41 = .ok (.getfield 12, 3) := by decide +kernel
theorem d_D_takeNoise_44 : decode c_D_takeNoise 44 = .ok (.bipush 64, 2) := by decide +kernel
theorem d_D_takeNoise_46 : decode c_D_takeNoise 46 = .ok (.invokevirtual 96, 3) := by decide +kernel
theorem d_D_takeNoise_49 : decode c_D_takeNoise 49 = .ok (.return_, 1) := by decide +kernel
theorem d_D_addCode_0 : decode c_D_addCode 0 = .ok (.iconst 0, 1) := by decide +kernel
theorem d_D_addCode_1 : decode c_D_addCode 1 = .ok (.istore_n 2, 1) := by decide +kernel
theorem d_D_addCode_2 : decode c_D_addCode 2 = .ok (.iload_n 2, 1) := by decide +kernel
theorem d_D_addCode_3 : decode c_D_addCode 3 = .ok (.iconst 4, 1) := by decide +kernel
theorem d_D_addCode_4 : decode c_D_addCode 4 = .ok (.if_icmp .ge 61, 3) := by decide +kernel
theorem d_D_addCode_7 : decode c_D_addCode 7 = .ok (.iconst 0, 1) := by decide +kernel
theorem d_D_addCode_8 : decode c_D_addCode 8 = .ok (.istore_n 3, 1) := by decide +kernel
theorem d_D_addCode_9 : decode c_D_addCode 9 = .ok (.iload_n 3, 1) := by decide +kernel
theorem d_D_addCode_10 : decode c_D_addCode 10 = .ok (.iconst 4, 1) := by decide +kernel
theorem d_D_addCode_11 : decode c_D_addCode 11 = .ok (.if_icmp .ge 48, 3) := by decide +kernel
theorem d_D_addCode_14 : decode c_D_addCode 14 = .ok (.iload_n 1, 1) := by decide +kernel
theorem d_D_addCode_15 : decode c_D_addCode 15 = .ok (.bipush 8, 2) := by decide +kernel
theorem d_D_addCode_17 : decode c_D_addCode 17 = .ok (.iload_n 2, 1) := by decide +kernel
theorem d_D_addCode_18 : decode c_D_addCode 18 = .ok (.imul, 1) := by decide +kernel
theorem d_D_addCode_19 : decode c_D_addCode 19 = .ok (.iconst 2, 1) := by decide +kernel
theorem d_D_addCode_20 : decode c_D_addCode 20 = .ok (.iload_n 3, 1) := by decide +kernel
theorem d_D_addCode_21 : decode c_D_addCode 21 = .ok (.imul, 1) := by decide +kernel
theorem d_D_addCode_22 : decode c_D_addCode 22 = .ok (.iadd, 1) := by decide +kernel
theorem d_D_addCode_23 : decode c_D_addCode 23 = .ok (.iushr, 1) := by decide +kernel
theorem d_D_addCode_24 : decode c_D_addCode 24 = .ok (.iconst 3, 1) := by decide +kernel
theorem d_D_addCode_25 : decode c_D_addCode 25 = .ok (.iand, 1) := by decide +kernel
theorem d_D_addCode_26 : decode c_D_addCode 26 = .ok (.istore 4, 2) := by decide +kernel
theorem d_D_addCode_28 : decode c_D_addCode 28 = .ok (.aload_n 0, 1) := by decide +kernel
theorem d_D_addCode_29 : decode c_D_addCode 29 = .ok (.getfield 36, 3) := by decide +kernel
theorem d_D_addCode_32 : decode c_D_addCode 32 = .ok (.iload_n 2, 1) := by decide +kernel
theorem d_D_addCode_33 : decode c_D_addCode 33 = .ok (.iload_n 3, 1) := by decide +kernel
theorem d_D_addCode_34 : decode c_D_addCode 34 = .ok (.aload_n 0, 1) := by decide +kernel
theorem d_D_addCode_35 : decode c_D_addCode 35 = .ok (.getfield 36, 3) := by decide +kernel
theorem d_D_addCode_38 : decode c_D_addCode 38 = .ok (.iload_n 2, 1) := by decide +kernel
theorem d_D_addCode_39 : decode c_D_addCode 39 = .ok (.iload_n 3, 1) := by decide +kernel
theorem d_D_addCode_40 : decode c_D_addCode 40 = .ok (.invokevirtual 100, 3) := by decide +kernel
theorem d_D_addCode_43 : decode c_D_addCode 43 = .ok (.sipush 8192, 3) := by decide +kernel
theorem d_D_addCode_46 : decode c_D_addCode 46 = .ok (.iload 4, 2) := by decide +kernel
theorem d_D_addCode_48 : decode c_D_addCode 48 = .ok (.imul, 1) := by decide +kernel
theorem d_D_addCode_49 : decode c_D_addCode 49 = .ok (.iadd, 1) := by decide +kernel
theorem d_D_addCode_50 : decode c_D_addCode 50 = .ok (.invokevirtual 104, 3) := by decide +kernel
theorem d_D_addCode_53 : decode c_D_addCode 53 = .ok (.iinc 3 1, 3) := by decide +kernel
theorem d_D_addCode_56 : decode c_D_addCode 56 = .ok (.goto (-47), 3) := by decide +kernel
theorem d_D_addCode_59 : decode c_D_addCode 59 = .ok (.iinc 2 1, 3) := by decide +kernel
theorem d_D_addCode_62 : decode c_D_addCode 62 = .ok (.goto (-60), 3) := by decide +kernel
theorem d_D_addCode_65 : decode c_D_addCode 65 = .ok (.return_, 1) := by decide +kernel
theorem d_D_unseal_0 : decode c_D_unseal 0 = .ok (.aload_n 0, 1) := by decide +kernel
theorem d_D_unseal_1 : decode c_D_unseal 1 = .ok (.aload_n 1, 1) := by decide +kernel
theorem d_D_unseal_2 : decode c_D_unseal 2 = .ok (.aload_n 2, 1) := by decide +kernel
theorem d_D_unseal_3 : decode c_D_unseal 3 = .ok (.invokevirtual 112, 3) := by decide +kernel
theorem d_D_unseal_6 : decode c_D_unseal 6 = .ok (.aload_n 0, 1) := by decide +kernel
theorem d_D_unseal_7 : decode c_D_unseal 7 = .ok (.aload_n 0, 1) := by decide +kernel
theorem d_D_unseal_8 : decode c_D_unseal 8 = .ok (.invokevirtual 116, 3) := by decide +kernel
theorem d_D_unseal_11 : decode c_D_unseal 11 = .ok (.aload_n 2, 1) := by decide +kernel
theorem d_D_unseal_12 : decode c_D_unseal 12 = .ok (.aload_n 0, 1) := by decide +kernel
theorem d_D_unseal_13 : decode c_D_unseal 13 = .ok (.getfield 42, 3) := by decide +kernel
theorem d_D_unseal_16 : decode c_D_unseal 16 = .ok (.invokevirtual 120, 3) := by decide +kernel
theorem d_D_unseal_19 : decode c_D_unseal 19 = .ok (.lstore_n 3, 1) := by decide +kernel
theorem d_D_unseal_20 : decode c_D_unseal 20 = .ok (.aload_n 0, 1) := by decide +kernel
theorem d_D_unseal_21 : decode c_D_unseal 21 = .ok (.aload_n 1, 1) := by decide +kernel
theorem d_D_unseal_22 : decode c_D_unseal 22 = .ok (.invokevirtual 124, 3) := by decide +kernel
theorem d_D_unseal_25 : decode c_D_unseal 25 = .ok (.ifCond .eq 5, 3) := by decide +kernel
theorem d_D_unseal_28 : decode c_D_unseal 28 = .ok (.lload_n 3, 1) := by decide +kernel
theorem d_D_unseal_29 : decode c_D_unseal 29 = .ok (.lreturn, 1) := by decide +kernel
theorem d_D_unseal_30 : decode c_D_unseal 30 = .ok (.aload_n 0, 1) := by decide +kernel
theorem d_D_unseal_31 : decode c_D_unseal 31 = .ok (.getfield 12, 3) := by decide +kernel
theorem d_D_unseal_34 : decode c_D_unseal 34 = .ok (.aload_n 1, 1) := by decide +kernel
theorem d_D_unseal_35 : decode c_D_unseal 35 = .ok (.aload_n 2, 1) := by decide +kernel
theorem d_D_unseal_36 : decode c_D_unseal 36 = .ok (.getfield 128, 3) := by decide +kernel
theorem d_D_unseal_39 : decode c_D_unseal 39 = .ok (.invokevirtual 88, 3) := by decide +kernel
theorem d_D_unseal_42 : decode c_D_unseal 42 = .ok (.lreturn, 1) := by decide +kernel
theorem d_D_open_0 : decode c_D_open 0 = .ok (.aload_n 0, 1) := by decide +kernel
theorem d_D_open_1 : decode c_D_open 1 = .ok (.getfield 33, 3) := by decide +kernel
theorem d_D_open_4 : decode c_D_open 4 = .ok (.aload_n 1, 1) := by decide +kernel
theorem d_D_open_5 : decode c_D_open 5 = .ok (.iconst 0, 1) := by decide +kernel
theorem d_D_open_6 : decode c_D_open 6 = .ok (.invokevirtual 108, 3) := by decide +kernel
theorem d_D_open_9 : decode c_D_open 9 = .ok (.aload_n 0, 1) := by decide +kernel
theorem d_D_open_10 : decode c_D_open 10 = .ok (.getfield 36, 3) := by decide +kernel
theorem d_D_open_13 : decode c_D_open 13 = .ok (.aload_n 1, 1) := by decide +kernel
theorem d_D_open_14 : decode c_D_open 14 = .ok (.bipush 60, 2) := by decide +kernel
theorem d_D_open_16 : decode c_D_open 16 = .ok (.invokevirtual 108, 3) := by decide +kernel
theorem d_D_open_19 : decode c_D_open 19 = .ok (.aload_n 0, 1) := by decide +kernel
theorem d_D_open_20 : decode c_D_open 20 = .ok (.getfield 39, 3) := by decide +kernel
theorem d_D_open_23 : decode c_D_open 23 = .ok (.aload_n 0, 1) := by decide +kernel
theorem d_D_open_24 : decode c_D_open 24 = .ok (.getfield 36, 3) := by decide +kernel
theorem d_D_open_27 : decode c_D_open 27 = .ok (.iconst (-1), 1) := by decide +kernel
theorem d_D_open_28 : decode c_D_open 28 = .ok (.aload_n 0, 1) := by decide +kernel
theorem d_D_open_29 : decode c_D_open 29 = .ok (.getfield 33, 3) := by decide +kernel
theorem d_D_open_32 : decode c_D_open 32 = .ok (.aload_n 2, 1) := by decide +kernel
theorem d_D_open_33 : decode c_D_open 33 = .ok (.getfield 111, 3) := by decide +kernel
theorem d_D_open_36 : decode c_D_open 36 = .ok (.invokevirtual 73, 3) := by decide +kernel
theorem d_D_open_39 : decode c_D_open 39 = .ok (.return_, 1) := by decide +kernel
theorem d_D_openedMessage_0 : decode c_D_openedMessage 0 = .ok (.iconst 0, 1) := by decide +kernel
theorem d_D_openedMessage_1 : decode c_D_openedMessage 1 = .ok (.istore_n 1, 1) := by decide +kernel
theorem d_D_openedMessage_2 : decode c_D_openedMessage 2 = .ok (.iconst 0, 1) := by decide +kernel
theorem d_D_openedMessage_3 : decode c_D_openedMessage 3 = .ok (.istore_n 2, 1) := by decide +kernel
theorem d_D_openedMessage_4 : decode c_D_openedMessage 4 = .ok (.iload_n 2, 1) := by decide +kernel
theorem d_D_openedMessage_5 : decode c_D_openedMessage 5 = .ok (.iconst 4, 1) := by decide +kernel
theorem d_D_openedMessage_6 : decode c_D_openedMessage 6 = .ok (.if_icmp .ge 57, 3) := by decide +kernel
theorem d_D_openedMessage_9 : decode c_D_openedMessage 9 = .ok (.iconst 0, 1) := by decide +kernel
theorem d_D_openedMessage_10 : decode c_D_openedMessage 10 = .ok (.istore_n 3, 1) := by decide +kernel
theorem d_D_openedMessage_11 : decode c_D_openedMessage 11 = .ok (.iload_n 3, 1) := by decide +kernel
theorem d_D_openedMessage_12 : decode c_D_openedMessage 12 = .ok (.iconst 4, 1) := by decide +kernel
theorem d_D_openedMessage_13 : decode c_D_openedMessage 13 = .ok (.if_icmp .ge 44, 3) := by decide +kernel
theorem d_D_openedMessage_16 : decode c_D_openedMessage 16 = .ok (.aload_n 0, 1) := by decide +kernel
theorem d_D_openedMessage_17 : decode c_D_openedMessage 17 = .ok (.getfield 39, 3) := by decide +kernel
theorem d_D_openedMessage_20 : decode c_D_openedMessage 20 = .ok (.iload_n 2, 1) := by decide +kernel
theorem d_D_openedMessage_21 : decode c_D_openedMessage 21 = .ok (.iload_n 3, 1) := by decide +kernel
theorem d_D_openedMessage_22 : decode c_D_openedMessage 22 = .ok (.invokevirtual 100, 3) := by decide +kernel
theorem d_D_openedMessage_25 : decode c_D_openedMessage 25 = .ok (.sipush 4096, 3) := by decide +kernel
theorem d_D_openedMessage_28 : decode c_D_openedMessage 28 = .ok (.iadd, 1) := by decide +kernel
theorem d_D_openedMessage_29 : decode c_D_openedMessage 29 = .ok (.sipush 8192, 3) := by decide +kernel
theorem d_D_openedMessage_32 : decode c_D_openedMessage 32 = .ok (.idiv, 1) := by decide +kernel
theorem d_D_openedMessage_33 : decode c_D_openedMessage 33 = .ok (.iconst 3, 1) := by decide +kernel
theorem d_D_openedMessage_34 : decode c_D_openedMessage 34 = .ok (.iand, 1) := by decide +kernel
theorem d_D_openedMessage_35 : decode c_D_openedMessage 35 = .ok (.istore 4, 2) := by decide +kernel
theorem d_D_openedMessage_37 : decode c_D_openedMessage 37 = .ok (.iload_n 1, 1) := by decide +kernel
theorem d_D_openedMessage_38 : decode c_D_openedMessage 38 = .ok (.iload 4, 2) := by decide +kernel
theorem d_D_openedMessage_40 : decode c_D_openedMessage 40 = .ok (.bipush 8, 2) := by decide +kernel
theorem d_D_openedMessage_42 : decode c_D_openedMessage 42 = .ok (.iload_n 2, 1) := by decide +kernel
theorem d_D_openedMessage_43 : decode c_D_openedMessage 43 = .ok (.imul, 1) := by decide +kernel
theorem d_D_openedMessage_44 : decode c_D_openedMessage 44 = .ok (.iconst 2, 1) := by decide +kernel
theorem d_D_openedMessage_45 : decode c_D_openedMessage 45 = .ok (.iload_n 3, 1) := by decide +kernel
theorem d_D_openedMessage_46 : decode c_D_openedMessage 46 = .ok (.imul, 1) := by decide +kernel
theorem d_D_openedMessage_47 : decode c_D_openedMessage 47 = .ok (.iadd, 1) := by decide +kernel
theorem d_D_openedMessage_48 : decode c_D_openedMessage 48 = .ok (.ishl, 1) := by decide +kernel
theorem d_D_openedMessage_49 : decode c_D_openedMessage 49 = .ok (.ior, 1) := by decide +kernel
theorem d_D_openedMessage_50 : decode c_D_openedMessage 50 = .ok (.istore_n 1, 1) := by decide +kernel
theorem d_D_openedMessage_51 : decode c_D_openedMessage 51 = .ok (.iinc 3 1, 3) := by decide +kernel
theorem d_D_openedMessage_54 : decode c_D_openedMessage 54 = .ok (.goto (-43), 3) := by decide +kernel
theorem d_D_openedMessage_57 : decode c_D_openedMessage 57 = .ok (.iinc 2 1, 3) := by decide +kernel
theorem d_D_openedMessage_60 : decode c_D_openedMessage 60 = .ok (.goto (-56), 3) := by decide +kernel
theorem d_D_openedMessage_63 : decode c_D_openedMessage 63 = .ok (.iload_n 1, 1) := by decide +kernel
theorem d_D_openedMessage_64 : decode c_D_openedMessage 64 = .ok (.ireturn, 1) := by decide +kernel
theorem d_D_isAgain_0 : decode c_D_isAgain 0 = .ok (.iconst 0, 1) := by decide +kernel
theorem d_D_isAgain_1 : decode c_D_isAgain 1 = .ok (.istore_n 2, 1) := by decide +kernel
theorem d_D_isAgain_2 : decode c_D_isAgain 2 = .ok (.iconst 0, 1) := by decide +kernel
theorem d_D_isAgain_3 : decode c_D_isAgain 3 = .ok (.istore_n 3, 1) := by decide +kernel
theorem d_D_isAgain_4 : decode c_D_isAgain 4 = .ok (.iload_n 3, 1) := by decide +kernel
theorem d_D_isAgain_5 : decode c_D_isAgain 5 = .ok (.bipush 90, 2) := by decide +kernel
theorem d_D_isAgain_7 : decode c_D_isAgain 7 = .ok (.if_icmp .ge 22, 3) := by decide +kernel
theorem d_D_isAgain_10 : decode c_D_isAgain 10 = .ok (.iload_n 2, 1) := by decide +kernel
theorem d_D_isAgain_11 : decode c_D_isAgain 11 = .ok (.aload_n 1, 1) := by decide +kernel
theorem d_D_isAgain_12 : decode c_D_isAgain 12 = .ok (.iload_n 3, 1) := by decide +kernel
theorem d_D_isAgain_13 : decode c_D_isAgain 13 = .ok (.iaload, 1) := by decide +kernel
theorem d_D_isAgain_14 : decode c_D_isAgain 14 = .ok (.aload_n 0, 1) := by decide +kernel
theorem d_D_isAgain_15 : decode c_D_isAgain 15 = .ok (.getfield 42, 3) := by decide +kernel
theorem d_D_isAgain_18 : decode c_D_isAgain 18 = .ok (.iload_n 3, 1) := by decide +kernel
theorem d_D_isAgain_19 : decode c_D_isAgain 19 = .ok (.iaload, 1) := by decide +kernel
theorem d_D_isAgain_20 : decode c_D_isAgain 20 = .ok (.ixor, 1) := by decide +kernel
theorem d_D_isAgain_21 : decode c_D_isAgain 21 = .ok (.ior, 1) := by decide +kernel
theorem d_D_isAgain_22 : decode c_D_isAgain 22 = .ok (.istore_n 2, 1) := by decide +kernel
theorem d_D_isAgain_23 : decode c_D_isAgain 23 = .ok (.iinc 3 1, 3) := by decide +kernel
theorem d_D_isAgain_26 : decode c_D_isAgain 26 = .ok (.goto (-22), 3) := by decide +kernel
theorem d_D_isAgain_29 : decode c_D_isAgain 29 = .ok (.iload_n 2, 1) := by decide +kernel
theorem d_D_isAgain_30 : decode c_D_isAgain 30 = .ok (.ifCond .ne 7, 3) := by decide +kernel
theorem d_D_isAgain_33 : decode c_D_isAgain 33 = .ok (.iconst 1, 1) := by decide +kernel
theorem d_D_isAgain_34 : decode c_D_isAgain 34 = .ok (.goto 4, 3) := by decide +kernel
theorem d_D_isAgain_37 : decode c_D_isAgain 37 = .ok (.iconst 0, 1) := by decide +kernel
theorem d_D_isAgain_38 : decode c_D_isAgain 38 = .ok (.ireturn, 1) := by decide +kernel
theorem d_D_openedNoise_0 : decode c_D_openedNoise 0 = .ok (.aload_n 0, 1) := by decide +kernel
theorem d_D_openedNoise_1 : decode c_D_openedNoise 1 = .ok (.getfield 39, 3) := by decide +kernel
theorem d_D_openedNoise_4 : decode c_D_openedNoise 4 = .ok (.iload_n 1, 1) := by decide +kernel
theorem d_D_openedNoise_5 : decode c_D_openedNoise 5 = .ok (.iload_n 2, 1) := by decide +kernel
theorem d_D_openedNoise_6 : decode c_D_openedNoise 6 = .ok (.invokevirtual 100, 3) := by decide +kernel
theorem d_D_openedNoise_9 : decode c_D_openedNoise 9 = .ok (.sipush 4096, 3) := by decide +kernel
theorem d_D_openedNoise_12 : decode c_D_openedNoise 12 = .ok (.iadd, 1) := by decide +kernel
theorem d_D_openedNoise_13 : decode c_D_openedNoise 13 = .ok (.sipush 8192, 3) := by decide +kernel
theorem d_D_openedNoise_16 : decode c_D_openedNoise 16 = .ok (.irem, 1) := by decide +kernel
theorem d_D_openedNoise_17 : decode c_D_openedNoise 17 = .ok (.sipush 4096, 3) := by decide +kernel
theorem d_D_openedNoise_20 : decode c_D_openedNoise 20 = .ok (.isub, 1) := by decide +kernel
theorem d_D_openedNoise_21 : decode c_D_openedNoise 21 = .ok (.ireturn, 1) := by decide +kernel
end DC
