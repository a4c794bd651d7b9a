section DC
theorem d_M_init_0 : decode c_M_init 0 = .ok (.aload_n 0, 1) := by decide +kernel
theorem d_M_init_1 : decode c_M_init 1 = .ok (.invokespecial 3, 3) := by decide +kernel
theorem d_M_init_4 : decode c_M_init 4 = .ok (.aload_n 0, 1) := by decide +kernel
theorem d_M_init_5 : decode c_M_init 5 = .ok (.iload_n 1, 1) := by decide +kernel
theorem d_M_init_6 : decode c_M_init 6 = .ok (.putfield 9, 3) := by decide +kernel
theorem d_M_init_9 : decode c_M_init 9 = .ok (.aload_n 0, 1) := by decide +kernel
theorem d_M_init_10 : decode c_M_init 10 = .ok (.iload_n 2, 1) := by decide +kernel
theorem d_M_init_11 : decode c_M_init 11 = .ok (.putfield 15, 3) := by decide +kernel
theorem d_M_init_14 : decode c_M_init 14 = .ok (.aload_n 0, 1) := by decide +kernel
theorem d_M_init_15 : decode c_M_init 15 = .ok (.iload_n 1, 1) := by decide +kernel
theorem d_M_init_16 : decode c_M_init 16 = .ok (.iload_n 2, 1) := by decide +kernel
theorem d_M_init_17 : decode c_M_init 17 = .ok (.imul, 1) := by decide +kernel
theorem d_M_init_18 : decode c_M_init 18 = .ok (.newarray .int, 2) := by decide +kernel
theorem d_M_init_20 : decode c_M_init 20 = .ok (.putfield 18, 3) := by decide +kernel
theorem d_M_init_23 : decode c_M_init 23 = .ok (.return_, 1) := by decide +kernel
theorem d_M_put_0 : decode c_M_put 0 = .ok (.aload_n 0, 1) := by decide +kernel
theorem d_M_put_1 : decode c_M_put 1 = .ok (.getfield 18, 3) := by decide +kernel
theorem d_M_put_4 : decode c_M_put 4 = .ok (.iload_n 1, 1) := by decide +kernel
theorem d_M_put_5 : decode c_M_put 5 = .ok (.aload_n 0, 1) := by decide +kernel
theorem d_M_put_6 : decode c_M_put 6 = .ok (.getfield 15, 3) := by decide +kernel
theorem d_M_put_9 : decode c_M_put 9 = .ok (.imul, 1) := by decide +kernel
theorem d_M_put_10 : decode c_M_put 10 = .ok (.iload_n 2, 1) := by decide +kernel
theorem d_M_put_11 : decode c_M_put 11 = .ok (.iadd, 1) := by decide +kernel
theorem d_M_put_12 : decode c_M_put 12 = .ok (.iload_n 3, 1) := by decide +kernel
theorem d_M_put_13 : decode c_M_put 13 = .ok (.sipush 32767, 3) := by decide +kernel
theorem d_M_put_16 : decode c_M_put 16 = .ok (.iand, 1) := by decide +kernel
theorem d_M_put_17 : decode c_M_put 17 = .ok (.iastore, 1) := by decide +kernel
theorem d_M_put_18 : decode c_M_put 18 = .ok (.return_, 1) := by decide +kernel
theorem d_M_takeSamples_0 : decode c_M_takeSamples 0 = .ok (.iconst 0, 1) := by decide +kernel
theorem d_M_takeSamples_1 : decode c_M_takeSamples 1 = .ok (.istore_n 3, 1) := by decide +kernel
theorem d_M_takeSamples_2 : decode c_M_takeSamples 2 = .ok (.iload_n 3, 1) := by decide +kernel
theorem d_M_takeSamples_3 : decode c_M_takeSamples 3 = .ok (.aload_n 0, 1) := by decide +kernel
theorem d_M_takeSamples_4 : decode c_M_takeSamples 4 = .ok (.getfield 18, 3) := by decide +kernel
theorem d_M_takeSamples_7 : decode c_M_takeSamples 7 = .ok (.arraylength, 1) := by decide +kernel
theorem d_M_takeSamples_8 : decode c_M_takeSamples 8 = .ok (.if_icmp .ge 29, 3) := by decide +kernel
theorem d_M_takeSamples_11 : decode c_M_takeSamples 11 = .ok (.aload_n 0, 1) := by decide +kernel
theorem d_M_takeSamples_12 : decode c_M_takeSamples 12 = .ok (.getfield 18, 3) := by decide +kernel
theorem d_M_takeSamples_15 : decode c_M_takeSamples 15 = .ok (.iload_n 3, 1) := by decide +kernel
theorem d_M_takeSamples_16 : decode c_M_takeSamples 16 = .ok (.aload_n 1, 1) := by decide +kernel
theorem d_M_takeSamples_17 : decode c_M_takeSamples 17 = .ok (.iload_n 2, 1) := by decide +kernel
theorem d_M_takeSamples_18 : decode c_M_takeSamples 18 = .ok (.iload_n 3, 1) := by decide +kernel
theorem d_M_takeSamples_19 : decode c_M_takeSamples 19 = .ok (.iadd, 1) := by decide +kernel
theorem d_M_takeSamples_20 : decode c_M_takeSamples 20 = .ok (.invokevirtual 22, 3) := by decide +kernel
theorem d_M_takeSamples_23 : decode c_M_takeSamples 23 = .ok (.invokestatic 28, 3) := by decide +kernel
theorem d_M_takeSamples_26 : decode c_M_takeSamples 26 = .ok (.sipush 32767, 3) := by decide +kernel
theorem d_M_takeSamples_29 : decode c_M_takeSamples 29 = .ok (.iand, 1) := by decide +kernel
theorem d_M_takeSamples_30 : decode c_M_takeSamples 30 = .ok (.iastore, 1) := by decide +kernel
theorem d_M_takeSamples_31 : decode c_M_takeSamples 31 = .ok (.iinc 3 1, 3) := by decide +kernel
theorem d_M_takeSamples_34 : decode c_M_takeSamples 34 = .ok (.goto (-32), 3) := by decide +kernel
theorem d_M_takeSamples_37 : decode c_M_takeSamples 37 = .ok (.return_, 1) := by decide +kernel
theorem d_M_sampleOf_0 : decode c_M_sampleOf 0 = .ok (.iconst 0, 1) := by decide +kernel
theorem d_M_sampleOf_1 : decode c_M_sampleOf 1 = .ok (.istore_n 1, 1) := by decide +kernel
theorem d_M_sampleOf_2 : decode c_M_sampleOf 2 = .ok (.iconst 0, 1) := by decide +kernel
theorem d_M_sampleOf_3 : decode c_M_sampleOf 3 = .ok (.istore_n 2, 1) := by decide +kernel
theorem d_M_sampleOf_4 : decode c_M_sampleOf 4 = .ok (.iload_n 2, 1) := by decide +kernel
theorem d_M_sampleOf_5 : decode c_M_sampleOf 5 = .ok (.getstatic 31, 3) := by decide +kernel
theorem d_M_sampleOf_8 : decode c_M_sampleOf 8 = .ok (.arraylength, 1) := by decide +kernel
theorem d_M_sampleOf_9 : decode c_M_sampleOf 9 = .ok (.if_icmp .ge 23, 3) := by decide +kernel
theorem d_M_sampleOf_12 : decode c_M_sampleOf 12 = .ok (.getstatic 31, 3) := by decide +kernel
theorem d_M_sampleOf_15 : decode c_M_sampleOf 15 = .ok (.iload_n 2, 1) := by decide +kernel
theorem d_M_sampleOf_16 : decode c_M_sampleOf 16 = .ok (.iaload, 1) := by decide +kernel
theorem d_M_sampleOf_17 : decode c_M_sampleOf 17 = .ok (.iload_n 0, 1) := by decide +kernel
theorem d_M_sampleOf_18 : decode c_M_sampleOf 18 = .ok (.iconst 2, 1) := by decide +kernel
theorem d_M_sampleOf_19 : decode c_M_sampleOf 19 = .ok (.idiv, 1) := by decide +kernel
theorem d_M_sampleOf_20 : decode c_M_sampleOf 20 = .ok (.if_icmp .ge 6, 3) := by decide +kernel
theorem d_M_sampleOf_23 : decode c_M_sampleOf 23 = .ok (.iinc 1 1, 3) := by decide +kernel
theorem d_M_sampleOf_26 : decode c_M_sampleOf 26 = .ok (.iinc 2 1, 3) := by decide +kernel
theorem d_M_sampleOf_29 : decode c_M_sampleOf 29 = .ok (.goto (-25), 3) := by decide +kernel
theorem d_M_sampleOf_32 : decode c_M_sampleOf 32 = .ok (.iload_n 0, 1) := by decide +kernel
theorem d_M_sampleOf_33 : decode c_M_sampleOf 33 = .ok (.iconst 2, 1) := by decide +kernel
theorem d_M_sampleOf_34 : decode c_M_sampleOf 34 = .ok (.irem, 1) := by decide +kernel
theorem d_M_sampleOf_35 : decode c_M_sampleOf 35 = .ok (.ifCond .ne 7, 3) := by decide +kernel
theorem d_M_sampleOf_38 : decode c_M_sampleOf 38 = .ok (.iload_n 1, 1) := by decide +kernel
theorem d_M_sampleOf_39 : decode c_M_sampleOf 39 = .ok (.goto 5, 3) := by decide +kernel
theorem d_M_sampleOf_42 : decode c_M_sampleOf 42 = .ok (.iload_n 1, 1) := by decide +kernel
theorem d_M_sampleOf_43 : decode c_M_sampleOf 43 = .ok (.ineg, 1) := by decide +kernel
theorem d_M_sampleOf_44 : decode c_M_sampleOf 44 = .ok (.ireturn, 1) := by decide +kernel
theorem d_M_takeSumWithProduct_0 : decode c_M_takeSumWithProduct 0 = .ok (.iconst 0, 1) := by decide +kernel
theorem d_M_takeSumWithProduct_1 : decode c_M_takeSumWithProduct 1 = .ok (.istore 5, 2) := by decide +kernel
theorem d_M_takeSumWithProduct_3 : decode c_M_takeSumWithProduct 3 = .ok (.iload 5, 2) := by decide +kernel
theorem d_M_takeSumWithProduct_5 : decode c_M_takeSumWithProduct 5 = .ok (.aload_n 0, 1) := by decide +kernel
theorem d_M_takeSumWithProduct_6 : decode c_M_takeSumWithProduct 6 = .ok (.getfield 9, 3) := by decide +kernel
theorem d_M_takeSumWithProduct_9 : decode c_M_takeSumWithProduct 9 = .ok (.if_icmp .ge 92, 3) := by decide +kernel
theorem d_M_takeSumWithProduct_12 : decode c_M_takeSumWithProduct 12 = .ok (.iconst 0, 1) := by decide +kernel
theorem d_M_takeSumWithProduct_13 : decode c_M_takeSumWithProduct 13 = .ok (.istore 6, 2) := by decide +kernel
theorem d_M_takeSumWithProduct_15 : decode c_M_takeSumWithProduct 15 = .ok (.iload 6, 2) := by decide +kernel
theorem d_M_takeSumWithProduct_17 : decode c_M_takeSumWithProduct 17 = .ok (.aload_n 0, 1) := by decide +kernel
theorem d_M_takeSumWithProduct_18 : decode c_M_takeSumWithProduct 18 = .ok (.getfield 15, 3) := by decide +kernel
theorem d_M_takeSumWithProduct_21 : decode c_M_takeSumWithProduct 21 = .ok (.if_icmp .ge 74, 3) := by decide +kernel
theorem d_M_takeSumWithProduct_24 : decode c_M_takeSumWithProduct 24 = .ok (.iconst 0, 1) := by decide +kernel
theorem d_M_takeSumWithProduct_25 : decode c_M_takeSumWithProduct 25 = .ok (.istore 7, 2) := by decide +kernel
theorem d_M_takeSumWithProduct_27 : decode c_M_takeSumWithProduct 27 = .ok (.iconst 0, 1) := by decide +kernel
theorem d_M_takeSumWithProduct_28 : decode c_M_takeSumWithProduct 28 = .ok (.istore 8, 2) := by decide +kernel
theorem d_M_takeSumWithProduct_30 : decode c_M_takeSumWithProduct 30 = .ok (.iload 8, 2) := by decide +kernel
theorem d_M_takeSumWithProduct_32 : decode c_M_takeSumWithProduct 32 = .ok (.aload_n 3, 1) := by decide +kernel
theorem d_M_takeSumWithProduct_33 : decode c_M_takeSumWithProduct 33 = .ok (.getfield 15, 3) := by decide +kernel
theorem d_M_takeSumWithProduct_36 : decode c_M_takeSumWithProduct 36 = .ok (.if_icmp .ge 32, 3) := by decide +kernel
theorem d_M_takeSumWithProduct_39 : decode c_M_takeSumWithProduct 39 = .ok (.iload 7, 2) := by decide +kernel
theorem d_M_takeSumWithProduct_41 : decode c_M_takeSumWithProduct 41 = .ok (.aload_n 3, 1) := by decide +kernel
theorem d_M_takeSumWithProduct_42 : decode c_M_takeSumWithProduct 42 = .ok (.iload 5, 2) := by decide +kernel
theorem d_M_takeSumWithProduct_44 : decode c_M_takeSumWithProduct 44 = .ok (.iload 8, 2) := by decide +kernel
theorem d_M_takeSumWithProduct_46 : decode c_M_takeSumWithProduct 46 = .ok (.invokevirtual 34, 3) := by decide +kernel
theorem d_M_takeSumWithProduct_49 : decode c_M_takeSumWithProduct 49 = .ok (.aload 4, 2) := by decide +kernel
theorem d_M_takeSumWithProduct_51 : decode c_M_takeSumWithProduct 51 = .ok (.iload 8, 2) := by decide +kernel
theorem d_M_takeSumWithProduct_53 : decode c_M_takeSumWithProduct 53 = .ok (.iload 6, 2) := by decide +kernel
theorem d_M_takeSumWithProduct_55 : decode c_M_takeSumWithProduct 55 = .ok (.invokevirtual 34, 3) := by decide +kernel
theorem d_M_takeSumWithProduct_58 : decode c_M_takeSumWithProduct 58 = .ok (.imul, 1) := by decide +kernel
theorem d_M_takeSumWithProduct_59 : decode c_M_takeSumWithProduct 59 = .ok (.iadd, 1) := by decide +kernel
theorem d_M_takeSumWithProduct_60 : decode c_M_takeSumWithProduct 60 = .ok (.istore 7, 2) := by decide +kernel
theorem d_M_takeSumWithProduct_62 : decode c_M_takeSumWithProduct 62 = .ok (.iinc 8 1, 3) := by decide +kernel
theorem d_M_takeSumWithProduct_65 : decode c_M_takeSumWithProduct 65 = .ok (.goto (-35), 3) := by decide +kernel
theorem d_M_takeSumWithProduct_68 : decode c_M_takeSumWithProduct 68 = .ok (.aload_n 0, 1) := by decide +kernel
theorem d_M_takeSumWithProduct_69 : decode c_M_takeSumWithProduct 69 = .ok (.iload 5, 2) := by decide +kernel
theorem d_M_takeSumWithProduct_71 : decode c_M_takeSumWithProduct 71 = .ok (.iload 6, 2) := by decide +kernel
theorem d_M_takeSumWithProduct_73 : decode c_M_takeSumWithProduct 73 = .ok (.aload_n 1, 1) := by decide +kernel
theorem d_M_takeSumWithProduct_74 : decode c_M_takeSumWithProduct 74 = .ok (.iload 5, 2) := by decide +kernel
theorem d_M_takeSumWithProduct_76 : decode c_M_takeSumWithProduct 76 = .ok (.iload 6, 2) := by decide +kernel
theorem d_M_takeSumWithProduct_78 : decode c_M_takeSumWithProduct 78 = .ok (.invokevirtual 34, 3) := by decide +kernel
theorem d_M_takeSumWithProduct_81 : decode c_M_takeSumWithProduct 81 = .ok (.iload_n 2, 1) := by decide +kernel
theorem d_M_takeSumWithProduct_82 : decode c_M_takeSumWithProduct 82 = .ok (.iload 7, 2) := by decide +kernel
theorem d_M_takeSumWithProduct_84 : decode c_M_takeSumWithProduct 84 = .ok (.imul, 1) := by decide +kernel
theorem d_M_takeSumWithProduct_85 : decode c_M_takeSumWithProduct 85 = .ok (.iadd, 1) := by decide +kernel
theorem d_M_takeSumWithProduct_86 : decode c_M_takeSumWithProduct 86 = .ok (.invokevirtual 38, 3) := by decide +kernel
theorem d_M_takeSumWithProduct_89 : decode c_M_takeSumWithProduct 89 = .ok (.iinc 6 1, 3) := by decide +kernel
theorem d_M_takeSumWithProduct_92 : decode c_M_takeSumWithProduct 92 = .ok (.goto (-77), 3) := by decide +kernel
theorem d_M_takeSumWithProduct_95 : decode c_M_takeSumWithProduct 95 = .ok (.iinc 5 1, 3) := by decide +kernel
theorem d_M_takeSumWithProduct_98 : decode c_M_takeSumWithProduct 98 = .ok (.goto (-95), 3) := by decide +kernel
theorem d_M_takeSumWithProduct_101 : decode c_M_takeSumWithProduct 101 = .ok (.return_, 1) := by decide +kernel
theorem d_M_at_0 : decode c_M_at 0 = .ok (.aload_n 0, 1) := by decide +kernel
theorem d_M_at_1 : decode c_M_at 1 = .ok (.getfield 18, 3) := by decide +kernel
theorem d_M_at_4 : decode c_M_at 4 = .ok (.iload_n 1, 1) := by decide +kernel
theorem d_M_at_5 : decode c_M_at 5 = .ok (.aload_n 0, 1) := by decide +kernel
theorem d_M_at_6 : decode c_M_at 6 = .ok (.getfield 15, 3) := by decide +kernel
theorem d_M_at_9 : decode c_M_at 9 = .ok (.imul, 1) := by decide +kernel
theorem d_M_at_10 : decode c_M_at 10 = .ok (.iload_n 2, 1) := by decide +kernel
theorem d_M_at_11 : decode c_M_at 11 = .ok (.iadd, 1) := by decide +kernel
theorem d_M_at_12 : decode c_M_at 12 = .ok (.iaload, 1) := by decide +kernel
theorem d_M_at_13 : decode c_M_at 13 = .ok (.ireturn, 1) := by decide +kernel
theorem d_M_packInto_0 : decode c_M_packInto 0 = .ok (.iconst 0, 1) := by decide +kernel
theorem d_M_packInto_1 : decode c_M_packInto 1 = .ok (.istore_n 3, 1) := by decide +kernel
theorem d_M_packInto_2 : decode c_M_packInto 2 = .ok (.iconst 0, 1) := by decide +kernel
theorem d_M_packInto_3 : decode c_M_packInto 3 = .ok (.istore 4, 2) := by decide +kernel
theorem d_M_packInto_5 : decode c_M_packInto 5 = .ok (.iload_n 2, 1) := by decide +kernel
theorem d_M_packInto_6 : decode c_M_packInto 6 = .ok (.istore 5, 2) := by decide +kernel
theorem d_M_packInto_8 : decode c_M_packInto 8 = .ok (.iconst 0, 1) := by decide +kernel
theorem d_M_packInto_9 : decode c_M_packInto 9 = .ok (.istore 6, 2) := by decide +kernel
theorem d_M_packInto_11 : decode c_M_packInto 11 = .ok (.iload 6, 2) := by decide +kernel
theorem d_M_packInto_13 : decode c_M_packInto 13 = .ok (.aload_n 0, 1) := by decide +kernel
theorem d_M_packInto_14 : decode c_M_packInto 14 = .ok (.getfield 18, 3) := by decide +kernel
theorem d_M_packInto_17 : decode c_M_packInto 17 = .ok (.arraylength, 1) := by decide +kernel
theorem d_M_packInto_18 : decode c_M_packInto 18 = .ok (.if_icmp .ge 53, 3) := by decide +kernel
theorem d_M_packInto_21 : decode c_M_packInto 21 = .ok (.iload_n 3, 1) := by decide +kernel
theorem d_M_packInto_22 : decode c_M_packInto 22 = .ok (.bipush 15, 2) := by decide +kernel
theorem d_M_packInto_24 : decode c_M_packInto 24 = .ok (.ishl, 1) := by decide +kernel
theorem d_M_packInto_25 : decode c_M_packInto 25 = .ok (.aload_n 0, 1) := by decide +kernel
theorem d_M_packInto_26 : decode c_M_packInto 26 = .ok (.getfield 18, 3) := by decide +kernel
theorem d_M_packInto_29 : decode c_M_packInto 29 = .ok (.iload 6, 2) := by decide +kernel
theorem d_M_packInto_31 : decode c_M_packInto 31 = .ok (.iaload, 1) := by decide +kernel
theorem d_M_packInto_32 : decode c_M_packInto 32 = .ok (.ior, 1) := by decide +kernel
theorem d_M_packInto_33 : decode c_M_packInto 33 = .ok (.istore_n 3, 1) := by decide +kernel
theorem d_M_packInto_34 : decode c_M_packInto 34 = .ok (.iinc 4 15, 3) := by decide +kernel
theorem d_M_packInto_37 : decode c_M_packInto 37 = .ok (.iload 4, 2) := by decide +kernel
theorem d_M_packInto_39 : decode c_M_packInto 39 = .ok (.bipush 8, 2) := by decide +kernel
theorem d_M_packInto_41 : decode c_M_packInto 41 = .ok (.if_icmp .lt 24, 3) := by decide +kernel
theorem d_M_packInto_44 : decode c_M_packInto 44 = .ok (.iinc 4 (-8), 3) := by decide +kernel
theorem d_M_packInto_47 : decode c_M_packInto 47 = .ok (.aload_n 1, 1) := by decide +kernel
theorem d_M_packInto_48 : decode c_M_packInto 48 = .ok (.iload 5, 2) := by decide +kernel
theorem d_M_packInto_50 : decode c_M_packInto 50 = .ok (.iload_n 3, 1) := by decide +kernel
theorem d_M_packInto_51 : decode c_M_packInto 51 = .ok (.iload 4, 2) := by decide +kernel
theorem d_M_packInto_53 : decode c_M_packInto 53 = .ok (.iushr, 1) := by decide +kernel
theorem d_M_packInto_54 : decode c_M_packInto 54 = .ok (.sipush 255, 3) := by decide +kernel
theorem d_M_packInto_57 : decode c_M_packInto 57 = .ok (.iand, 1) := by decide +kernel
theorem d_M_packInto_58 : decode c_M_packInto 58 = .ok (.iastore, 1) := by decide +kernel
theorem d_M_packInto_59 : decode c_M_packInto 59 = .ok (.iinc 5 1, 3) := by decide +kernel
theorem d_M_packInto_62 : decode c_M_packInto 62 = .ok (.goto (-25), 3) := by decide +kernel
theorem d_M_packInto_65 : decode c_M_packInto 65 = .ok (.iinc 6 1, 3) := by decide +kernel
theorem d_M_packInto_68 : decode c_M_packInto 68 = .ok (.goto (-57), 3) := by decide +kernel
theorem d_M_packInto_71 : decode c_M_packInto 71 = .ok (.return_, 1) := by decide +kernel
theorem d_M_unpackFrom_0 : decode c_M_unpackFrom 0 = .ok (.iconst 0, 1) := by decide +kernel
theorem d_M_unpackFrom_1 : decode c_M_unpackFrom 1 = .ok (.istore_n 3, 1) := by decide +kernel
theorem d_M_unpackFrom_2 : decode c_M_unpackFrom 2 = .ok (.iconst 0, 1) := by decide +kernel
theorem d_M_unpackFrom_3 : decode c_M_unpackFrom 3 = .ok (.istore 4, 2) := by decide +kernel
theorem d_M_unpackFrom_5 : decode c_M_unpackFrom 5 = .ok (.iload_n 2, 1) := by decide +kernel
theorem d_M_unpackFrom_6 : decode c_M_unpackFrom 6 = .ok (.istore 5, 2) := by decide +kernel
theorem d_M_unpackFrom_8 : decode c_M_unpackFrom 8 = .ok (.iconst 0, 1) := by decide +kernel
theorem d_M_unpackFrom_9 : decode c_M_unpackFrom 9 = .ok (.istore 6, 2) := by decide +kernel
theorem d_M_unpackFrom_11 : decode c_M_unpackFrom 11 = .ok (.iload 6, 2) := by decide +kernel
theorem d_M_unpackFrom_13 : decode c_M_unpackFrom 13 = .ok (.aload_n 0, 1) := by decide +kernel
theorem d_M_unpackFrom_14 : decode c_M_unpackFrom 14 = .ok (.getfield 18, 3) := by decide +kernel
theorem d_M_unpackFrom_17 : decode c_M_unpackFrom 17 = .ok (.arraylength, 1) := by decide +kernel
theorem d_M_unpackFrom_18 : decode c_M_unpackFrom 18 = .ok (.if_icmp .ge 53, 3) := by decide +kernel
theorem d_M_unpackFrom_21 : decode c_M_unpackFrom 21 = .ok (.iload 4, 2) := by decide +kernel
theorem d_M_unpackFrom_23 : decode c_M_unpackFrom 23 = .ok (.bipush 15, 2) := by decide +kernel
theorem d_M_unpackFrom_25 : decode c_M_unpackFrom 25 = .ok (.if_icmp .ge 22, 3) := by decide +kernel
theorem d_M_unpackFrom_28 : decode c_M_unpackFrom 28 = .ok (.iload_n 3, 1) := by decide +kernel
theorem d_M_unpackFrom_29 : decode c_M_unpackFrom 29 = .ok (.bipush 8, 2) := by decide +kernel
theorem d_M_unpackFrom_31 : decode c_M_unpackFrom 31 = .ok (.ishl, 1) := by decide +kernel
theorem d_M_unpackFrom_32 : decode c_M_unpackFrom 32 = .ok (.aload_n 1, 1) := by decide +kernel
theorem d_M_unpackFrom_33 : decode c_M_unpackFrom 33 = .ok (.iload 5, 2) := by decide +kernel
theorem d_M_unpackFrom_35 : decode c_M_unpackFrom 35 = .ok (.iaload, 1) := by decide +kernel
theorem d_M_unpackFrom_36 : decode c_M_unpackFrom 36 = .ok (.ior, 1) := by decide +kernel
theorem d_M_unpackFrom_37 : decode c_M_unpackFrom 37 = .ok (.istore_n 3, 1) := by decide +kernel
theorem d_M_unpackFrom_38 : decode c_M_unpackFrom 38 = .ok (.iinc 5 1, 3) := by decide +kernel
theorem d_M_unpackFrom_41 : decode c_M_unpackFrom 41 = .ok (.iinc 4 8, 3) := by decide +kernel
theorem d_M_unpackFrom_44 : decode c_M_unpackFrom 44 = .ok (.goto (-23), 3) := by decide +kernel
theorem d_M_unpackFrom_47 : decode c_M_unpackFrom 47 = .ok (.iinc 4 (-15), 3) := by decide +kernel
theorem d_M_unpackFrom_50 : decode c_M_unpackFrom 50 = .ok (.aload_n 0, 1) := by decide +kernel
theorem d_M_unpackFrom_51 : decode c_M_unpackFrom 51 = .ok (.getfield 18, 3) := by decide +kernel
theorem d_M_unpackFrom_54 : decode c_M_unpackFrom 54 = .ok (.iload 6, 2) := by decide +kernel
theorem d_M_unpackFrom_56 : decode c_M_unpackFrom 56 = .ok (.iload_n 3, 1) := by decide +kernel
theorem d_M_unpackFrom_57 : decode c_M_unpackFrom 57 = .ok (.iload 4, 2) := by decide +kernel
theorem d_M_unpackFrom_59 : decode c_M_unpackFrom 59 = .ok (.iushr, 1) := by decide +kernel
theorem d_M_unpackFrom_60 : decode c_M_unpackFrom 60 = .ok (.sipush 32767, 3) := by decide +kernel
theorem d_M_unpackFrom_63 : decode c_M_unpackFrom 63 = .ok (.iand, 1) := by decide +kernel
theorem d_M_unpackFrom_64 : decode c_M_unpackFrom 64 = .ok (.iastore, 1) := by decide +kernel
theorem d_M_unpackFrom_65 : decode c_M_unpackFrom 65 = .ok (.iinc 6 1, 3) := by decide +kernel
theorem d_M_unpackFrom_68 : decode c_M_unpackFrom 68 = .ok (.goto (-57), 3) := by decide +kernel
theorem d_M_unpackFrom_71 : decode c_M_unpackFrom 71 = .ok (.return_, 1) := by decide +kernel
theorem d_M_has_0 : decode c_M_has 0 = .ok (.iload_n 1, 1) := by decide +kernel
theorem d_M_has_1 : decode c_M_has 1 = .ok (.ifCond .lt 27, 3) := by decide +kernel
theorem d_M_has_4 : decode c_M_has 4 = .ok (.iload_n 1, 1) := by decide +kernel
theorem d_M_has_5 : decode c_M_has 5 = .ok (.aload_n 0, 1) := by decide +kernel
theorem d_M_has_6 : decode c_M_has 6 = .ok (.getfield 9, 3) := by decide +kernel
theorem d_M_has_9 : decode c_M_has 9 = .ok (.if_icmp .ge 19, 3) := by decide +kernel
theorem d_M_has_12 : decode c_M_has 12 = .ok (.iload_n 2, 1) := by decide +kernel
theorem d_M_has_13 : decode c_M_has 13 = .ok (.ifCond .lt 15, 3) := by decide +kernel
theorem d_M_has_16 : decode c_M_has 16 = .ok (.iload_n 2, 1) := by decide +kernel
theorem d_M_has_17 : decode c_M_has 17 = .ok (.aload_n 0, 1) := by decide +kernel
theorem d_M_has_18 : decode c_M_has 18 = .ok (.getfield 15, 3) := by decide +kernel
theorem d_M_has_21 : decode c_M_has 21 = .ok (.if_icmp .ge 7, 3) := by decide +kernel
theorem d_M_has_24 : decode c_M_has 24 = .ok (.iconst 1, 1) := by decide +kernel
theorem d_M_has_25 : decode c_M_has 25 = .ok (.goto 4, 3) := by decide +kernel
theorem d_M_has_28 : decode c_M_has 28 = .ok (.iconst 0, 1) := by decide +kernel
theorem d_M_has_29 : decode c_M_has 29 = .ok (.ireturn, 1) := by decide +kernel
end DC
