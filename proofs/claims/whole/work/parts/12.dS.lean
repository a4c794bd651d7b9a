section DC
theorem d_S_init_0 : decode c_S_init 0 = .ok (.aload_n 0, 1) := by decide +kernel
theorem d_S_init_1 : decode c_S_init 1 = .ok (.invokespecial 3, 3) := by decide +kernel
theorem d_S_init_4 : decode c_S_init 4 = .ok (.aload_n 0, 1) := by decide +kernel
theorem d_S_init_5 : decode c_S_init 5 = .ok (.bipush 25, 2) := by decide +kernel
theorem d_S_init_7 : decode c_S_init 7 = .ok (.newarray .long, 2) := by decide +kernel
theorem d_S_init_9 : decode c_S_init 9 = .ok (.putfield 9, 3) := by decide +kernel
theorem d_S_init_12 : decode c_S_init 12 = .ok (.aload_n 0, 1) := by decide +kernel
theorem d_S_init_13 : decode c_S_init 13 = .ok (.bipush 25, 2) := by decide +kernel
theorem d_S_init_15 : decode c_S_init 15 = .ok (.newarray .long, 2) := by decide +kernel
theorem d_S_init_17 : decode c_S_init 17 = .ok (.putfield 15, 3) := by decide +kernel
theorem d_S_init_20 : decode c_S_init 20 = .ok (.aload_n 0, 1) := by decide +kernel
theorem d_S_init_21 : decode c_S_init 21 = .ok (.iconst 5, 1) := by decide +kernel
theorem d_S_init_22 : decode c_S_init 22 = .ok (.newarray .long, 2) := by decide +kernel
theorem d_S_init_24 : decode c_S_init 24 = .ok (.putfield 18, 3) := by decide +kernel
theorem d_S_init_27 : decode c_S_init 27 = .ok (.aload_n 0, 1) := by decide +kernel
theorem d_S_init_28 : decode c_S_init 28 = .ok (.iconst 0, 1) := by decide +kernel
theorem d_S_init_29 : decode c_S_init 29 = .ok (.putfield 21, 3) := by decide +kernel
theorem d_S_init_32 : decode c_S_init 32 = .ok (.return_, 1) := by decide +kernel
theorem d_S_ofLong_0 : decode c_S_ofLong 0 = .ok (.aload_n 0, 1) := by decide +kernel
theorem d_S_ofLong_1 : decode c_S_ofLong 1 = .ok (.invokevirtual 52, 3) := by decide +kernel
theorem d_S_ofLong_4 : decode c_S_ofLong 4 = .ok (.aload_n 0, 1) := by decide +kernel
theorem d_S_ofLong_5 : decode c_S_ofLong 5 = .ok (.lload_n 1, 1) := by decide +kernel
theorem d_S_ofLong_6 : decode c_S_ofLong 6 = .ok (.bipush 8, 2) := by decide +kernel
theorem d_S_ofLong_8 : decode c_S_ofLong 8 = .ok (.invokevirtual 55, 3) := by decide +kernel
theorem d_S_ofLong_11 : decode c_S_ofLong 11 = .ok (.aload_n 0, 1) := by decide +kernel
theorem d_S_ofLong_12 : decode c_S_ofLong 12 = .ok (.invokevirtual 59, 3) := by decide +kernel
theorem d_S_ofLong_15 : decode c_S_ofLong 15 = .ok (.aload_n 0, 1) := by decide +kernel
theorem d_S_ofLong_16 : decode c_S_ofLong 16 = .ok (.iconst 0, 1) := by decide +kernel
theorem d_S_ofLong_17 : decode c_S_ofLong 17 = .ok (.invokevirtual 62, 3) := by decide +kernel
theorem d_S_ofLong_20 : decode c_S_ofLong 20 = .ok (.lreturn, 1) := by decide +kernel
theorem d_S_begin_0 : decode c_S_begin 0 = .ok (.aload_n 0, 1) := by decide +kernel
theorem d_S_begin_1 : decode c_S_begin 1 = .ok (.getfield 9, 3) := by decide +kernel
theorem d_S_begin_4 : decode c_S_begin 4 = .ok (.lconst 0, 1) := by decide +kernel
theorem d_S_begin_5 : decode c_S_begin 5 = .ok (.invokestatic 25, 3) := by decide +kernel
theorem d_S_begin_8 : decode c_S_begin 8 = .ok (.aload_n 0, 1) := by decide +kernel
theorem d_S_begin_9 : decode c_S_begin 9 = .ok (.iconst 0, 1) := by decide +kernel
theorem d_S_begin_10 : decode c_S_begin 10 = .ok (.putfield 21, 3) := by decide +kernel
theorem d_S_begin_13 : decode c_S_begin 13 = .ok (.return_, 1) := by decide +kernel
theorem d_S_putBytes_0 : decode c_S_putBytes 0 = .ok (.iconst 0, 1) := by decide +kernel
theorem d_S_putBytes_1 : decode c_S_putBytes 1 = .ok (.istore 4, 2) := by decide +kernel
theorem d_S_putBytes_3 : decode c_S_putBytes 3 = .ok (.iload 4, 2) := by decide +kernel
theorem d_S_putBytes_5 : decode c_S_putBytes 5 = .ok (.iload_n 3, 1) := by decide +kernel
theorem d_S_putBytes_6 : decode c_S_putBytes 6 = .ok (.if_icmp .ge 21, 3) := by decide +kernel
theorem d_S_putBytes_9 : decode c_S_putBytes 9 = .ok (.aload_n 0, 1) := by decide +kernel
theorem d_S_putBytes_10 : decode c_S_putBytes 10 = .ok (.lload_n 1, 1) := by decide +kernel
theorem d_S_putBytes_11 : decode c_S_putBytes 11 = .ok (.bipush 8, 2) := by decide +kernel
theorem d_S_putBytes_13 : decode c_S_putBytes 13 = .ok (.iload 4, 2) := by decide +kernel
theorem d_S_putBytes_15 : decode c_S_putBytes 15 = .ok (.imul, 1) := by decide +kernel
theorem d_S_putBytes_16 : decode c_S_putBytes 16 = .ok (.lushr, 1) := by decide +kernel
theorem d_S_putBytes_17 : decode c_S_putBytes 17 = .ok (.l2i, 1) := by decide +kernel
theorem d_S_putBytes_18 : decode c_S_putBytes 18 = .ok (.invokevirtual 33, 3) := by decide +kernel
theorem d_S_putBytes_21 : decode c_S_putBytes 21 = .ok (.iinc 4 1, 3) := by decide +kernel
theorem d_S_putBytes_24 : decode c_S_putBytes 24 = .ok (.goto (-21), 3) := by decide +kernel
theorem d_S_putBytes_27 : decode c_S_putBytes 27 = .ok (.return_, 1) := by decide +kernel
theorem d_S_putByte_0 : decode c_S_putByte 0 = .ok (.aload_n 0, 1) := by decide +kernel
theorem d_S_putByte_1 : decode c_S_putByte 1 = .ok (.getfield 9, 3) := by decide +kernel
theorem d_S_putByte_4 : decode c_S_putByte 4 = .ok (.aload_n 0, 1) := by decide +kernel
theorem d_S_putByte_5 : decode c_S_putByte 5 = .ok (.getfield 21, 3) := by decide +kernel
theorem d_S_putByte_8 : decode c_S_putByte 8 = .ok (.bipush 8, 2) := by decide +kernel
theorem d_S_putByte_10 : decode c_S_putByte 10 = .ok (.idiv, 1) := by decide +kernel
theorem d_S_putByte_11 : decode c_S_putByte 11 = .ok (.dup2, 1) := by decide +kernel
theorem d_S_putByte_12 : decode c_S_putByte 12 = .ok (.laload, 1) := by decide +kernel
theorem d_S_putByte_13 : decode c_S_putByte 13 = .ok (.iload_n 1, 1) := by decide +kernel
theorem d_S_putByte_14 : decode c_S_putByte 14 = .ok (.i2l, 1) := by decide +kernel
theorem d_S_putByte_15 : decode c_S_putByte 15 = .ok (.ldc2_w 31, 3) := by decide +kernel
theorem d_S_putByte_18 : decode c_S_putByte 18 = .ok (.land, 1) := by decide +kernel
theorem d_S_putByte_19 : decode c_S_putByte 19 = .ok (.bipush 8, 2) := by decide +kernel
theorem d_S_putByte_21 : decode c_S_putByte 21 = .ok (.aload_n 0, 1) := by decide +kernel
theorem d_S_putByte_22 : decode c_S_putByte 22 = .ok (.getfield 21, 3) := by decide +kernel
theorem d_S_putByte_25 : decode c_S_putByte 25 = .ok (.bipush 8, 2) := by decide +kernel
theorem d_S_putByte_27 : decode c_S_putByte 27 = .ok (.irem, 1) := by decide +kernel
theorem d_S_putByte_28 : decode c_S_putByte 28 = .ok (.imul, 1) := by decide +kernel
theorem d_S_putByte_29 : decode c_S_putByte 29 = .ok (.lshl, 1) := by decide +kernel
theorem d_S_putByte_30 : decode c_S_putByte 30 = .ok (.lxor, 1) := by decide +kernel
theorem d_S_putByte_31 : decode c_S_putByte 31 = .ok (.lastore, 1) := by decide +kernel
theorem d_S_putByte_32 : decode c_S_putByte 32 = .ok (.aload_n 0, 1) := by decide +kernel
theorem d_S_putByte_33 : decode c_S_putByte 33 = .ok (.dup, 1) := by decide +kernel
theorem d_S_putByte_34 : decode c_S_putByte 34 = .ok (.getfield 21, 3) := by decide +kernel
theorem d_S_putByte_37 : decode c_S_putByte 37 = .ok (.iconst 1, 1) := by decide +kernel
theorem d_S_putByte_38 : decode c_S_putByte 38 = .ok (.iadd, 1) := by decide +kernel
theorem d_S_putByte_39 : decode c_S_putByte 39 = .ok (.putfield 21, 3) := by decide +kernel
theorem d_S_putByte_42 : decode c_S_putByte 42 = .ok (.return_, 1) := by decide +kernel
theorem d_S_finish_0 : decode c_S_finish 0 = .ok (.aload_n 0, 1) := by decide +kernel
theorem d_S_finish_1 : decode c_S_finish 1 = .ok (.bipush 31, 2) := by decide +kernel
theorem d_S_finish_3 : decode c_S_finish 3 = .ok (.invokevirtual 33, 3) := by decide +kernel
theorem d_S_finish_6 : decode c_S_finish 6 = .ok (.aload_n 0, 1) := by decide +kernel
theorem d_S_finish_7 : decode c_S_finish 7 = .ok (.getfield 9, 3) := by decide +kernel
theorem d_S_finish_10 : decode c_S_finish 10 = .ok (.bipush 20, 2) := by decide +kernel
theorem d_S_finish_12 : decode c_S_finish 12 = .ok (.dup2, 1) := by decide +kernel
theorem d_S_finish_13 : decode c_S_finish 13 = .ok (.laload, 1) := by decide +kernel
theorem d_S_finish_14 : decode c_S_finish 14 = .ok (.ldc2_w 37, 3) := by decide +kernel
theorem d_S_finish_17 : decode c_S_finish 17 = .ok (.lxor, 1) := by decide +kernel
theorem d_S_finish_18 : decode c_S_finish 18 = .ok (.lastore, 1) := by decide +kernel
theorem d_S_finish_19 : decode c_S_finish 19 = .ok (.iconst 0, 1) := by decide +kernel
theorem d_S_finish_20 : decode c_S_finish 20 = .ok (.istore_n 1, 1) := by decide +kernel
theorem d_S_finish_21 : decode c_S_finish 21 = .ok (.iload_n 1, 1) := by decide +kernel
theorem d_S_finish_22 : decode c_S_finish 22 = .ok (.getstatic 39, 3) := by decide +kernel
theorem d_S_finish_25 : decode c_S_finish 25 = .ok (.arraylength, 1) := by decide +kernel
theorem d_S_finish_26 : decode c_S_finish 26 = .ok (.if_icmp .ge 35, 3) := by decide +kernel
theorem d_S_finish_29 : decode c_S_finish 29 = .ok (.aload_n 0, 1) := by decide +kernel
theorem d_S_finish_30 : decode c_S_finish 30 = .ok (.invokevirtual 42, 3) := by decide +kernel
theorem d_S_finish_33 : decode c_S_finish 33 = .ok (.aload_n 0, 1) := by decide +kernel
theorem d_S_finish_34 : decode c_S_finish 34 = .ok (.invokevirtual 45, 3) := by decide +kernel
theorem d_S_finish_37 : decode c_S_finish 37 = .ok (.aload_n 0, 1) := by decide +kernel
theorem d_S_finish_38 : decode c_S_finish 38 = .ok (.invokevirtual 48, 3) := by decide +kernel
theorem d_S_finish_41 : decode c_S_finish 41 = .ok (.aload_n 0, 1) := by decide +kernel
theorem d_S_finish_42 : decode c_S_finish 42 = .ok (.getfield 9, 3) := by decide +kernel
theorem d_S_finish_45 : decode c_S_finish 45 = .ok (.iconst 0, 1) := by decide +kernel
theorem d_S_finish_46 : decode c_S_finish 46 = .ok (.dup2, 1) := by decide +kernel
theorem d_S_finish_47 : decode c_S_finish 47 = .ok (.laload, 1) := by decide +kernel
theorem d_S_finish_48 : decode c_S_finish 48 = .ok (.getstatic 39, 3) := by decide +kernel
theorem d_S_finish_51 : decode c_S_finish 51 = .ok (.iload_n 1, 1) := by decide +kernel
theorem d_S_finish_52 : decode c_S_finish 52 = .ok (.laload, 1) := by decide +kernel
theorem d_S_finish_53 : decode c_S_finish 53 = .ok (.lxor, 1) := by decide +kernel
theorem d_S_finish_54 : decode c_S_finish 54 = .ok (.lastore, 1) := by decide +kernel
theorem d_S_finish_55 : decode c_S_finish 55 = .ok (.iinc 1 1, 3) := by decide +kernel
theorem d_S_finish_58 : decode c_S_finish 58 = .ok (.goto (-37), 3) := by decide +kernel
theorem d_S_finish_61 : decode c_S_finish 61 = .ok (.return_, 1) := by decide +kernel
theorem d_S_mixColumns_0 : decode c_S_mixColumns 0 = .ok (.iconst 0, 1) := by decide +kernel
theorem d_S_mixColumns_1 : decode c_S_mixColumns 1 = .ok (.istore_n 1, 1) := by decide +kernel
theorem d_S_mixColumns_2 : decode c_S_mixColumns 2 = .ok (.iload_n 1, 1) := by decide +kernel
theorem d_S_mixColumns_3 : decode c_S_mixColumns 3 = .ok (.iconst 5, 1) := by decide +kernel
theorem d_S_mixColumns_4 : decode c_S_mixColumns 4 = .ok (.if_icmp .ge 60, 3) := by decide +kernel
theorem d_S_mixColumns_7 : decode c_S_mixColumns 7 = .ok (.aload_n 0, 1) := by decide +kernel
theorem d_S_mixColumns_8 : decode c_S_mixColumns 8 = .ok (.getfield 18, 3) := by decide +kernel
theorem d_S_mixColumns_11 : decode c_S_mixColumns 11 = .ok (.iload_n 1, 1) := by decide +kernel
theorem d_S_mixColumns_12 : decode c_S_mixColumns 12 = .ok (.aload_n 0, 1) := by decide +kernel
theorem d_S_mixColumns_13 : decode c_S_mixColumns 13 = .ok (.getfield 9, 3) := by decide +kernel
theorem d_S_mixColumns_16 : decode c_S_mixColumns 16 = .ok (.iload_n 1, 1) := by decide +kernel
theorem d_S_mixColumns_17 : decode c_S_mixColumns 17 = .ok (.laload, 1) := by decide +kernel
theorem d_S_mixColumns_18 : decode c_S_mixColumns 18 = .ok (.aload_n 0, 1) := by decide +kernel
theorem d_S_mixColumns_19 : decode c_S_mixColumns 19 = .ok (.getfield 9, 3) := by decide +kernel
theorem d_S_mixColumns_22 : decode c_S_mixColumns 22 = .ok (.iload_n 1, 1) := by decide +kernel
theorem d_S_mixColumns_23 : decode c_S_mixColumns 23 = .ok (.iconst 5, 1) := by decide +kernel
theorem d_S_mixColumns_24 : decode c_S_mixColumns 24 = .ok (.iadd, 1) := by decide +kernel
theorem d_S_mixColumns_25 : decode c_S_mixColumns 25 = .ok (.laload, 1) := by decide +kernel
theorem d_S_mixColumns_26 : decode c_S_mixColumns 26 = .ok (.lxor, 1) := by decide +kernel
theorem d_S_mixColumns_27 : decode c_S_mixColumns 27 = .ok (.aload_n 0, 1) := by decide +kernel
theorem d_S_mixColumns_28 : decode c_S_mixColumns 28 = .ok (.getfield 9, 3) := by decide +kernel
theorem d_S_mixColumns_31 : decode c_S_mixColumns 31 = .ok (.iload_n 1, 1) := by decide +kernel
theorem d_S_mixColumns_32 : decode c_S_mixColumns 32 = .ok (.bipush 10, 2) := by decide +kernel
theorem d_S_mixColumns_34 : decode c_S_mixColumns 34 = .ok (.iadd, 1) := by decide +kernel
theorem d_S_mixColumns_35 : decode c_S_mixColumns 35 = .ok (.laload, 1) := by decide +kernel
theorem d_S_mixColumns_36 : decode c_S_mixColumns 36 = .ok (.lxor, 1) := by decide +kernel
theorem d_S_mixColumns_37 : decode c_S_mixColumns 37 = .ok (.aload_n 0, 1) := by decide +kernel
theorem d_S_mixColumns_38 : decode c_S_mixColumns 38 = .ok (.getfield 9, 3) := by decide +kernel
theorem d_S_mixColumns_41 : decode c_S_mixColumns 41 = .ok (.iload_n 1, 1) := by decide +kernel
theorem d_S_mixColumns_42 : decode c_S_mixColumns 42 = .ok (.bipush 15, 2) := by decide +kernel
theorem d_S_mixColumns_44 : decode c_S_mixColumns 44 = .ok (.iadd, 1) := by decide +kernel
theorem d_S_mixColumns_45 : decode c_S_mixColumns 45 = .ok (.laload, 1) := by decide +kernel
theorem d_S_mixColumns_46 : decode c_S_mixColumns 46 = .ok (.lxor, 1) := by decide +kernel
theorem d_S_mixColumns_47 : decode c_S_mixColumns 47 = .ok (.aload_n 0, 1) := by decide +kernel
theorem d_S_mixColumns_48 : decode c_S_mixColumns 48 = .ok (.getfield 9, 3) := by decide +kernel
theorem d_S_mixColumns_51 : decode c_S_mixColumns 51 = .ok (.iload_n 1, 1) := by decide +kernel
theorem d_S_mixColumns_52 : decode c_S_mixColumns 52 = .ok (.bipush 20, 2) := by decide +kernel
theorem d_S_mixColumns_54 : decode c_S_mixColumns 54 = .ok (.iadd, 1) := by decide +kernel
theorem d_S_mixColumns_55 : decode c_S_mixColumns 55 = .ok (.laload, 1) := by decide +kernel
theorem d_S_mixColumns_56 : decode c_S_mixColumns 56 = .ok (.lxor, 1) := by decide +kernel
theorem d_S_mixColumns_57 : decode c_S_mixColumns 57 = .ok (.lastore, 1) := by decide +kernel
theorem d_S_mixColumns_58 : decode c_S_mixColumns 58 = .ok (.iinc 1 1, 3) := by decide +kernel
theorem d_S_mixColumns_61 : decode c_S_mixColumns 61 = .ok (.goto (-59), 3) := by decide +kernel
theorem d_S_mixColumns_64 : decode c_S_mixColumns 64 = .ok (.iconst 0, 1) := by decide +kernel
theorem d_S_mixColumns_65 : decode c_S_mixColumns 65 = .ok (.istore_n 1, 1) := by decide +kernel
theorem d_S_mixColumns_66 : decode c_S_mixColumns 66 = .ok (.iload_n 1, 1) := by decide +kernel
theorem d_S_mixColumns_67 : decode c_S_mixColumns 67 = .ok (.iconst 5, 1) := by decide +kernel
theorem d_S_mixColumns_68 : decode c_S_mixColumns 68 = .ok (.if_icmp .ge 62, 3) := by decide +kernel
theorem d_S_mixColumns_71 : decode c_S_mixColumns 71 = .ok (.aload_n 0, 1) := by decide +kernel
theorem d_S_mixColumns_72 : decode c_S_mixColumns 72 = .ok (.getfield 18, 3) := by decide +kernel
theorem d_S_mixColumns_75 : decode c_S_mixColumns 75 = .ok (.iload_n 1, 1) := by decide +kernel
theorem d_S_mixColumns_76 : decode c_S_mixColumns 76 = .ok (.iconst 4, 1) := by decide +kernel
theorem d_S_mixColumns_77 : decode c_S_mixColumns 77 = .ok (.iadd, 1) := by decide +kernel
theorem d_S_mixColumns_78 : decode c_S_mixColumns 78 = .ok (.iconst 5, 1) := by decide +kernel
theorem d_S_mixColumns_79 : decode c_S_mixColumns 79 = .ok (.irem, 1) := by decide +kernel
theorem d_S_mixColumns_80 : decode c_S_mixColumns 80 = .ok (.laload, 1) := by decide +kernel
theorem d_S_mixColumns_81 : decode c_S_mixColumns 81 = .ok (.aload_n 0, 1) := by decide +kernel
theorem d_S_mixColumns_82 : decode c_S_mixColumns 82 = .ok (.getfield 18, 3) := by decide +kernel
theorem d_S_mixColumns_85 : decode c_S_mixColumns 85 = .ok (.iload_n 1, 1) := by decide +kernel
theorem d_S_mixColumns_86 : decode c_S_mixColumns 86 = .ok (.iconst 1, 1) := by decide +kernel
theorem d_S_mixColumns_87 : decode c_S_mixColumns 87 = .ok (.iadd, 1) := by decide +kernel
theorem d_S_mixColumns_88 : decode c_S_mixColumns 88 = .ok (.iconst 5, 1) := by decide +kernel
theorem d_S_mixColumns_89 : decode c_S_mixColumns 89 = .ok (.irem, 1) := by decide +kernel
theorem d_S_mixColumns_90 : decode c_S_mixColumns 90 = .ok (.laload, 1) := by decide +kernel
theorem d_S_mixColumns_91 : decode c_S_mixColumns 91 = .ok (.iconst 1, 1) := by decide +kernel
theorem d_S_mixColumns_92 : decode c_S_mixColumns 92 = .ok (.invokestatic 70, 3) := by decide +kernel
theorem d_S_mixColumns_95 : decode c_S_mixColumns 95 = .ok (.lxor, 1) := by decide +kernel
theorem d_S_mixColumns_96 : decode c_S_mixColumns 96 = .ok (.lstore_n 2, 1) := by decide +kernel
theorem d_S_mixColumns_97 : decode c_S_mixColumns 97 = .ok (.iload_n 1, 1) := by decide +kernel
theorem d_S_mixColumns_98 : decode c_S_mixColumns 98 = .ok (.istore 4, 2) := by decide +kernel
theorem d_S_mixColumns_100 : decode c_S_mixColumns 100 = .ok (.iload 4, 2) := by decide +kernel
theorem d_S_mixColumns_102 : decode c_S_mixColumns 102 = .ok (.bipush 25, 2) := by decide +kernel
theorem d_S_mixColumns_104 : decode c_S_mixColumns 104 = .ok (.if_icmp .ge 20, 3) := by decide +kernel
theorem d_S_mixColumns_107 : decode c_S_mixColumns 107 = .ok (.aload_n 0, 1) := by decide +kernel
theorem d_S_mixColumns_108 : decode c_S_mixColumns 108 = .ok (.getfield 9, 3) := by decide +kernel
theorem d_S_mixColumns_111 : decode c_S_mixColumns 111 = .ok (.iload 4, 2) := by decide +kernel
theorem d_S_mixColumns_113 : decode c_S_mixColumns 113 = .ok (.dup2, 1) := by decide +kernel
theorem d_S_mixColumns_114 : decode c_S_mixColumns 114 = .ok (.laload, 1) := by decide +kernel
theorem d_S_mixColumns_115 : decode c_S_mixColumns 115 = .ok (.lload_n 2, 1) := by decide +kernel
theorem d_S_mixColumns_116 : decode c_S_mixColumns 116 = .ok (.lxor, 1) := by decide +kernel
theorem d_S_mixColumns_117 : decode c_S_mixColumns 117 = .ok (.lastore, 1) := by decide +kernel
theorem d_S_mixColumns_118 : decode c_S_mixColumns 118 = .ok (.iinc 4 5, 3) := by decide +kernel
theorem d_S_mixColumns_121 : decode c_S_mixColumns 121 = .ok (.goto (-21), 3) := by decide +kernel
theorem d_S_mixColumns_124 : decode c_S_mixColumns 124 = .ok (.iinc 1 1, 3) := by decide +kernel
theorem d_S_mixColumns_127 : decode c_S_mixColumns 127 = .ok (.goto (-61), 3) := by decide +kernel
theorem d_S_mixColumns_130 : decode c_S_mixColumns 130 = .ok (.return_, 1) := by decide +kernel
theorem d_S_turned_0 : decode c_S_turned 0 = .ok (.lload_n 0, 1) := by decide +kernel
theorem d_S_turned_1 : decode c_S_turned 1 = .ok (.iload_n 2, 1) := by decide +kernel
theorem d_S_turned_2 : decode c_S_turned 2 = .ok (.lshl, 1) := by decide +kernel
theorem d_S_turned_3 : decode c_S_turned 3 = .ok (.lload_n 0, 1) := by decide +kernel
theorem d_S_turned_4 : decode c_S_turned 4 = .ok (.bipush 64, 2) := by decide +kernel
theorem d_S_turned_6 : decode c_S_turned 6 = .ok (.iload_n 2, 1) := by decide +kernel
theorem d_S_turned_7 : decode c_S_turned 7 = .ok (.isub, 1) := by decide +kernel
theorem d_S_turned_8 : decode c_S_turned 8 = .ok (.lushr, 1) := by decide +kernel
theorem d_S_turned_9 : decode c_S_turned 9 = .ok (.lor, 1) := by decide +kernel
theorem d_S_turned_10 : decode c_S_turned 10 = .ok (.lreturn, 1) := by decide +kernel
theorem d_S_moveLanes_0 : decode c_S_moveLanes 0 = .ok (.iconst 0, 1) := by decide +kernel
theorem d_S_moveLanes_1 : decode c_S_moveLanes 1 = .ok (.istore_n 1, 1) := by decide +kernel
theorem d_S_moveLanes_2 : decode c_S_moveLanes 2 = .ok (.iload_n 1, 1) := by decide +kernel
theorem d_S_moveLanes_3 : decode c_S_moveLanes 3 = .ok (.bipush 25, 2) := by decide +kernel
theorem d_S_moveLanes_5 : decode c_S_moveLanes 5 = .ok (.if_icmp .ge 33, 3) := by decide +kernel
theorem d_S_moveLanes_8 : decode c_S_moveLanes 8 = .ok (.aload_n 0, 1) := by decide +kernel
theorem d_S_moveLanes_9 : decode c_S_moveLanes 9 = .ok (.getfield 15, 3) := by decide +kernel
theorem d_S_moveLanes_12 : decode c_S_moveLanes 12 = .ok (.getstatic 74, 3) := by decide +kernel
theorem d_S_moveLanes_15 : decode c_S_moveLanes 15 = .ok (.iload_n 1, 1) := by decide +kernel
theorem d_S_moveLanes_16 : decode c_S_moveLanes 16 = .ok (.iaload, 1) := by decide +kernel
theorem d_S_moveLanes_17 : decode c_S_moveLanes 17 = .ok (.aload_n 0, 1) := by decide +kernel
theorem d_S_moveLanes_18 : decode c_S_moveLanes 18 = .ok (.getfield 9, 3) := by decide +kernel
theorem d_S_moveLanes_21 : decode c_S_moveLanes 21 = .ok (.iload_n 1, 1) := by decide +kernel
theorem d_S_moveLanes_22 : decode c_S_moveLanes 22 = .ok (.laload, 1) := by decide +kernel
theorem d_S_moveLanes_23 : decode c_S_moveLanes 23 = .ok (.getstatic 78, 3) := by decide +kernel
theorem d_S_moveLanes_26 : decode c_S_moveLanes 26 = .ok (.iload_n 1, 1) := by decide +kernel
theorem d_S_moveLanes_27 : decode c_S_moveLanes 27 = .ok (.iaload, 1) := by decide +kernel
theorem d_S_moveLanes_28 : decode c_S_moveLanes 28 = .ok (.invokestatic 70, 3) := by decide +kernel
theorem d_S_moveLanes_31 : decode c_S_moveLanes 31 = .ok (.lastore, 1) := by decide +kernel
theorem d_S_moveLanes_32 : decode c_S_moveLanes 32 = .ok (.iinc 1 1, 3) := by decide +kernel
theorem d_S_moveLanes_35 : decode c_S_moveLanes 35 = .ok (.goto (-33), 3) := by decide +kernel
theorem d_S_moveLanes_38 : decode c_S_moveLanes 38 = .ok (.return_, 1) := by decide +kernel
theorem d_S_mixRows_0 : decode c_S_mixRows 0 = .ok (.iconst 0, 1) := by decide +kernel
theorem d_S_mixRows_1 : decode c_S_mixRows 1 = .ok (.istore_n 1, 1) := by decide +kernel
theorem d_S_mixRows_2 : decode c_S_mixRows 2 = .ok (.iload_n 1, 1) := by decide +kernel
theorem d_S_mixRows_3 : decode c_S_mixRows 3 = .ok (.bipush 25, 2) := by decide +kernel
theorem d_S_mixRows_5 : decode c_S_mixRows 5 = .ok (.if_icmp .ge 74, 3) := by decide +kernel
theorem d_S_mixRows_8 : decode c_S_mixRows 8 = .ok (.iconst 0, 1) := by decide +kernel
theorem d_S_mixRows_9 : decode c_S_mixRows 9 = .ok (.istore_n 2, 1) := by decide +kernel
theorem d_S_mixRows_10 : decode c_S_mixRows 10 = .ok (.iload_n 2, 1) := by decide +kernel
theorem d_S_mixRows_11 : decode c_S_mixRows 11 = .ok (.iconst 5, 1) := by decide +kernel
theorem d_S_mixRows_12 : decode c_S_mixRows 12 = .ok (.if_icmp .ge 61, 3) := by decide +kernel
theorem d_S_mixRows_15 : decode c_S_mixRows 15 = .ok (.aload_n 0, 1) := by decide +kernel
theorem d_S_mixRows_16 : decode c_S_mixRows 16 = .ok (.getfield 15, 3) := by decide +kernel
theorem d_S_mixRows_19 : decode c_S_mixRows 19 = .ok (.iload_n 1, 1) := by decide +kernel
theorem d_S_mixRows_20 : decode c_S_mixRows 20 = .ok (.iload_n 2, 1) := by decide +kernel
theorem d_S_mixRows_21 : decode c_S_mixRows 21 = .ok (.iconst 1, 1) := by decide +kernel
theorem d_S_mixRows_22 : decode c_S_mixRows 22 = .ok (.iadd, 1) := by decide +kernel
theorem d_S_mixRows_23 : decode c_S_mixRows 23 = .ok (.iconst 5, 1) := by decide +kernel
theorem d_S_mixRows_24 : decode c_S_mixRows 24 = .ok (.irem, 1) := by decide +kernel
theorem d_S_mixRows_25 : decode c_S_mixRows 25 = .ok (.iadd, 1) := by decide +kernel
theorem d_S_mixRows_26 : decode c_S_mixRows 26 = .ok (.laload, 1) := by decide +kernel
theorem d_S_mixRows_27 : decode c_S_mixRows 27 = .ok (.lstore_n 3, 1) := by decide +kernel
theorem d_S_mixRows_28 : decode c_S_mixRows 28 = .ok (.aload_n 0, 1) := by decide +kernel
theorem d_S_mixRows_29 : decode c_S_mixRows 29 = .ok (.getfield 15, 3) := by decide +kernel
theorem d_S_mixRows_32 : decode c_S_mixRows 32 = .ok (.iload_n 1, 1) := by decide +kernel
theorem d_S_mixRows_33 : decode c_S_mixRows 33 = .ok (.iload_n 2, 1) := by decide +kernel
theorem d_S_mixRows_34 : decode c_S_mixRows 34 = .ok (.iconst 2, 1) := by decide +kernel
theorem d_S_mixRows_35 : decode c_S_mixRows 35 = .ok (.iadd, 1) := by decide +kernel
theorem d_S_mixRows_36 : decode c_S_mixRows 36 = .ok (.iconst 5, 1) := by decide +kernel
theorem d_S_mixRows_37 : decode c_S_mixRows 37 = .ok (.irem, 1) := by decide +kernel
theorem d_S_mixRows_38 : decode c_S_mixRows 38 = .ok (.iadd, 1) := by decide +kernel
theorem d_S_mixRows_39 : decode c_S_mixRows 39 = .ok (.laload, 1) := by decide +kernel
theorem d_S_mixRows_40 : decode c_S_mixRows 40 = .ok (.lstore 5, 2) := by decide +kernel
theorem d_S_mixRows_42 : decode c_S_mixRows 42 = .ok (.aload_n 0, 1) := by decide +kernel
theorem d_S_mixRows_43 : decode c_S_mixRows 43 = .ok (.getfield 9, 3) := by decide +kernel
theorem d_S_mixRows_46 : decode c_S_mixRows 46 = .ok (.iload_n 1, 1) := by decide +kernel
theorem d_S_mixRows_47 : decode c_S_mixRows 47 = .ok (.iload_n 2, 1) := by decide +kernel
theorem d_S_mixRows_48 : decode c_S_mixRows 48 = .ok (.iadd, 1) := by decide +kernel
theorem d_S_mixRows_49 : decode c_S_mixRows 49 = .ok (.aload_n 0, 1) := by decide +kernel
theorem d_S_mixRows_50 : decode c_S_mixRows 50 = .ok (.getfield 15, 3) := by decide +kernel
theorem d_S_mixRows_53 : decode c_S_mixRows 53 = .ok (.iload_n 1, 1) := by decide +kernel
theorem d_S_mixRows_54 : decode c_S_mixRows 54 = .ok (.iload_n 2, 1) := by decide +kernel
theorem d_S_mixRows_55 : decode c_S_mixRows 55 = .ok (.iadd, 1) := by decide +kernel
theorem d_S_mixRows_56 : decode c_S_mixRows 56 = .ok (.laload, 1) := by decide +kernel
theorem d_S_mixRows_57 : decode c_S_mixRows 57 = .ok (.lload_n 3, 1) := by decide +kernel
theorem d_S_mixRows_58 : decode c_S_mixRows 58 = .ok (.ldc2_w 81, 3) := by decide +kernel
theorem d_S_mixRows_61 : decode c_S_mixRows 61 = .ok (.lxor, 1) := by decide +kernel
theorem d_S_mixRows_62 : decode c_S_mixRows 62 = .ok (.lload 5, 2) := by decide +kernel
theorem d_S_mixRows_64 : decode c_S_mixRows 64 = .ok (.land, 1) := by decide +kernel
theorem d_S_mixRows_65 : decode c_S_mixRows 65 = .ok (.lxor, 1) := by decide +kernel
theorem d_S_mixRows_66 : decode c_S_mixRows 66 = .ok (.lastore, 1) := by decide +kernel
theorem d_S_mixRows_67 : decode c_S_mixRows 67 = .ok (.iinc 2 1, 3) := by decide +kernel
theorem d_S_mixRows_70 : decode c_S_mixRows 70 = .ok (.goto (-60), 3) := by decide +kernel
theorem d_S_mixRows_73 : decode c_S_mixRows 73 = .ok (.iinc 1 5, 3) := by decide +kernel
theorem d_S_mixRows_76 : decode c_S_mixRows 76 = .ok (.goto (-74), 3) := by decide +kernel
theorem d_S_mixRows_79 : decode c_S_mixRows 79 = .ok (.return_, 1) := by decide +kernel
theorem d_S_longAt_0 : decode c_S_longAt 0 = .ok (.aload_n 0, 1) := by decide +kernel
theorem d_S_longAt_1 : decode c_S_longAt 1 = .ok (.getfield 9, 3) := by decide +kernel
theorem d_S_longAt_4 : decode c_S_longAt 4 = .ok (.iload_n 1, 1) := by decide +kernel
theorem d_S_longAt_5 : decode c_S_longAt 5 = .ok (.laload, 1) := by decide +kernel
theorem d_S_longAt_6 : decode c_S_longAt 6 = .ok (.lreturn, 1) := by decide +kernel
theorem d_S_pairAt_0 : decode c_S_pairAt 0 = .ok (.aload_n 0, 1) := by decide +kernel
theorem d_S_pairAt_1 : decode c_S_pairAt 1 = .ok (.getfield 9, 3) := by decide +kernel
theorem d_S_pairAt_4 : decode c_S_pairAt 4 = .ok (.iload_n 1, 1) := by decide +kernel
theorem d_S_pairAt_5 : decode c_S_pairAt 5 = .ok (.iconst 4, 1) := by decide +kernel
theorem d_S_pairAt_6 : decode c_S_pairAt 6 = .ok (.idiv, 1) := by decide +kernel
theorem d_S_pairAt_7 : decode c_S_pairAt 7 = .ok (.laload, 1) := by decide +kernel
theorem d_S_pairAt_8 : decode c_S_pairAt 8 = .ok (.bipush 16, 2) := by decide +kernel
theorem d_S_pairAt_10 : decode c_S_pairAt 10 = .ok (.iload_n 1, 1) := by decide +kernel
theorem d_S_pairAt_11 : decode c_S_pairAt 11 = .ok (.iconst 4, 1) := by decide +kernel
theorem d_S_pairAt_12 : decode c_S_pairAt 12 = .ok (.irem, 1) := by decide +kernel
theorem d_S_pairAt_13 : decode c_S_pairAt 13 = .ok (.imul, 1) := by decide +kernel
theorem d_S_pairAt_14 : decode c_S_pairAt 14 = .ok (.lushr, 1) := by decide +kernel
theorem d_S_pairAt_15 : decode c_S_pairAt 15 = .ok (.l2i, 1) := by decide +kernel
theorem d_S_pairAt_16 : decode c_S_pairAt 16 = .ok (.ldc 51, 2) := by decide +kernel
theorem d_S_pairAt_18 : decode c_S_pairAt 18 = .ok (.iand, 1) := by decide +kernel
theorem d_S_pairAt_19 : decode c_S_pairAt 19 = .ok (.ireturn, 1) := by decide +kernel
theorem d_S_ofByteAndLong_0 : decode c_S_ofByteAndLong 0 = .ok (.aload_n 0, 1) := by decide +kernel
theorem d_S_ofByteAndLong_1 : decode c_S_ofByteAndLong 1 = .ok (.invokevirtual 52, 3) := by decide +kernel
theorem d_S_ofByteAndLong_4 : decode c_S_ofByteAndLong 4 = .ok (.aload_n 0, 1) := by decide +kernel
theorem d_S_ofByteAndLong_5 : decode c_S_ofByteAndLong 5 = .ok (.iload_n 1, 1) := by decide +kernel
theorem d_S_ofByteAndLong_6 : decode c_S_ofByteAndLong 6 = .ok (.invokevirtual 33, 3) := by decide +kernel
theorem d_S_ofByteAndLong_9 : decode c_S_ofByteAndLong 9 = .ok (.aload_n 0, 1) := by decide +kernel
theorem d_S_ofByteAndLong_10 : decode c_S_ofByteAndLong 10 = .ok (.lload_n 2, 1) := by decide +kernel
theorem d_S_ofByteAndLong_11 : decode c_S_ofByteAndLong 11 = .ok (.bipush 8, 2) := by decide +kernel
theorem d_S_ofByteAndLong_13 : decode c_S_ofByteAndLong 13 = .ok (.invokevirtual 55, 3) := by decide +kernel
theorem d_S_ofByteAndLong_16 : decode c_S_ofByteAndLong 16 = .ok (.aload_n 0, 1) := by decide +kernel
theorem d_S_ofByteAndLong_17 : decode c_S_ofByteAndLong 17 = .ok (.invokevirtual 59, 3) := by decide +kernel
theorem d_S_ofByteAndLong_20 : decode c_S_ofByteAndLong 20 = .ok (.return_, 1) := by decide +kernel
theorem d_S_putRow_0 : decode c_S_putRow 0 = .ok (.iconst 0, 1) := by decide +kernel
theorem d_S_putRow_1 : decode c_S_putRow 1 = .ok (.istore_n 2, 1) := by decide +kernel
theorem d_S_putRow_2 : decode c_S_putRow 2 = .ok (.iload_n 2, 1) := by decide +kernel
theorem d_S_putRow_3 : decode c_S_putRow 3 = .ok (.aload_n 1, 1) := by decide +kernel
theorem d_S_putRow_4 : decode c_S_putRow 4 = .ok (.arraylength, 1) := by decide +kernel
theorem d_S_putRow_5 : decode c_S_putRow 5 = .ok (.if_icmp .ge 16, 3) := by decide +kernel
theorem d_S_putRow_8 : decode c_S_putRow 8 = .ok (.aload_n 0, 1) := by decide +kernel
theorem d_S_putRow_9 : decode c_S_putRow 9 = .ok (.aload_n 1, 1) := by decide +kernel
theorem d_S_putRow_10 : decode c_S_putRow 10 = .ok (.iload_n 2, 1) := by decide +kernel
theorem d_S_putRow_11 : decode c_S_putRow 11 = .ok (.iaload, 1) := by decide +kernel
theorem d_S_putRow_12 : decode c_S_putRow 12 = .ok (.invokevirtual 33, 3) := by decide +kernel
theorem d_S_putRow_15 : decode c_S_putRow 15 = .ok (.iinc 2 1, 3) := by decide +kernel
theorem d_S_putRow_18 : decode c_S_putRow 18 = .ok (.goto (-16), 3) := by decide +kernel
theorem d_S_putRow_21 : decode c_S_putRow 21 = .ok (.return_, 1) := by decide +kernel
theorem d_S_ofRowAndLong_0 : decode c_S_ofRowAndLong 0 = .ok (.aload_n 0, 1) := by decide +kernel
theorem d_S_ofRowAndLong_1 : decode c_S_ofRowAndLong 1 = .ok (.invokevirtual 52, 3) := by decide +kernel
theorem d_S_ofRowAndLong_4 : decode c_S_ofRowAndLong 4 = .ok (.aload_n 0, 1) := by decide +kernel
theorem d_S_ofRowAndLong_5 : decode c_S_ofRowAndLong 5 = .ok (.aload_n 1, 1) := by decide +kernel
theorem d_S_ofRowAndLong_6 : decode c_S_ofRowAndLong 6 = .ok (.invokevirtual 66, 3) := by decide +kernel
theorem d_S_ofRowAndLong_9 : decode c_S_ofRowAndLong 9 = .ok (.aload_n 0, 1) := by decide +kernel
theorem d_S_ofRowAndLong_10 : decode c_S_ofRowAndLong 10 = .ok (.lload_n 2, 1) := by decide +kernel
theorem d_S_ofRowAndLong_11 : decode c_S_ofRowAndLong 11 = .ok (.bipush 8, 2) := by decide +kernel
theorem d_S_ofRowAndLong_13 : decode c_S_ofRowAndLong 13 = .ok (.invokevirtual 55, 3) := by decide +kernel
theorem d_S_ofRowAndLong_16 : decode c_S_ofRowAndLong 16 = .ok (.aload_n 0, 1) := by decide +kernel
theorem d_S_ofRowAndLong_17 : decode c_S_ofRowAndLong 17 = .ok (.invokevirtual 59, 3) := by decide +kernel
theorem d_S_ofRowAndLong_20 : decode c_S_ofRowAndLong 20 = .ok (.aload_n 0, 1) := by decide +kernel
theorem d_S_ofRowAndLong_21 : decode c_S_ofRowAndLong 21 = .ok (.iconst 0, 1) := by decide +kernel
theorem d_S_ofRowAndLong_22 : decode c_S_ofRowAndLong 22 = .ok (.invokevirtual 62, 3) := by decide +kernel
theorem d_S_ofRowAndLong_25 : decode c_S_ofRowAndLong 25 = .ok (.lreturn, 1) := by decide +kernel
end DC
