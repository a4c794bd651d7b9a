section DC
theorem d_L_init_0 : decode c_L_init 0 = .ok (.aload_n 0, 1) := by decide +kernel
theorem d_L_init_1 : decode c_L_init 1 = .ok (.invokespecial 1, 3) := by decide +kernel
theorem d_L_init_4 : decode c_L_init 4 = .ok (.aload_n 0, 1) := by decide +kernel
theorem d_L_init_5 : decode c_L_init 5 = .ok (.iconst 4, 1) := by decide +kernel
theorem d_L_init_6 : decode c_L_init 6 = .ok (.anewarray 9, 3) := by decide +kernel
theorem d_L_init_9 : decode c_L_init 9 = .ok (.putfield 11, 3) := by decide +kernel
theorem d_L_init_12 : decode c_L_init 12 = .ok (.aload_n 0, 1) := by decide +kernel
theorem d_L_init_13 : decode c_L_init 13 = .ok (.iconst 4, 1) := by decide +kernel
theorem d_L_init_14 : decode c_L_init 14 = .ok (.anewarray 15, 3) := by decide +kernel
theorem d_L_init_17 : decode c_L_init 17 = .ok (.putfield 17, 3) := by decide +kernel
theorem d_L_init_20 : decode c_L_init 20 = .ok (.aload_n 0, 1) := by decide +kernel
theorem d_L_init_21 : decode c_L_init 21 = .ok (.new 21, 3) := by decide +kernel
theorem d_L_init_24 : decode c_L_init 24 = .ok (.dup, 1) := by decide +kernel
theorem d_L_init_25 : decode c_L_init 25 = .ok (.invokespecial 23, 3) := by decide +kernel
theorem d_L_init_28 : decode c_L_init 28 = .ok (.putfield 24, 3) := by decide +kernel
theorem d_L_init_31 : decode c_L_init 31 = .ok (.iconst 0, 1) := by decide +kernel
theorem d_L_init_32 : decode c_L_init 32 = .ok (.istore_n 1, 1) := by decide +kernel
theorem d_L_init_33 : decode c_L_init 33 = .ok (.iload_n 1, 1) := by decide +kernel
theorem d_L_init_34 : decode c_L_init 34 = .ok (.iconst 4, 1) := by decide +kernel
theorem d_L_init_35 : decode c_L_init 35 = .ok (.if_icmp .ge 35, 3) := by decide +kernel
theorem d_L_init_38 : decode c_L_init 38 = .ok (.aload_n 0, 1) := by decide +kernel
theorem d_L_init_39 : decode c_L_init 39 = .ok (.getfield 11, 3) := by decide +kernel
theorem d_L_init_42 : decode c_L_init 42 = .ok (.iload_n 1, 1) := by decide +kernel
theorem d_L_init_43 : decode c_L_init 43 = .ok (.new 9, 3) := by decide +kernel
theorem d_L_init_46 : decode c_L_init 46 = .ok (.dup, 1) := by decide +kernel
theorem d_L_init_47 : decode c_L_init 47 = .ok (.invokespecial 28, 3) := by decide +kernel
theorem d_L_init_50 : decode c_L_init 50 = .ok (.aastore, 1) := by decide +kernel
theorem d_L_init_51 : decode c_L_init 51 = .ok (.aload_n 0, 1) := by decide +kernel
theorem d_L_init_52 : decode c_L_init 52 = .ok (.getfield 17, 3) := by decide +kernel
theorem d_L_init_55 : decode c_L_init 55 = .ok (.iload_n 1, 1) := by decide +kernel
theorem d_L_init_56 : decode c_L_init 56 = .ok (.new 15, 3) := by decide +kernel
theorem d_L_init_59 : decode c_L_init 59 = .ok (.dup, 1) := by decide +kernel
theorem d_L_init_60 : decode c_L_init 60 = .ok (.invokespecial 29, 3) := by decide +kernel
theorem d_L_init_63 : decode c_L_init 63 = .ok (.aastore, 1) := by decide +kernel
theorem d_L_init_64 : decode c_L_init 64 = .ok (.iinc 1 1, 3) := by decide +kernel
theorem d_L_init_67 : decode c_L_init 67 = .ok (.goto (-34), 3) := by decide +kernel
theorem d_L_init_70 : decode c_L_init 70 = .ok (.return_, 1) := by decide +kernel
theorem d_L_make_0 : decode c_L_make 0 = .ok (.iload_n 1, 1) := by decide +kernel
theorem d_L_make_1 : decode c_L_make 1 = .ok (.invokestatic 30, 3) := by decide +kernel
theorem d_L_make_4 : decode c_L_make 4 = .ok (.aload_n 0, 1) := by decide +kernel
theorem d_L_make_5 : decode c_L_make 5 = .ok (.getfield 11, 3) := by decide +kernel
theorem d_L_make_8 : decode c_L_make 8 = .ok (.iload_n 1, 1) := by decide +kernel
theorem d_L_make_9 : decode c_L_make 9 = .ok (.aaload, 1) := by decide +kernel
theorem d_L_make_10 : decode c_L_make 10 = .ok (.lload_n 2, 1) := by decide +kernel
theorem d_L_make_11 : decode c_L_make 11 = .ok (.lload 4, 2) := by decide +kernel
theorem d_L_make_13 : decode c_L_make 13 = .ok (.lload 6, 2) := by decide +kernel
theorem d_L_make_15 : decode c_L_make 15 = .ok (.aload_n 0, 1) := by decide +kernel
theorem d_L_make_16 : decode c_L_make 16 = .ok (.getfield 24, 3) := by decide +kernel
theorem d_L_make_19 : decode c_L_make 19 = .ok (.getfield 34, 3) := by decide +kernel
theorem d_L_make_22 : decode c_L_make 22 = .ok (.invokevirtual 38, 3) := by decide +kernel
theorem d_L_make_25 : decode c_L_make 25 = .ok (.aload_n 0, 1) := by decide +kernel
theorem d_L_make_26 : decode c_L_make 26 = .ok (.getfield 11, 3) := by decide +kernel
theorem d_L_make_29 : decode c_L_make 29 = .ok (.iload_n 1, 1) := by decide +kernel
theorem d_L_make_30 : decode c_L_make 30 = .ok (.aaload, 1) := by decide +kernel
theorem d_L_make_31 : decode c_L_make 31 = .ok (.getfield 42, 3) := by decide +kernel
theorem d_L_make_34 : decode c_L_make 34 = .ok (.lreturn, 1) := by decide +kernel
theorem d_L_refuseNoPlace_0 : decode c_L_refuseNoPlace 0 = .ok (.iload_n 0, 1) := by decide +kernel
theorem d_L_refuseNoPlace_1 : decode c_L_refuseNoPlace 1 = .ok (.ifCond .lt 8, 3) := by decide +kernel
theorem d_L_refuseNoPlace_4 : decode c_L_refuseNoPlace 4 = .ok (.iload_n 0, 1) := by decide +kernel
theorem d_L_refuseNoPlace_5 : decode c_L_refuseNoPlace 5 = .ok (.iconst 4, 1) := by decide +kernel
theorem d_L_refuseNoPlace_6 : decode c_L_refuseNoPlace 6 = .ok (.if_icmp .lt 13, 3) := by decide +kernel
theorem d_L_refuseNoPlace_9 : decode c_L_refuseNoPlace 9 = .ok (.new 137, 3) := by decide +kernel
theorem d_L_refuseNoPlace_12 : decode c_L_refuseNoPlace 12 = .ok (.dup, 1) := by decide +kernel
theorem d_L_refuseNoPlace_13 : decode c_L_refuseNoPlace 13 = .ok (.ldc 139, 2) := by decide +kernel
theorem d_L_refuseNoPlace_15 : decode c_L_refuseNoPlace 15 = .ok (.invokespecial 141, 3) := by decide +kernel
theorem d_L_refuseNoPlace_18 : decode c_L_refuseNoPlace 18 = .ok (.athrow, 1) := by decide +kernel
theorem d_L_refuseNoPlace_19 : decode c_L_refuseNoPlace 19 = .ok (.return_, 1) := by decide +kernel
theorem d_L_wrap_0 : decode c_L_wrap 0 = .ok (.iload_n 1, 1) := by decide +kernel
theorem d_L_wrap_1 : decode c_L_wrap 1 = .ok (.invokestatic 30, 3) := by decide +kernel
theorem d_L_wrap_4 : decode c_L_wrap 4 = .ok (.iload_n 2, 1) := by decide +kernel
theorem d_L_wrap_5 : decode c_L_wrap 5 = .ok (.invokestatic 30, 3) := by decide +kernel
theorem d_L_wrap_8 : decode c_L_wrap 8 = .ok (.aload_n 0, 1) := by decide +kernel
theorem d_L_wrap_9 : decode c_L_wrap 9 = .ok (.getfield 11, 3) := by decide +kernel
theorem d_L_wrap_12 : decode c_L_wrap 12 = .ok (.iload_n 2, 1) := by decide +kernel
theorem d_L_wrap_13 : decode c_L_wrap 13 = .ok (.aaload, 1) := by decide +kernel
theorem d_L_wrap_14 : decode c_L_wrap 14 = .ok (.getfield 46, 3) := by decide +kernel
theorem d_L_wrap_17 : decode c_L_wrap 17 = .ok (.invokestatic 50, 3) := by decide +kernel
theorem d_L_wrap_20 : decode c_L_wrap 20 = .ok (.aload_n 0, 1) := by decide +kernel
theorem d_L_wrap_21 : decode c_L_wrap 21 = .ok (.getfield 24, 3) := by decide +kernel
theorem d_L_wrap_24 : decode c_L_wrap 24 = .ok (.iload_n 3, 1) := by decide +kernel
theorem d_L_wrap_25 : decode c_L_wrap 25 = .ok (.aload_n 0, 1) := by decide +kernel
theorem d_L_wrap_26 : decode c_L_wrap 26 = .ok (.getfield 11, 3) := by decide +kernel
theorem d_L_wrap_29 : decode c_L_wrap 29 = .ok (.iload_n 2, 1) := by decide +kernel
theorem d_L_wrap_30 : decode c_L_wrap 30 = .ok (.aaload, 1) := by decide +kernel
theorem d_L_wrap_31 : decode c_L_wrap 31 = .ok (.aload_n 0, 1) := by decide +kernel
theorem d_L_wrap_32 : decode c_L_wrap 32 = .ok (.getfield 17, 3) := by decide +kernel
theorem d_L_wrap_35 : decode c_L_wrap 35 = .ok (.iload_n 1, 1) := by decide +kernel
theorem d_L_wrap_36 : decode c_L_wrap 36 = .ok (.aaload, 1) := by decide +kernel
theorem d_L_wrap_37 : decode c_L_wrap 37 = .ok (.getfield 54, 3) := by decide +kernel
theorem d_L_wrap_40 : decode c_L_wrap 40 = .ok (.invokevirtual 58, 3) := by decide +kernel
theorem d_L_wrap_43 : decode c_L_wrap 43 = .ok (.lstore 4, 2) := by decide +kernel
theorem d_L_wrap_45 : decode c_L_wrap 45 = .ok (.aload_n 0, 1) := by decide +kernel
theorem d_L_wrap_46 : decode c_L_wrap 46 = .ok (.getfield 17, 3) := by decide +kernel
theorem d_L_wrap_49 : decode c_L_wrap 49 = .ok (.iload_n 1, 1) := by decide +kernel
theorem d_L_wrap_50 : decode c_L_wrap 50 = .ok (.aaload, 1) := by decide +kernel
theorem d_L_wrap_51 : decode c_L_wrap 51 = .ok (.iconst 1, 1) := by decide +kernel
theorem d_L_wrap_52 : decode c_L_wrap 52 = .ok (.putfield 62, 3) := by decide +kernel
theorem d_L_wrap_55 : decode c_L_wrap 55 = .ok (.lload 4, 2) := by decide +kernel
theorem d_L_wrap_57 : decode c_L_wrap 57 = .ok (.lreturn, 1) := by decide +kernel
theorem d_L_refuseEmpty_0 : decode c_L_refuseEmpty 0 = .ok (.iload_n 0, 1) := by decide +kernel
theorem d_L_refuseEmpty_1 : decode c_L_refuseEmpty 1 = .ok (.ifCond .ne 13, 3) := by decide +kernel
theorem d_L_refuseEmpty_4 : decode c_L_refuseEmpty 4 = .ok (.new 148, 3) := by decide +kernel
theorem d_L_refuseEmpty_7 : decode c_L_refuseEmpty 7 = .ok (.dup, 1) := by decide +kernel
theorem d_L_refuseEmpty_8 : decode c_L_refuseEmpty 8 = .ok (.ldc 150, 2) := by decide +kernel
theorem d_L_refuseEmpty_10 : decode c_L_refuseEmpty 10 = .ok (.invokespecial 152, 3) := by decide +kernel
theorem d_L_refuseEmpty_13 : decode c_L_refuseEmpty 13 = .ok (.athrow, 1) := by decide +kernel
theorem d_L_refuseEmpty_14 : decode c_L_refuseEmpty 14 = .ok (.return_, 1) := by decide +kernel
theorem d_L_unwrap_0 : decode c_L_unwrap 0 = .ok (.aload_n 0, 1) := by decide +kernel
theorem d_L_unwrap_1 : decode c_L_unwrap 1 = .ok (.iload_n 1, 1) := by decide +kernel
theorem d_L_unwrap_2 : decode c_L_unwrap 2 = .ok (.iload_n 2, 1) := by decide +kernel
theorem d_L_unwrap_3 : decode c_L_unwrap 3 = .ok (.invokevirtual 63, 3) := by decide +kernel
theorem d_L_unwrap_6 : decode c_L_unwrap 6 = .ok (.aload_n 0, 1) := by decide +kernel
theorem d_L_unwrap_7 : decode c_L_unwrap 7 = .ok (.getfield 24, 3) := by decide +kernel
theorem d_L_unwrap_10 : decode c_L_unwrap 10 = .ok (.aload_n 0, 1) := by decide +kernel
theorem d_L_unwrap_11 : decode c_L_unwrap 11 = .ok (.getfield 17, 3) := by decide +kernel
theorem d_L_unwrap_14 : decode c_L_unwrap 14 = .ok (.iload_n 1, 1) := by decide +kernel
theorem d_L_unwrap_15 : decode c_L_unwrap 15 = .ok (.aaload, 1) := by decide +kernel
theorem d_L_unwrap_16 : decode c_L_unwrap 16 = .ok (.getfield 54, 3) := by decide +kernel
theorem d_L_unwrap_19 : decode c_L_unwrap 19 = .ok (.aload_n 0, 1) := by decide +kernel
theorem d_L_unwrap_20 : decode c_L_unwrap 20 = .ok (.getfield 11, 3) := by decide +kernel
theorem d_L_unwrap_23 : decode c_L_unwrap 23 = .ok (.iload_n 2, 1) := by decide +kernel
theorem d_L_unwrap_24 : decode c_L_unwrap 24 = .ok (.aaload, 1) := by decide +kernel
theorem d_L_unwrap_25 : decode c_L_unwrap 25 = .ok (.invokevirtual 67, 3) := by decide +kernel
theorem d_L_unwrap_28 : decode c_L_unwrap 28 = .ok (.lreturn, 1) := by decide +kernel
theorem d_L_refuseUnreadable_0 : decode c_L_refuseUnreadable 0 = .ok (.iload_n 1, 1) := by decide +kernel
theorem d_L_refuseUnreadable_1 : decode c_L_refuseUnreadable 1 = .ok (.invokestatic 30, 3) := by decide +kernel
theorem d_L_refuseUnreadable_4 : decode c_L_refuseUnreadable 4 = .ok (.iload_n 2, 1) := by decide +kernel
theorem d_L_refuseUnreadable_5 : decode c_L_refuseUnreadable 5 = .ok (.invokestatic 30, 3) := by decide +kernel
theorem d_L_refuseUnreadable_8 : decode c_L_refuseUnreadable 8 = .ok (.aload_n 0, 1) := by decide +kernel
theorem d_L_refuseUnreadable_9 : decode c_L_refuseUnreadable 9 = .ok (.getfield 17, 3) := by decide +kernel
theorem d_L_refuseUnreadable_12 : decode c_L_refuseUnreadable 12 = .ok (.iload_n 1, 1) := by decide +kernel
theorem d_L_refuseUnreadable_13 : decode c_L_refuseUnreadable 13 = .ok (.aaload, 1) := by decide +kernel
theorem d_L_refuseUnreadable_14 : decode c_L_refuseUnreadable 14 = .ok (.getfield 62, 3) := by decide +kernel
theorem d_L_refuseUnreadable_17 : decode c_L_refuseUnreadable 17 = .ok (.invokestatic 50, 3) := by decide +kernel
theorem d_L_refuseUnreadable_20 : decode c_L_refuseUnreadable 20 = .ok (.aload_n 0, 1) := by decide +kernel
theorem d_L_refuseUnreadable_21 : decode c_L_refuseUnreadable 21 = .ok (.getfield 11, 3) := by decide +kernel
theorem d_L_refuseUnreadable_24 : decode c_L_refuseUnreadable 24 = .ok (.iload_n 2, 1) := by decide +kernel
theorem d_L_refuseUnreadable_25 : decode c_L_refuseUnreadable 25 = .ok (.aaload, 1) := by decide +kernel
theorem d_L_refuseUnreadable_26 : decode c_L_refuseUnreadable 26 = .ok (.getfield 46, 3) := by decide +kernel
theorem d_L_refuseUnreadable_29 : decode c_L_refuseUnreadable 29 = .ok (.invokestatic 50, 3) := by decide +kernel
theorem d_L_refuseUnreadable_32 : decode c_L_refuseUnreadable 32 = .ok (.return_, 1) := by decide +kernel
theorem d_L_change_0 : decode c_L_change 0 = .ok (.aload_n 0, 1) := by decide +kernel
theorem d_L_change_1 : decode c_L_change 1 = .ok (.iload_n 1, 1) := by decide +kernel
theorem d_L_change_2 : decode c_L_change 2 = .ok (.iload_n 2, 1) := by decide +kernel
theorem d_L_change_3 : decode c_L_change 3 = .ok (.invokevirtual 71, 3) := by decide +kernel
theorem d_L_change_6 : decode c_L_change 6 = .ok (.aload_n 0, 1) := by decide +kernel
theorem d_L_change_7 : decode c_L_change 7 = .ok (.getfield 17, 3) := by decide +kernel
theorem d_L_change_10 : decode c_L_change 10 = .ok (.iload_n 1, 1) := by decide +kernel
theorem d_L_change_11 : decode c_L_change 11 = .ok (.aaload, 1) := by decide +kernel
theorem d_L_change_12 : decode c_L_change 12 = .ok (.getfield 54, 3) := by decide +kernel
theorem d_L_change_15 : decode c_L_change 15 = .ok (.iload_n 2, 1) := by decide +kernel
theorem d_L_change_16 : decode c_L_change 16 = .ok (.dup2, 1) := by decide +kernel
theorem d_L_change_17 : decode c_L_change 17 = .ok (.iaload, 1) := by decide +kernel
theorem d_L_change_18 : decode c_L_change 18 = .ok (.iload_n 3, 1) := by decide +kernel
theorem d_L_change_19 : decode c_L_change 19 = .ok (.sipush 255, 3) := by decide +kernel
theorem d_L_change_22 : decode c_L_change 22 = .ok (.iand, 1) := by decide +kernel
theorem d_L_change_23 : decode c_L_change 23 = .ok (.ixor, 1) := by decide +kernel
theorem d_L_change_24 : decode c_L_change 24 = .ok (.iastore, 1) := by decide +kernel
theorem d_L_change_25 : decode c_L_change 25 = .ok (.aload_n 0, 1) := by decide +kernel
theorem d_L_change_26 : decode c_L_change 26 = .ok (.getfield 17, 3) := by decide +kernel
theorem d_L_change_29 : decode c_L_change 29 = .ok (.iload_n 1, 1) := by decide +kernel
theorem d_L_change_30 : decode c_L_change 30 = .ok (.aaload, 1) := by decide +kernel
theorem d_L_change_31 : decode c_L_change 31 = .ok (.getfield 54, 3) := by decide +kernel
theorem d_L_change_34 : decode c_L_change 34 = .ok (.iload_n 2, 1) := by decide +kernel
theorem d_L_change_35 : decode c_L_change 35 = .ok (.iaload, 1) := by decide +kernel
theorem d_L_change_36 : decode c_L_change 36 = .ok (.ireturn, 1) := by decide +kernel
theorem d_L_refuseNoWrapByte_0 : decode c_L_refuseNoWrapByte 0 = .ok (.iload_n 1, 1) := by decide +kernel
theorem d_L_refuseNoWrapByte_1 : decode c_L_refuseNoWrapByte 1 = .ok (.invokestatic 30, 3) := by decide +kernel
theorem d_L_refuseNoWrapByte_4 : decode c_L_refuseNoWrapByte 4 = .ok (.aload_n 0, 1) := by decide +kernel
theorem d_L_refuseNoWrapByte_5 : decode c_L_refuseNoWrapByte 5 = .ok (.getfield 17, 3) := by decide +kernel
theorem d_L_refuseNoWrapByte_8 : decode c_L_refuseNoWrapByte 8 = .ok (.iload_n 1, 1) := by decide +kernel
theorem d_L_refuseNoWrapByte_9 : decode c_L_refuseNoWrapByte 9 = .ok (.aaload, 1) := by decide +kernel
theorem d_L_refuseNoWrapByte_10 : decode c_L_refuseNoWrapByte 10 = .ok (.getfield 62, 3) := by decide +kernel
theorem d_L_refuseNoWrapByte_13 : decode c_L_refuseNoWrapByte 13 = .ok (.invokestatic 50, 3) := by decide +kernel
theorem d_L_refuseNoWrapByte_16 : decode c_L_refuseNoWrapByte 16 = .ok (.iload_n 2, 1) := by decide +kernel
theorem d_L_refuseNoWrapByte_17 : decode c_L_refuseNoWrapByte 17 = .ok (.ifCond .lt 13, 3) := by decide +kernel
theorem d_L_refuseNoWrapByte_20 : decode c_L_refuseNoWrapByte 20 = .ok (.iload_n 2, 1) := by decide +kernel
theorem d_L_refuseNoWrapByte_21 : decode c_L_refuseNoWrapByte 21 = .ok (.bipush 90, 2) := by decide +kernel
theorem d_L_refuseNoWrapByte_23 : decode c_L_refuseNoWrapByte 23 = .ok (.if_icmp .ge 7, 3) := by decide +kernel
theorem d_L_refuseNoWrapByte_26 : decode c_L_refuseNoWrapByte 26 = .ok (.iconst 1, 1) := by decide +kernel
theorem d_L_refuseNoWrapByte_27 : decode c_L_refuseNoWrapByte 27 = .ok (.goto 4, 3) := by decide +kernel
theorem d_L_refuseNoWrapByte_30 : decode c_L_refuseNoWrapByte 30 = .ok (.iconst 0, 1) := by decide +kernel
theorem d_L_refuseNoWrapByte_31 : decode c_L_refuseNoWrapByte 31 = .ok (.invokestatic 80, 3) := by decide +kernel
theorem d_L_refuseNoWrapByte_34 : decode c_L_refuseNoWrapByte 34 = .ok (.return_, 1) := by decide +kernel
theorem d_L_refuseOutside_0 : decode c_L_refuseOutside 0 = .ok (.iload_n 0, 1) := by decide +kernel
theorem d_L_refuseOutside_1 : decode c_L_refuseOutside 1 = .ok (.ifCond .ne 13, 3) := by decide +kernel
theorem d_L_refuseOutside_4 : decode c_L_refuseOutside 4 = .ok (.new 153, 3) := by decide +kernel
theorem d_L_refuseOutside_7 : decode c_L_refuseOutside 7 = .ok (.dup, 1) := by decide +kernel
theorem d_L_refuseOutside_8 : decode c_L_refuseOutside 8 = .ok (.ldc 155, 2) := by decide +kernel
theorem d_L_refuseOutside_10 : decode c_L_refuseOutside 10 = .ok (.invokespecial 157, 3) := by decide +kernel
theorem d_L_refuseOutside_13 : decode c_L_refuseOutside 13 = .ok (.athrow, 1) := by decide +kernel
theorem d_L_refuseOutside_14 : decode c_L_refuseOutside 14 = .ok (.return_, 1) := by decide +kernel
theorem d_L_copy_0 : decode c_L_copy 0 = .ok (.iload_n 1, 1) := by decide +kernel
theorem d_L_copy_1 : decode c_L_copy 1 = .ok (.invokestatic 30, 3) := by decide +kernel
theorem d_L_copy_4 : decode c_L_copy 4 = .ok (.iload_n 2, 1) := by decide +kernel
theorem d_L_copy_5 : decode c_L_copy 5 = .ok (.invokestatic 30, 3) := by decide +kernel
theorem d_L_copy_8 : decode c_L_copy 8 = .ok (.aload_n 0, 1) := by decide +kernel
theorem d_L_copy_9 : decode c_L_copy 9 = .ok (.getfield 17, 3) := by decide +kernel
theorem d_L_copy_12 : decode c_L_copy 12 = .ok (.iload_n 1, 1) := by decide +kernel
theorem d_L_copy_13 : decode c_L_copy 13 = .ok (.aaload, 1) := by decide +kernel
theorem d_L_copy_14 : decode c_L_copy 14 = .ok (.getfield 62, 3) := by decide +kernel
theorem d_L_copy_17 : decode c_L_copy 17 = .ok (.invokestatic 50, 3) := by decide +kernel
theorem d_L_copy_20 : decode c_L_copy 20 = .ok (.aload_n 0, 1) := by decide +kernel
theorem d_L_copy_21 : decode c_L_copy 21 = .ok (.getfield 17, 3) := by decide +kernel
theorem d_L_copy_24 : decode c_L_copy 24 = .ok (.iload_n 1, 1) := by decide +kernel
theorem d_L_copy_25 : decode c_L_copy 25 = .ok (.aaload, 1) := by decide +kernel
theorem d_L_copy_26 : decode c_L_copy 26 = .ok (.getfield 54, 3) := by decide +kernel
theorem d_L_copy_29 : decode c_L_copy 29 = .ok (.iconst 0, 1) := by decide +kernel
theorem d_L_copy_30 : decode c_L_copy 30 = .ok (.aload_n 0, 1) := by decide +kernel
theorem d_L_copy_31 : decode c_L_copy 31 = .ok (.getfield 17, 3) := by decide +kernel
theorem d_L_copy_34 : decode c_L_copy 34 = .ok (.iload_n 2, 1) := by decide +kernel
theorem d_L_copy_35 : decode c_L_copy 35 = .ok (.aaload, 1) := by decide +kernel
theorem d_L_copy_36 : decode c_L_copy 36 = .ok (.getfield 54, 3) := by decide +kernel
theorem d_L_copy_39 : decode c_L_copy 39 = .ok (.iconst 0, 1) := by decide +kernel
theorem d_L_copy_40 : decode c_L_copy 40 = .ok (.bipush 90, 2) := by decide +kernel
theorem d_L_copy_42 : decode c_L_copy 42 = .ok (.invokestatic 74, 3) := by decide +kernel
theorem d_L_copy_45 : decode c_L_copy 45 = .ok (.aload_n 0, 1) := by decide +kernel
theorem d_L_copy_46 : decode c_L_copy 46 = .ok (.getfield 17, 3) := by decide +kernel
theorem d_L_copy_49 : decode c_L_copy 49 = .ok (.iload_n 2, 1) := by decide +kernel
theorem d_L_copy_50 : decode c_L_copy 50 = .ok (.aaload, 1) := by decide +kernel
theorem d_L_copy_51 : decode c_L_copy 51 = .ok (.iconst 1, 1) := by decide +kernel
theorem d_L_copy_52 : decode c_L_copy 52 = .ok (.putfield 62, 3) := by decide +kernel
theorem d_L_copy_55 : decode c_L_copy 55 = .ok (.return_, 1) := by decide +kernel
theorem d_L_forget_0 : decode c_L_forget 0 = .ok (.iload_n 2, 1) := by decide +kernel
theorem d_L_forget_1 : decode c_L_forget 1 = .ok (.invokestatic 30, 3) := by decide +kernel
theorem d_L_forget_4 : decode c_L_forget 4 = .ok (.iload_n 1, 1) := by decide +kernel
theorem d_L_forget_5 : decode c_L_forget 5 = .ok (.ifCond .eq 15, 3) := by decide +kernel
theorem d_L_forget_8 : decode c_L_forget 8 = .ok (.aload_n 0, 1) := by decide +kernel
theorem d_L_forget_9 : decode c_L_forget 9 = .ok (.getfield 11, 3) := by decide +kernel
theorem d_L_forget_12 : decode c_L_forget 12 = .ok (.iload_n 2, 1) := by decide +kernel
theorem d_L_forget_13 : decode c_L_forget 13 = .ok (.aaload, 1) := by decide +kernel
theorem d_L_forget_14 : decode c_L_forget 14 = .ok (.getfield 46, 3) := by decide +kernel
theorem d_L_forget_17 : decode c_L_forget 17 = .ok (.goto 12, 3) := by decide +kernel
theorem d_L_forget_20 : decode c_L_forget 20 = .ok (.aload_n 0, 1) := by decide +kernel
theorem d_L_forget_21 : decode c_L_forget 21 = .ok (.getfield 17, 3) := by decide +kernel
theorem d_L_forget_24 : decode c_L_forget 24 = .ok (.iload_n 2, 1) := by decide +kernel
theorem d_L_forget_25 : decode c_L_forget 25 = .ok (.aaload, 1) := by decide +kernel
theorem d_L_forget_26 : decode c_L_forget 26 = .ok (.getfield 62, 3) := by decide +kernel
theorem d_L_forget_29 : decode c_L_forget 29 = .ok (.istore_n 3, 1) := by decide +kernel
theorem d_L_forget_30 : decode c_L_forget 30 = .ok (.iload_n 1, 1) := by decide +kernel
theorem d_L_forget_31 : decode c_L_forget 31 = .ok (.ifCond .eq 16, 3) := by decide +kernel
theorem d_L_forget_34 : decode c_L_forget 34 = .ok (.aload_n 0, 1) := by decide +kernel
theorem d_L_forget_35 : decode c_L_forget 35 = .ok (.getfield 11, 3) := by decide +kernel
theorem d_L_forget_38 : decode c_L_forget 38 = .ok (.iload_n 2, 1) := by decide +kernel
theorem d_L_forget_39 : decode c_L_forget 39 = .ok (.aaload, 1) := by decide +kernel
theorem d_L_forget_40 : decode c_L_forget 40 = .ok (.iconst 0, 1) := by decide +kernel
theorem d_L_forget_41 : decode c_L_forget 41 = .ok (.putfield 46, 3) := by decide +kernel
theorem d_L_forget_44 : decode c_L_forget 44 = .ok (.goto 13, 3) := by decide +kernel
theorem d_L_forget_47 : decode c_L_forget 47 = .ok (.aload_n 0, 1) := by decide +kernel
theorem d_L_forget_48 : decode c_L_forget 48 = .ok (.getfield 17, 3) := by decide +kernel
theorem d_L_forget_51 : decode c_L_forget 51 = .ok (.iload_n 2, 1) := by decide +kernel
theorem d_L_forget_52 : decode c_L_forget 52 = .ok (.aaload, 1) := by decide +kernel
theorem d_L_forget_53 : decode c_L_forget 53 = .ok (.iconst 0, 1) := by decide +kernel
theorem d_L_forget_54 : decode c_L_forget 54 = .ok (.putfield 62, 3) := by decide +kernel
theorem d_L_forget_57 : decode c_L_forget 57 = .ok (.iload_n 3, 1) := by decide +kernel
theorem d_L_forget_58 : decode c_L_forget 58 = .ok (.ireturn, 1) := by decide +kernel
theorem d_L_wrapByte_0 : decode c_L_wrapByte 0 = .ok (.aload_n 0, 1) := by decide +kernel
theorem d_L_wrapByte_1 : decode c_L_wrapByte 1 = .ok (.iload_n 1, 1) := by decide +kernel
theorem d_L_wrapByte_2 : decode c_L_wrapByte 2 = .ok (.iload_n 2, 1) := by decide +kernel
theorem d_L_wrapByte_3 : decode c_L_wrapByte 3 = .ok (.invokevirtual 71, 3) := by decide +kernel
theorem d_L_wrapByte_6 : decode c_L_wrapByte 6 = .ok (.aload_n 0, 1) := by decide +kernel
theorem d_L_wrapByte_7 : decode c_L_wrapByte 7 = .ok (.getfield 17, 3) := by decide +kernel
theorem d_L_wrapByte_10 : decode c_L_wrapByte 10 = .ok (.iload_n 1, 1) := by decide +kernel
theorem d_L_wrapByte_11 : decode c_L_wrapByte 11 = .ok (.aaload, 1) := by decide +kernel
theorem d_L_wrapByte_12 : decode c_L_wrapByte 12 = .ok (.getfield 54, 3) := by decide +kernel
theorem d_L_wrapByte_15 : decode c_L_wrapByte 15 = .ok (.iload_n 2, 1) := by decide +kernel
theorem d_L_wrapByte_16 : decode c_L_wrapByte 16 = .ok (.iaload, 1) := by decide +kernel
theorem d_L_wrapByte_17 : decode c_L_wrapByte 17 = .ok (.ireturn, 1) := by decide +kernel
theorem d_L_publicByte_0 : decode c_L_publicByte 0 = .ok (.iload_n 1, 1) := by decide +kernel
theorem d_L_publicByte_1 : decode c_L_publicByte 1 = .ok (.invokestatic 30, 3) := by decide +kernel
theorem d_L_publicByte_4 : decode c_L_publicByte 4 = .ok (.aload_n 0, 1) := by decide +kernel
theorem d_L_publicByte_5 : decode c_L_publicByte 5 = .ok (.getfield 11, 3) := by decide +kernel
theorem d_L_publicByte_8 : decode c_L_publicByte 8 = .ok (.iload_n 1, 1) := by decide +kernel
theorem d_L_publicByte_9 : decode c_L_publicByte 9 = .ok (.aaload, 1) := by decide +kernel
theorem d_L_publicByte_10 : decode c_L_publicByte 10 = .ok (.getfield 46, 3) := by decide +kernel
theorem d_L_publicByte_13 : decode c_L_publicByte 13 = .ok (.invokestatic 50, 3) := by decide +kernel
theorem d_L_publicByte_16 : decode c_L_publicByte 16 = .ok (.iload_n 2, 1) := by decide +kernel
theorem d_L_publicByte_17 : decode c_L_publicByte 17 = .ok (.ifCond .lt 13, 3) := by decide +kernel
theorem d_L_publicByte_20 : decode c_L_publicByte 20 = .ok (.iload_n 2, 1) := by decide +kernel
theorem d_L_publicByte_21 : decode c_L_publicByte 21 = .ok (.bipush 68, 2) := by decide +kernel
theorem d_L_publicByte_23 : decode c_L_publicByte 23 = .ok (.if_icmp .ge 7, 3) := by decide +kernel
theorem d_L_publicByte_26 : decode c_L_publicByte 26 = .ok (.iconst 1, 1) := by decide +kernel
theorem d_L_publicByte_27 : decode c_L_publicByte 27 = .ok (.goto 4, 3) := by decide +kernel
theorem d_L_publicByte_30 : decode c_L_publicByte 30 = .ok (.iconst 0, 1) := by decide +kernel
theorem d_L_publicByte_31 : decode c_L_publicByte 31 = .ok (.invokestatic 80, 3) := by decide +kernel
theorem d_L_publicByte_34 : decode c_L_publicByte 34 = .ok (.aload_n 0, 1) := by decide +kernel
theorem d_L_publicByte_35 : decode c_L_publicByte 35 = .ok (.getfield 11, 3) := by decide +kernel
theorem d_L_publicByte_38 : decode c_L_publicByte 38 = .ok (.iload_n 1, 1) := by decide +kernel
theorem d_L_publicByte_39 : decode c_L_publicByte 39 = .ok (.aaload, 1) := by decide +kernel
theorem d_L_publicByte_40 : decode c_L_publicByte 40 = .ok (.getfield 83, 3) := by decide +kernel
theorem d_L_publicByte_43 : decode c_L_publicByte 43 = .ok (.iload_n 2, 1) := by decide +kernel
theorem d_L_publicByte_44 : decode c_L_publicByte 44 = .ok (.iaload, 1) := by decide +kernel
theorem d_L_publicByte_45 : decode c_L_publicByte 45 = .ok (.ireturn, 1) := by decide +kernel
theorem d_L_entry_0 : decode c_L_entry 0 = .ok (.iload_n 1, 1) := by decide +kernel
theorem d_L_entry_1 : decode c_L_entry 1 = .ok (.invokestatic 30, 3) := by decide +kernel
theorem d_L_entry_4 : decode c_L_entry 4 = .ok (.iload_n 2, 1) := by decide +kernel
theorem d_L_entry_5 : decode c_L_entry 5 = .ok (.invokestatic 86, 3) := by decide +kernel
theorem d_L_entry_8 : decode c_L_entry 8 = .ok (.aload_n 0, 1) := by decide +kernel
theorem d_L_entry_9 : decode c_L_entry 9 = .ok (.getfield 11, 3) := by decide +kernel
theorem d_L_entry_12 : decode c_L_entry 12 = .ok (.iload_n 1, 1) := by decide +kernel
theorem d_L_entry_13 : decode c_L_entry 13 = .ok (.aaload, 1) := by decide +kernel
theorem d_L_entry_14 : decode c_L_entry 14 = .ok (.getfield 46, 3) := by decide +kernel
theorem d_L_entry_17 : decode c_L_entry 17 = .ok (.invokestatic 50, 3) := by decide +kernel
theorem d_L_entry_20 : decode c_L_entry 20 = .ok (.aload_n 0, 1) := by decide +kernel
theorem d_L_entry_21 : decode c_L_entry 21 = .ok (.getfield 11, 3) := by decide +kernel
theorem d_L_entry_24 : decode c_L_entry 24 = .ok (.iload_n 1, 1) := by decide +kernel
theorem d_L_entry_25 : decode c_L_entry 25 = .ok (.aaload, 1) := by decide +kernel
theorem d_L_entry_26 : decode c_L_entry 26 = .ok (.iload_n 2, 1) := by decide +kernel
theorem d_L_entry_27 : decode c_L_entry 27 = .ok (.invokevirtual 89, 3) := by decide +kernel
theorem d_L_entry_30 : decode c_L_entry 30 = .ok (.astore 5, 2) := by decide +kernel
theorem d_L_entry_32 : decode c_L_entry 32 = .ok (.aload 5, 2) := by decide +kernel
theorem d_L_entry_34 : decode c_L_entry 34 = .ok (.iload_n 3, 1) := by decide +kernel
theorem d_L_entry_35 : decode c_L_entry 35 = .ok (.iload 4, 2) := by decide +kernel
theorem d_L_entry_37 : decode c_L_entry 37 = .ok (.invokevirtual 93, 3) := by decide +kernel
theorem d_L_entry_40 : decode c_L_entry 40 = .ok (.invokestatic 80, 3) := by decide +kernel
theorem d_L_entry_43 : decode c_L_entry 43 = .ok (.aload 5, 2) := by decide +kernel
theorem d_L_entry_45 : decode c_L_entry 45 = .ok (.iload_n 3, 1) := by decide +kernel
theorem d_L_entry_46 : decode c_L_entry 46 = .ok (.iload 4, 2) := by decide +kernel
theorem d_L_entry_48 : decode c_L_entry 48 = .ok (.invokevirtual 99, 3) := by decide +kernel
theorem d_L_entry_51 : decode c_L_entry 51 = .ok (.ireturn, 1) := by decide +kernel
theorem d_L_refuseNoMatrix_0 : decode c_L_refuseNoMatrix 0 = .ok (.iload_n 0, 1) := by decide +kernel
theorem d_L_refuseNoMatrix_1 : decode c_L_refuseNoMatrix 1 = .ok (.ifCond .lt 8, 3) := by decide +kernel
theorem d_L_refuseNoMatrix_4 : decode c_L_refuseNoMatrix 4 = .ok (.iload_n 0, 1) := by decide +kernel
theorem d_L_refuseNoMatrix_5 : decode c_L_refuseNoMatrix 5 = .ok (.iconst 3, 1) := by decide +kernel
theorem d_L_refuseNoMatrix_6 : decode c_L_refuseNoMatrix 6 = .ok (.if_icmp .le 13, 3) := by decide +kernel
theorem d_L_refuseNoMatrix_9 : decode c_L_refuseNoMatrix 9 = .ok (.new 137, 3) := by decide +kernel
theorem d_L_refuseNoMatrix_12 : decode c_L_refuseNoMatrix 12 = .ok (.dup, 1) := by decide +kernel
theorem d_L_refuseNoMatrix_13 : decode c_L_refuseNoMatrix 13 = .ok (.ldc 144, 2) := by decide +kernel
theorem d_L_refuseNoMatrix_15 : decode c_L_refuseNoMatrix 15 = .ok (.invokespecial 141, 3) := by decide +kernel
theorem d_L_refuseNoMatrix_18 : decode c_L_refuseNoMatrix 18 = .ok (.athrow, 1) := by decide +kernel
theorem d_L_refuseNoMatrix_19 : decode c_L_refuseNoMatrix 19 = .ok (.return_, 1) := by decide +kernel
theorem d_L_noise_0 : decode c_L_noise 0 = .ok (.aload_n 0, 1) := by decide +kernel
theorem d_L_noise_1 : decode c_L_noise 1 = .ok (.iload_n 1, 1) := by decide +kernel
theorem d_L_noise_2 : decode c_L_noise 2 = .ok (.iload_n 2, 1) := by decide +kernel
theorem d_L_noise_3 : decode c_L_noise 3 = .ok (.invokevirtual 63, 3) := by decide +kernel
theorem d_L_noise_6 : decode c_L_noise 6 = .ok (.aload_n 0, 1) := by decide +kernel
theorem d_L_noise_7 : decode c_L_noise 7 = .ok (.getfield 24, 3) := by decide +kernel
theorem d_L_noise_10 : decode c_L_noise 10 = .ok (.getfield 103, 3) := by decide +kernel
theorem d_L_noise_13 : decode c_L_noise 13 = .ok (.iload_n 3, 1) := by decide +kernel
theorem d_L_noise_14 : decode c_L_noise 14 = .ok (.iload 4, 2) := by decide +kernel
theorem d_L_noise_16 : decode c_L_noise 16 = .ok (.invokevirtual 93, 3) := by decide +kernel
theorem d_L_noise_19 : decode c_L_noise 19 = .ok (.invokestatic 80, 3) := by decide +kernel
theorem d_L_noise_22 : decode c_L_noise 22 = .ok (.aload_n 0, 1) := by decide +kernel
theorem d_L_noise_23 : decode c_L_noise 23 = .ok (.getfield 24, 3) := by decide +kernel
theorem d_L_noise_26 : decode c_L_noise 26 = .ok (.aload_n 0, 1) := by decide +kernel
theorem d_L_noise_27 : decode c_L_noise 27 = .ok (.getfield 17, 3) := by decide +kernel
theorem d_L_noise_30 : decode c_L_noise 30 = .ok (.iload_n 1, 1) := by decide +kernel
theorem d_L_noise_31 : decode c_L_noise 31 = .ok (.aaload, 1) := by decide +kernel
theorem d_L_noise_32 : decode c_L_noise 32 = .ok (.getfield 54, 3) := by decide +kernel
theorem d_L_noise_35 : decode c_L_noise 35 = .ok (.aload_n 0, 1) := by decide +kernel
theorem d_L_noise_36 : decode c_L_noise 36 = .ok (.getfield 11, 3) := by decide +kernel
theorem d_L_noise_39 : decode c_L_noise 39 = .ok (.iload_n 2, 1) := by decide +kernel
theorem d_L_noise_40 : decode c_L_noise 40 = .ok (.aaload, 1) := by decide +kernel
theorem d_L_noise_41 : decode c_L_noise 41 = .ok (.invokevirtual 107, 3) := by decide +kernel
theorem d_L_noise_44 : decode c_L_noise 44 = .ok (.aload_n 0, 1) := by decide +kernel
theorem d_L_noise_45 : decode c_L_noise 45 = .ok (.getfield 24, 3) := by decide +kernel
theorem d_L_noise_48 : decode c_L_noise 48 = .ok (.iload_n 3, 1) := by decide +kernel
theorem d_L_noise_49 : decode c_L_noise 49 = .ok (.iload 4, 2) := by decide +kernel
theorem d_L_noise_51 : decode c_L_noise 51 = .ok (.invokevirtual 111, 3) := by decide +kernel
theorem d_L_noise_54 : decode c_L_noise 54 = .ok (.ireturn, 1) := by decide +kernel
theorem d_L_read_0 : decode c_L_read 0 = .ok (.aload_n 0, 1) := by decide +kernel
theorem d_L_read_1 : decode c_L_read 1 = .ok (.iload_n 1, 1) := by decide +kernel
theorem d_L_read_2 : decode c_L_read 2 = .ok (.iload_n 2, 1) := by decide +kernel
theorem d_L_read_3 : decode c_L_read 3 = .ok (.invokevirtual 63, 3) := by decide +kernel
theorem d_L_read_6 : decode c_L_read 6 = .ok (.aload_n 0, 1) := by decide +kernel
theorem d_L_read_7 : decode c_L_read 7 = .ok (.getfield 24, 3) := by decide +kernel
theorem d_L_read_10 : decode c_L_read 10 = .ok (.aload_n 0, 1) := by decide +kernel
theorem d_L_read_11 : decode c_L_read 11 = .ok (.getfield 17, 3) := by decide +kernel
theorem d_L_read_14 : decode c_L_read 14 = .ok (.iload_n 1, 1) := by decide +kernel
theorem d_L_read_15 : decode c_L_read 15 = .ok (.aaload, 1) := by decide +kernel
theorem d_L_read_16 : decode c_L_read 16 = .ok (.getfield 54, 3) := by decide +kernel
theorem d_L_read_19 : decode c_L_read 19 = .ok (.aload_n 0, 1) := by decide +kernel
theorem d_L_read_20 : decode c_L_read 20 = .ok (.getfield 11, 3) := by decide +kernel
theorem d_L_read_23 : decode c_L_read 23 = .ok (.iload_n 2, 1) := by decide +kernel
theorem d_L_read_24 : decode c_L_read 24 = .ok (.aaload, 1) := by decide +kernel
theorem d_L_read_25 : decode c_L_read 25 = .ok (.invokevirtual 107, 3) := by decide +kernel
theorem d_L_read_28 : decode c_L_read 28 = .ok (.aload_n 0, 1) := by decide +kernel
theorem d_L_read_29 : decode c_L_read 29 = .ok (.getfield 24, 3) := by decide +kernel
theorem d_L_read_32 : decode c_L_read 32 = .ok (.invokevirtual 114, 3) := by decide +kernel
theorem d_L_read_35 : decode c_L_read 35 = .ok (.ireturn, 1) := by decide +kernel
theorem d_L_shake_0 : decode c_L_shake 0 = .ok (.iload_n 1, 1) := by decide +kernel
theorem d_L_shake_1 : decode c_L_shake 1 = .ok (.invokestatic 118, 3) := by decide +kernel
theorem d_L_shake_4 : decode c_L_shake 4 = .ok (.aload_n 0, 1) := by decide +kernel
theorem d_L_shake_5 : decode c_L_shake 5 = .ok (.getfield 24, 3) := by decide +kernel
theorem d_L_shake_8 : decode c_L_shake 8 = .ok (.getfield 34, 3) := by decide +kernel
theorem d_L_shake_11 : decode c_L_shake 11 = .ok (.invokevirtual 121, 3) := by decide +kernel
theorem d_L_shake_14 : decode c_L_shake 14 = .ok (.aload_n 0, 1) := by decide +kernel
theorem d_L_shake_15 : decode c_L_shake 15 = .ok (.getfield 24, 3) := by decide +kernel
theorem d_L_shake_18 : decode c_L_shake 18 = .ok (.getfield 34, 3) := by decide +kernel
theorem d_L_shake_21 : decode c_L_shake 21 = .ok (.lload_n 2, 1) := by decide +kernel
theorem d_L_shake_22 : decode c_L_shake 22 = .ok (.iload_n 1, 1) := by decide +kernel
theorem d_L_shake_23 : decode c_L_shake 23 = .ok (.invokevirtual 126, 3) := by decide +kernel
theorem d_L_shake_26 : decode c_L_shake 26 = .ok (.aload_n 0, 1) := by decide +kernel
theorem d_L_shake_27 : decode c_L_shake 27 = .ok (.getfield 24, 3) := by decide +kernel
theorem d_L_shake_30 : decode c_L_shake 30 = .ok (.getfield 34, 3) := by decide +kernel
theorem d_L_shake_33 : decode c_L_shake 33 = .ok (.invokevirtual 130, 3) := by decide +kernel
theorem d_L_shake_36 : decode c_L_shake 36 = .ok (.aload_n 0, 1) := by decide +kernel
theorem d_L_shake_37 : decode c_L_shake 37 = .ok (.getfield 24, 3) := by decide +kernel
theorem d_L_shake_40 : decode c_L_shake 40 = .ok (.getfield 34, 3) := by decide +kernel
theorem d_L_shake_43 : decode c_L_shake 43 = .ok (.iconst 0, 1) := by decide +kernel
theorem d_L_shake_44 : decode c_L_shake 44 = .ok (.invokevirtual 133, 3) := by decide +kernel
theorem d_L_shake_47 : decode c_L_shake 47 = .ok (.lreturn, 1) := by decide +kernel
theorem d_L_refuseNoLength_0 : decode c_L_refuseNoLength 0 = .ok (.iload_n 0, 1) := by decide +kernel
theorem d_L_refuseNoLength_1 : decode c_L_refuseNoLength 1 = .ok (.ifCond .lt 9, 3) := by decide +kernel
theorem d_L_refuseNoLength_4 : decode c_L_refuseNoLength 4 = .ok (.iload_n 0, 1) := by decide +kernel
theorem d_L_refuseNoLength_5 : decode c_L_refuseNoLength 5 = .ok (.bipush 8, 2) := by decide +kernel
theorem d_L_refuseNoLength_7 : decode c_L_refuseNoLength 7 = .ok (.if_icmp .le 13, 3) := by decide +kernel
theorem d_L_refuseNoLength_10 : decode c_L_refuseNoLength 10 = .ok (.new 137, 3) := by decide +kernel
theorem d_L_refuseNoLength_13 : decode c_L_refuseNoLength 13 = .ok (.dup, 1) := by decide +kernel
theorem d_L_refuseNoLength_14 : decode c_L_refuseNoLength 14 = .ok (.ldc 146, 2) := by decide +kernel
theorem d_L_refuseNoLength_16 : decode c_L_refuseNoLength 16 = .ok (.invokespecial 141, 3) := by decide +kernel
theorem d_L_refuseNoLength_19 : decode c_L_refuseNoLength 19 = .ok (.athrow, 1) := by decide +kernel
theorem d_L_refuseNoLength_20 : decode c_L_refuseNoLength 20 = .ok (.return_, 1) := by decide +kernel
end DC
