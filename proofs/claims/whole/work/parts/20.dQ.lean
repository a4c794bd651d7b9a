section DC
theorem d_Q_make_0 : decode c_Q_make 0 = .ok (.aload 8, 2) := by decide +kernel
theorem d_Q_make_2 : decode c_Q_make 2 = .ok (.iconst 0, 1) := by decide +kernel
theorem d_Q_make_3 : decode c_Q_make 3 = .ok (.aload_n 0, 1) := by decide +kernel
theorem d_Q_make_4 : decode c_Q_make 4 = .ok (.iload_n 1, 1) := by decide +kernel
theorem d_Q_make_5 : decode c_Q_make 5 = .ok (.lload_n 2, 1) := by decide +kernel
theorem d_Q_make_6 : decode c_Q_make 6 = .ok (.lload 4, 2) := by decide +kernel
theorem d_Q_make_8 : decode c_Q_make 8 = .ok (.lload 6, 2) := by decide +kernel
theorem d_Q_make_10 : decode c_Q_make 10 = .ok (.invokevirtual 7, 3) := by decide +kernel
theorem d_Q_make_13 : decode c_Q_make 13 = .ok (.lastore, 1) := by decide +kernel
theorem d_Q_make_14 : decode c_Q_make 14 = .ok (.goto 7, 3) := by decide +kernel
theorem d_Q_make_17 : decode c_Q_make 17 = .ok (.astore 9, 2) := by decide +kernel
theorem d_Q_make_19 : decode c_Q_make 19 = .ok (.iconst 1, 1) := by decide +kernel
theorem d_Q_make_20 : decode c_Q_make 20 = .ok (.ireturn, 1) := by decide +kernel
theorem d_Q_make_21 : decode c_Q_make 21 = .ok (.iconst 0, 1) := by decide +kernel
theorem d_Q_make_22 : decode c_Q_make 22 = .ok (.ireturn, 1) := by decide +kernel
theorem d_Q_wrap_0 : decode c_Q_wrap 0 = .ok (.aload 4, 2) := by decide +kernel
theorem d_Q_wrap_2 : decode c_Q_wrap 2 = .ok (.iconst 0, 1) := by decide +kernel
theorem d_Q_wrap_3 : decode c_Q_wrap 3 = .ok (.aload_n 0, 1) := by decide +kernel
theorem d_Q_wrap_4 : decode c_Q_wrap 4 = .ok (.iload_n 1, 1) := by decide +kernel
theorem d_Q_wrap_5 : decode c_Q_wrap 5 = .ok (.iload_n 2, 1) := by decide +kernel
theorem d_Q_wrap_6 : decode c_Q_wrap 6 = .ok (.iload_n 3, 1) := by decide +kernel
theorem d_Q_wrap_7 : decode c_Q_wrap 7 = .ok (.invokevirtual 15, 3) := by decide +kernel
theorem d_Q_wrap_10 : decode c_Q_wrap 10 = .ok (.lastore, 1) := by decide +kernel
theorem d_Q_wrap_11 : decode c_Q_wrap 11 = .ok (.goto 11, 3) := by decide +kernel
theorem d_Q_wrap_14 : decode c_Q_wrap 14 = .ok (.astore 5, 2) := by decide +kernel
theorem d_Q_wrap_16 : decode c_Q_wrap 16 = .ok (.iconst 1, 1) := by decide +kernel
theorem d_Q_wrap_17 : decode c_Q_wrap 17 = .ok (.ireturn, 1) := by decide +kernel
theorem d_Q_wrap_18 : decode c_Q_wrap 18 = .ok (.astore 5, 2) := by decide +kernel
theorem d_Q_wrap_20 : decode c_Q_wrap 20 = .ok (.iconst 2, 1) := by decide +kernel
theorem d_Q_wrap_21 : decode c_Q_wrap 21 = .ok (.ireturn, 1) := by decide +kernel
theorem d_Q_wrap_22 : decode c_Q_wrap 22 = .ok (.iconst 0, 1) := by decide +kernel
theorem d_Q_wrap_23 : decode c_Q_wrap 23 = .ok (.ireturn, 1) := by decide +kernel
theorem d_Q_unwrap_0 : decode c_Q_unwrap 0 = .ok (.aload_n 3, 1) := by decide +kernel
theorem d_Q_unwrap_1 : decode c_Q_unwrap 1 = .ok (.iconst 0, 1) := by decide +kernel
theorem d_Q_unwrap_2 : decode c_Q_unwrap 2 = .ok (.aload_n 0, 1) := by decide +kernel
theorem d_Q_unwrap_3 : decode c_Q_unwrap 3 = .ok (.iload_n 1, 1) := by decide +kernel
theorem d_Q_unwrap_4 : decode c_Q_unwrap 4 = .ok (.iload_n 2, 1) := by decide +kernel
theorem d_Q_unwrap_5 : decode c_Q_unwrap 5 = .ok (.invokevirtual 21, 3) := by decide +kernel
theorem d_Q_unwrap_8 : decode c_Q_unwrap 8 = .ok (.lastore, 1) := by decide +kernel
theorem d_Q_unwrap_9 : decode c_Q_unwrap 9 = .ok (.goto 11, 3) := by decide +kernel
theorem d_Q_unwrap_12 : decode c_Q_unwrap 12 = .ok (.astore 4, 2) := by decide +kernel
theorem d_Q_unwrap_14 : decode c_Q_unwrap 14 = .ok (.iconst 1, 1) := by decide +kernel
theorem d_Q_unwrap_15 : decode c_Q_unwrap 15 = .ok (.ireturn, 1) := by decide +kernel
theorem d_Q_unwrap_16 : decode c_Q_unwrap 16 = .ok (.astore 4, 2) := by decide +kernel
theorem d_Q_unwrap_18 : decode c_Q_unwrap 18 = .ok (.iconst 2, 1) := by decide +kernel
theorem d_Q_unwrap_19 : decode c_Q_unwrap 19 = .ok (.ireturn, 1) := by decide +kernel
theorem d_Q_unwrap_20 : decode c_Q_unwrap 20 = .ok (.iconst 0, 1) := by decide +kernel
theorem d_Q_unwrap_21 : decode c_Q_unwrap 21 = .ok (.ireturn, 1) := by decide +kernel
theorem d_Q_change_0 : decode c_Q_change 0 = .ok (.aload 4, 2) := by decide +kernel
theorem d_Q_change_2 : decode c_Q_change 2 = .ok (.iconst 0, 1) := by decide +kernel
theorem d_Q_change_3 : decode c_Q_change 3 = .ok (.aload_n 0, 1) := by decide +kernel
theorem d_Q_change_4 : decode c_Q_change 4 = .ok (.iload_n 1, 1) := by decide +kernel
theorem d_Q_change_5 : decode c_Q_change 5 = .ok (.iload_n 2, 1) := by decide +kernel
theorem d_Q_change_6 : decode c_Q_change 6 = .ok (.iload_n 3, 1) := by decide +kernel
theorem d_Q_change_7 : decode c_Q_change 7 = .ok (.invokevirtual 25, 3) := by decide +kernel
theorem d_Q_change_10 : decode c_Q_change 10 = .ok (.i2l, 1) := by decide +kernel
theorem d_Q_change_11 : decode c_Q_change 11 = .ok (.lastore, 1) := by decide +kernel
theorem d_Q_change_12 : decode c_Q_change 12 = .ok (.goto 15, 3) := by decide +kernel
theorem d_Q_change_15 : decode c_Q_change 15 = .ok (.astore 5, 2) := by decide +kernel
theorem d_Q_change_17 : decode c_Q_change 17 = .ok (.iconst 1, 1) := by decide +kernel
theorem d_Q_change_18 : decode c_Q_change 18 = .ok (.ireturn, 1) := by decide +kernel
theorem d_Q_change_19 : decode c_Q_change 19 = .ok (.astore 5, 2) := by decide +kernel
theorem d_Q_change_21 : decode c_Q_change 21 = .ok (.iconst 2, 1) := by decide +kernel
theorem d_Q_change_22 : decode c_Q_change 22 = .ok (.ireturn, 1) := by decide +kernel
theorem d_Q_change_23 : decode c_Q_change 23 = .ok (.astore 5, 2) := by decide +kernel
theorem d_Q_change_25 : decode c_Q_change 25 = .ok (.iconst 3, 1) := by decide +kernel
theorem d_Q_change_26 : decode c_Q_change 26 = .ok (.ireturn, 1) := by decide +kernel
theorem d_Q_change_27 : decode c_Q_change 27 = .ok (.iconst 0, 1) := by decide +kernel
theorem d_Q_change_28 : decode c_Q_change 28 = .ok (.ireturn, 1) := by decide +kernel
theorem d_Q_copy_0 : decode c_Q_copy 0 = .ok (.aload_n 0, 1) := by decide +kernel
theorem d_Q_copy_1 : decode c_Q_copy 1 = .ok (.iload_n 1, 1) := by decide +kernel
theorem d_Q_copy_2 : decode c_Q_copy 2 = .ok (.iload_n 2, 1) := by decide +kernel
theorem d_Q_copy_3 : decode c_Q_copy 3 = .ok (.invokevirtual 31, 3) := by decide +kernel
theorem d_Q_copy_6 : decode c_Q_copy 6 = .ok (.goto 9, 3) := by decide +kernel
theorem d_Q_copy_9 : decode c_Q_copy 9 = .ok (.astore_n 3, 1) := by decide +kernel
theorem d_Q_copy_10 : decode c_Q_copy 10 = .ok (.iconst 1, 1) := by decide +kernel
theorem d_Q_copy_11 : decode c_Q_copy 11 = .ok (.ireturn, 1) := by decide +kernel
theorem d_Q_copy_12 : decode c_Q_copy 12 = .ok (.astore_n 3, 1) := by decide +kernel
theorem d_Q_copy_13 : decode c_Q_copy 13 = .ok (.iconst 2, 1) := by decide +kernel
theorem d_Q_copy_14 : decode c_Q_copy 14 = .ok (.ireturn, 1) := by decide +kernel
theorem d_Q_copy_15 : decode c_Q_copy 15 = .ok (.iconst 0, 1) := by decide +kernel
theorem d_Q_copy_16 : decode c_Q_copy 16 = .ok (.ireturn, 1) := by decide +kernel
theorem d_Q_forget_0 : decode c_Q_forget 0 = .ok (.aload_n 3, 1) := by decide +kernel
theorem d_Q_forget_1 : decode c_Q_forget 1 = .ok (.iconst 0, 1) := by decide +kernel
theorem d_Q_forget_2 : decode c_Q_forget 2 = .ok (.aload_n 0, 1) := by decide +kernel
theorem d_Q_forget_3 : decode c_Q_forget 3 = .ok (.iload_n 1, 1) := by decide +kernel
theorem d_Q_forget_4 : decode c_Q_forget 4 = .ok (.iload_n 2, 1) := by decide +kernel
theorem d_Q_forget_5 : decode c_Q_forget 5 = .ok (.invokevirtual 35, 3) := by decide +kernel
theorem d_Q_forget_8 : decode c_Q_forget 8 = .ok (.ifCond .eq 7, 3) := by decide +kernel
theorem d_Q_forget_11 : decode c_Q_forget 11 = .ok (.lconst 1, 1) := by decide +kernel
theorem d_Q_forget_12 : decode c_Q_forget 12 = .ok (.goto 4, 3) := by decide +kernel
theorem d_Q_forget_15 : decode c_Q_forget 15 = .ok (.lconst 0, 1) := by decide +kernel
theorem d_Q_forget_16 : decode c_Q_forget 16 = .ok (.lastore, 1) := by decide +kernel
theorem d_Q_forget_17 : decode c_Q_forget 17 = .ok (.goto 7, 3) := by decide +kernel
theorem d_Q_forget_20 : decode c_Q_forget 20 = .ok (.astore 4, 2) := by decide +kernel
theorem d_Q_forget_22 : decode c_Q_forget 22 = .ok (.iconst 1, 1) := by decide +kernel
theorem d_Q_forget_23 : decode c_Q_forget 23 = .ok (.ireturn, 1) := by decide +kernel
theorem d_Q_forget_24 : decode c_Q_forget 24 = .ok (.iconst 0, 1) := by decide +kernel
theorem d_Q_forget_25 : decode c_Q_forget 25 = .ok (.ireturn, 1) := by decide +kernel
theorem d_Q_wrapByte_0 : decode c_Q_wrapByte 0 = .ok (.aload_n 3, 1) := by decide +kernel
theorem d_Q_wrapByte_1 : decode c_Q_wrapByte 1 = .ok (.iconst 0, 1) := by decide +kernel
theorem d_Q_wrapByte_2 : decode c_Q_wrapByte 2 = .ok (.aload_n 0, 1) := by decide +kernel
theorem d_Q_wrapByte_3 : decode c_Q_wrapByte 3 = .ok (.iload_n 1, 1) := by decide +kernel
theorem d_Q_wrapByte_4 : decode c_Q_wrapByte 4 = .ok (.iload_n 2, 1) := by decide +kernel
theorem d_Q_wrapByte_5 : decode c_Q_wrapByte 5 = .ok (.invokevirtual 39, 3) := by decide +kernel
theorem d_Q_wrapByte_8 : decode c_Q_wrapByte 8 = .ok (.i2l, 1) := by decide +kernel
theorem d_Q_wrapByte_9 : decode c_Q_wrapByte 9 = .ok (.lastore, 1) := by decide +kernel
theorem d_Q_wrapByte_10 : decode c_Q_wrapByte 10 = .ok (.goto 15, 3) := by decide +kernel
theorem d_Q_wrapByte_13 : decode c_Q_wrapByte 13 = .ok (.astore 4, 2) := by decide +kernel
theorem d_Q_wrapByte_15 : decode c_Q_wrapByte 15 = .ok (.iconst 1, 1) := by decide +kernel
theorem d_Q_wrapByte_16 : decode c_Q_wrapByte 16 = .ok (.ireturn, 1) := by decide +kernel
theorem d_Q_wrapByte_17 : decode c_Q_wrapByte 17 = .ok (.astore 4, 2) := by decide +kernel
theorem d_Q_wrapByte_19 : decode c_Q_wrapByte 19 = .ok (.iconst 2, 1) := by decide +kernel
theorem d_Q_wrapByte_20 : decode c_Q_wrapByte 20 = .ok (.ireturn, 1) := by decide +kernel
theorem d_Q_wrapByte_21 : decode c_Q_wrapByte 21 = .ok (.astore 4, 2) := by decide +kernel
theorem d_Q_wrapByte_23 : decode c_Q_wrapByte 23 = .ok (.iconst 3, 1) := by decide +kernel
theorem d_Q_wrapByte_24 : decode c_Q_wrapByte 24 = .ok (.ireturn, 1) := by decide +kernel
theorem d_Q_wrapByte_25 : decode c_Q_wrapByte 25 = .ok (.iconst 0, 1) := by decide +kernel
theorem d_Q_wrapByte_26 : decode c_Q_wrapByte 26 = .ok (.ireturn, 1) := by decide +kernel
theorem d_Q_publicByte_0 : decode c_Q_publicByte 0 = .ok (.aload_n 3, 1) := by decide +kernel
theorem d_Q_publicByte_1 : decode c_Q_publicByte 1 = .ok (.iconst 0, 1) := by decide +kernel
theorem d_Q_publicByte_2 : decode c_Q_publicByte 2 = .ok (.aload_n 0, 1) := by decide +kernel
theorem d_Q_publicByte_3 : decode c_Q_publicByte 3 = .ok (.iload_n 1, 1) := by decide +kernel
theorem d_Q_publicByte_4 : decode c_Q_publicByte 4 = .ok (.iload_n 2, 1) := by decide +kernel
theorem d_Q_publicByte_5 : decode c_Q_publicByte 5 = .ok (.invokevirtual 43, 3) := by decide +kernel
theorem d_Q_publicByte_8 : decode c_Q_publicByte 8 = .ok (.i2l, 1) := by decide +kernel
theorem d_Q_publicByte_9 : decode c_Q_publicByte 9 = .ok (.lastore, 1) := by decide +kernel
theorem d_Q_publicByte_10 : decode c_Q_publicByte 10 = .ok (.goto 15, 3) := by decide +kernel
theorem d_Q_publicByte_13 : decode c_Q_publicByte 13 = .ok (.astore 4, 2) := by decide +kernel
theorem d_Q_publicByte_15 : decode c_Q_publicByte 15 = .ok (.iconst 1, 1) := by decide +kernel
theorem d_Q_publicByte_16 : decode c_Q_publicByte 16 = .ok (.ireturn, 1) := by decide +kernel
theorem d_Q_publicByte_17 : decode c_Q_publicByte 17 = .ok (.astore 4, 2) := by decide +kernel
theorem d_Q_publicByte_19 : decode c_Q_publicByte 19 = .ok (.iconst 2, 1) := by decide +kernel
theorem d_Q_publicByte_20 : decode c_Q_publicByte 20 = .ok (.ireturn, 1) := by decide +kernel
theorem d_Q_publicByte_21 : decode c_Q_publicByte 21 = .ok (.astore 4, 2) := by decide +kernel
theorem d_Q_publicByte_23 : decode c_Q_publicByte 23 = .ok (.iconst 3, 1) := by decide +kernel
theorem d_Q_publicByte_24 : decode c_Q_publicByte 24 = .ok (.ireturn, 1) := by decide +kernel
theorem d_Q_publicByte_25 : decode c_Q_publicByte 25 = .ok (.iconst 0, 1) := by decide +kernel
theorem d_Q_publicByte_26 : decode c_Q_publicByte 26 = .ok (.ireturn, 1) := by decide +kernel
theorem d_Q_entry_0 : decode c_Q_entry 0 = .ok (.aload 5, 2) := by decide +kernel
theorem d_Q_entry_2 : decode c_Q_entry 2 = .ok (.iconst 0, 1) := by decide +kernel
theorem d_Q_entry_3 : decode c_Q_entry 3 = .ok (.aload_n 0, 1) := by decide +kernel
theorem d_Q_entry_4 : decode c_Q_entry 4 = .ok (.iload_n 1, 1) := by decide +kernel
theorem d_Q_entry_5 : decode c_Q_entry 5 = .ok (.iload_n 2, 1) := by decide +kernel
theorem d_Q_entry_6 : decode c_Q_entry 6 = .ok (.iload_n 3, 1) := by decide +kernel
theorem d_Q_entry_7 : decode c_Q_entry 7 = .ok (.iload 4, 2) := by decide +kernel
theorem d_Q_entry_9 : decode c_Q_entry 9 = .ok (.invokevirtual 46, 3) := by decide +kernel
theorem d_Q_entry_12 : decode c_Q_entry 12 = .ok (.i2l, 1) := by decide +kernel
theorem d_Q_entry_13 : decode c_Q_entry 13 = .ok (.lastore, 1) := by decide +kernel
theorem d_Q_entry_14 : decode c_Q_entry 14 = .ok (.goto 15, 3) := by decide +kernel
theorem d_Q_entry_17 : decode c_Q_entry 17 = .ok (.astore 6, 2) := by decide +kernel
theorem d_Q_entry_19 : decode c_Q_entry 19 = .ok (.iconst 1, 1) := by decide +kernel
theorem d_Q_entry_20 : decode c_Q_entry 20 = .ok (.ireturn, 1) := by decide +kernel
theorem d_Q_entry_21 : decode c_Q_entry 21 = .ok (.astore 6, 2) := by decide +kernel
theorem d_Q_entry_23 : decode c_Q_entry 23 = .ok (.iconst 2, 1) := by decide +kernel
theorem d_Q_entry_24 : decode c_Q_entry 24 = .ok (.ireturn, 1) := by decide +kernel
theorem d_Q_entry_25 : decode c_Q_entry 25 = .ok (.astore 6, 2) := by decide +kernel
theorem d_Q_entry_27 : decode c_Q_entry 27 = .ok (.iconst 3, 1) := by decide +kernel
theorem d_Q_entry_28 : decode c_Q_entry 28 = .ok (.ireturn, 1) := by decide +kernel
theorem d_Q_entry_29 : decode c_Q_entry 29 = .ok (.iconst 0, 1) := by decide +kernel
theorem d_Q_entry_30 : decode c_Q_entry 30 = .ok (.ireturn, 1) := by decide +kernel
theorem d_Q_noise_0 : decode c_Q_noise 0 = .ok (.aload 5, 2) := by decide +kernel
theorem d_Q_noise_2 : decode c_Q_noise 2 = .ok (.iconst 0, 1) := by decide +kernel
theorem d_Q_noise_3 : decode c_Q_noise 3 = .ok (.aload_n 0, 1) := by decide +kernel
theorem d_Q_noise_4 : decode c_Q_noise 4 = .ok (.iload_n 1, 1) := by decide +kernel
theorem d_Q_noise_5 : decode c_Q_noise 5 = .ok (.iload_n 2, 1) := by decide +kernel
theorem d_Q_noise_6 : decode c_Q_noise 6 = .ok (.iload_n 3, 1) := by decide +kernel
theorem d_Q_noise_7 : decode c_Q_noise 7 = .ok (.iload 4, 2) := by decide +kernel
theorem d_Q_noise_9 : decode c_Q_noise 9 = .ok (.invokevirtual 50, 3) := by decide +kernel
theorem d_Q_noise_12 : decode c_Q_noise 12 = .ok (.i2l, 1) := by decide +kernel
theorem d_Q_noise_13 : decode c_Q_noise 13 = .ok (.lastore, 1) := by decide +kernel
theorem d_Q_noise_14 : decode c_Q_noise 14 = .ok (.goto 15, 3) := by decide +kernel
theorem d_Q_noise_17 : decode c_Q_noise 17 = .ok (.astore 6, 2) := by decide +kernel
theorem d_Q_noise_19 : decode c_Q_noise 19 = .ok (.iconst 1, 1) := by decide +kernel
theorem d_Q_noise_20 : decode c_Q_noise 20 = .ok (.ireturn, 1) := by decide +kernel
theorem d_Q_noise_21 : decode c_Q_noise 21 = .ok (.astore 6, 2) := by decide +kernel
theorem d_Q_noise_23 : decode c_Q_noise 23 = .ok (.iconst 2, 1) := by decide +kernel
theorem d_Q_noise_24 : decode c_Q_noise 24 = .ok (.ireturn, 1) := by decide +kernel
theorem d_Q_noise_25 : decode c_Q_noise 25 = .ok (.astore 6, 2) := by decide +kernel
theorem d_Q_noise_27 : decode c_Q_noise 27 = .ok (.iconst 3, 1) := by decide +kernel
theorem d_Q_noise_28 : decode c_Q_noise 28 = .ok (.ireturn, 1) := by decide +kernel
theorem d_Q_noise_29 : decode c_Q_noise 29 = .ok (.iconst 0, 1) := by decide +kernel
theorem d_Q_noise_30 : decode c_Q_noise 30 = .ok (.ireturn, 1) := by decide +kernel
theorem d_Q_read_0 : decode c_Q_read 0 = .ok (.aload_n 3, 1) := by decide +kernel
theorem d_Q_read_1 : decode c_Q_read 1 = .ok (.iconst 0, 1) := by decide +kernel
theorem d_Q_read_2 : decode c_Q_read 2 = .ok (.aload_n 0, 1) := by decide +kernel
theorem d_Q_read_3 : decode c_Q_read 3 = .ok (.iload_n 1, 1) := by decide +kernel
theorem d_Q_read_4 : decode c_Q_read 4 = .ok (.iload_n 2, 1) := by decide +kernel
theorem d_Q_read_5 : decode c_Q_read 5 = .ok (.invokevirtual 53, 3) := by decide +kernel
theorem d_Q_read_8 : decode c_Q_read 8 = .ok (.i2l, 1) := by decide +kernel
theorem d_Q_read_9 : decode c_Q_read 9 = .ok (.lastore, 1) := by decide +kernel
theorem d_Q_read_10 : decode c_Q_read 10 = .ok (.goto 11, 3) := by decide +kernel
theorem d_Q_read_13 : decode c_Q_read 13 = .ok (.astore 4, 2) := by decide +kernel
theorem d_Q_read_15 : decode c_Q_read 15 = .ok (.iconst 1, 1) := by decide +kernel
theorem d_Q_read_16 : decode c_Q_read 16 = .ok (.ireturn, 1) := by decide +kernel
theorem d_Q_read_17 : decode c_Q_read 17 = .ok (.astore 4, 2) := by decide +kernel
theorem d_Q_read_19 : decode c_Q_read 19 = .ok (.iconst 2, 1) := by decide +kernel
theorem d_Q_read_20 : decode c_Q_read 20 = .ok (.ireturn, 1) := by decide +kernel
theorem d_Q_read_21 : decode c_Q_read 21 = .ok (.iconst 0, 1) := by decide +kernel
theorem d_Q_read_22 : decode c_Q_read 22 = .ok (.ireturn, 1) := by decide +kernel
theorem d_Q_shake_0 : decode c_Q_shake 0 = .ok (.aload 4, 2) := by decide +kernel
theorem d_Q_shake_2 : decode c_Q_shake 2 = .ok (.iconst 0, 1) := by decide +kernel
theorem d_Q_shake_3 : decode c_Q_shake 3 = .ok (.aload_n 0, 1) := by decide +kernel
theorem d_Q_shake_4 : decode c_Q_shake 4 = .ok (.iload_n 1, 1) := by decide +kernel
theorem d_Q_shake_5 : decode c_Q_shake 5 = .ok (.lload_n 2, 1) := by decide +kernel
theorem d_Q_shake_6 : decode c_Q_shake 6 = .ok (.invokevirtual 56, 3) := by decide +kernel
theorem d_Q_shake_9 : decode c_Q_shake 9 = .ok (.lastore, 1) := by decide +kernel
theorem d_Q_shake_10 : decode c_Q_shake 10 = .ok (.goto 7, 3) := by decide +kernel
theorem d_Q_shake_13 : decode c_Q_shake 13 = .ok (.astore 5, 2) := by decide +kernel
theorem d_Q_shake_15 : decode c_Q_shake 15 = .ok (.iconst 1, 1) := by decide +kernel
theorem d_Q_shake_16 : decode c_Q_shake 16 = .ok (.ireturn, 1) := by decide +kernel
theorem d_Q_shake_17 : decode c_Q_shake 17 = .ok (.iconst 0, 1) := by decide +kernel
theorem d_Q_shake_18 : decode c_Q_shake 18 = .ok (.ireturn, 1) := by decide +kernel
end DC
