/-! decode rows: laid by my program out of the listing -/
theorem dX_init_0 : decode bX_init 0 = .ok (.aload_n 0, 1) := by decide +kernel
theorem dX_init_1 : decode bX_init 1 = .ok (.invokespecial 3, 3) := by decide +kernel
theorem dX_init_4 : decode bX_init 4 = .ok (.aload_n 0, 1) := by decide +kernel
theorem dX_init_5 : decode bX_init 5 = .ok (.sipush 1024, 3) := by decide +kernel
theorem dX_init_8 : decode bX_init 8 = .ok (.newarray .int, 2) := by decide +kernel
theorem dX_init_10 : decode bX_init 10 = .ok (.putfield 9, 3) := by decide +kernel
theorem dX_init_13 : decode bX_init 13 = .ok (.aload_n 0, 1) := by decide +kernel
theorem dX_init_14 : decode bX_init 14 = .ok (.sipush 136, 3) := by decide +kernel
theorem dX_init_17 : decode bX_init 17 = .ok (.newarray .int, 2) := by decide +kernel
theorem dX_init_19 : decode bX_init 19 = .ok (.putfield 13, 3) := by decide +kernel
theorem dX_init_22 : decode bX_init 22 = .ok (.aload_n 0, 1) := by decide +kernel
theorem dX_init_23 : decode bX_init 23 = .ok (.invokevirtual 16, 3) := by decide +kernel
theorem dX_init_26 : decode bX_init 26 = .ok (.return_, 1) := by decide +kernel
theorem dX_reset_0 : decode bX_reset 0 = .ok (.aload_n 0, 1) := by decide +kernel
theorem dX_reset_1 : decode bX_reset 1 = .ok (.invokevirtual 16, 3) := by decide +kernel
theorem dX_reset_4 : decode bX_reset 4 = .ok (.return_, 1) := by decide +kernel
theorem dX_put_0 : decode bX_put 0 = .ok (.iload_n 1, 1) := by decide +kernel
theorem dX_put_1 : decode bX_put 1 = .ok (.invokestatic 19, 3) := by decide +kernel
theorem dX_put_4 : decode bX_put 4 = .ok (.ifCond .ne 11, 3) := by decide +kernel
theorem dX_put_7 : decode bX_put 7 = .ok (.new 23, 3) := by decide +kernel
theorem dX_put_10 : decode bX_put 10 = .ok (.dup, 1) := by decide +kernel
theorem dX_put_11 : decode bX_put 11 = .ok (.invokespecial 25, 3) := by decide +kernel
theorem dX_put_14 : decode bX_put 14 = .ok (.athrow, 1) := by decide +kernel
theorem dX_put_15 : decode bX_put 15 = .ok (.aload_n 0, 1) := by decide +kernel
theorem dX_put_16 : decode bX_put 16 = .ok (.getfield 9, 3) := by decide +kernel
theorem dX_put_19 : decode bX_put 19 = .ok (.iload_n 1, 1) := by decide +kernel
theorem dX_put_20 : decode bX_put 20 = .ok (.iconst 2, 1) := by decide +kernel
theorem dX_put_21 : decode bX_put 21 = .ok (.iushr, 1) := by decide +kernel
theorem dX_put_22 : decode bX_put 22 = .ok (.iaload, 1) := by decide +kernel
theorem dX_put_23 : decode bX_put 23 = .ok (.istore_n 3, 1) := by decide +kernel
theorem dX_put_24 : decode bX_put 24 = .ok (.aload_n 0, 1) := by decide +kernel
theorem dX_put_25 : decode bX_put 25 = .ok (.getfield 9, 3) := by decide +kernel
theorem dX_put_28 : decode bX_put 28 = .ok (.iload_n 1, 1) := by decide +kernel
theorem dX_put_29 : decode bX_put 29 = .ok (.iconst 2, 1) := by decide +kernel
theorem dX_put_30 : decode bX_put 30 = .ok (.iushr, 1) := by decide +kernel
theorem dX_put_31 : decode bX_put 31 = .ok (.iload_n 2, 1) := by decide +kernel
theorem dX_put_32 : decode bX_put 32 = .ok (.iastore, 1) := by decide +kernel
theorem dX_put_33 : decode bX_put 33 = .ok (.iload_n 3, 1) := by decide +kernel
theorem dX_put_34 : decode bX_put 34 = .ok (.ireturn, 1) := by decide +kernel
theorem dX_word_0 : decode bX_word 0 = .ok (.iload_n 1, 1) := by decide +kernel
theorem dX_word_1 : decode bX_word 1 = .ok (.invokestatic 19, 3) := by decide +kernel
theorem dX_word_4 : decode bX_word 4 = .ok (.ifCond .ne 11, 3) := by decide +kernel
theorem dX_word_7 : decode bX_word 7 = .ok (.new 23, 3) := by decide +kernel
theorem dX_word_10 : decode bX_word 10 = .ok (.dup, 1) := by decide +kernel
theorem dX_word_11 : decode bX_word 11 = .ok (.invokespecial 25, 3) := by decide +kernel
theorem dX_word_14 : decode bX_word 14 = .ok (.athrow, 1) := by decide +kernel
theorem dX_word_15 : decode bX_word 15 = .ok (.aload_n 0, 1) := by decide +kernel
theorem dX_word_16 : decode bX_word 16 = .ok (.getfield 9, 3) := by decide +kernel
theorem dX_word_19 : decode bX_word 19 = .ok (.iload_n 1, 1) := by decide +kernel
theorem dX_word_20 : decode bX_word 20 = .ok (.iconst 2, 1) := by decide +kernel
theorem dX_word_21 : decode bX_word 21 = .ok (.iushr, 1) := by decide +kernel
theorem dX_word_22 : decode bX_word 22 = .ok (.iaload, 1) := by decide +kernel
theorem dX_word_23 : decode bX_word 23 = .ok (.ireturn, 1) := by decide +kernel
theorem dX_set_0 : decode bX_set 0 = .ok (.iload_n 1, 1) := by decide +kernel
theorem dX_set_1 : decode bX_set 1 = .ok (.iload_n 2, 1) := by decide +kernel
theorem dX_set_2 : decode bX_set 2 = .ok (.invokestatic 26, 3) := by decide +kernel
theorem dX_set_5 : decode bX_set 5 = .ok (.ifCond .ne 11, 3) := by decide +kernel
theorem dX_set_8 : decode bX_set 8 = .ok (.new 23, 3) := by decide +kernel
theorem dX_set_11 : decode bX_set 11 = .ok (.dup, 1) := by decide +kernel
theorem dX_set_12 : decode bX_set 12 = .ok (.invokespecial 25, 3) := by decide +kernel
theorem dX_set_15 : decode bX_set 15 = .ok (.athrow, 1) := by decide +kernel
theorem dX_set_16 : decode bX_set 16 = .ok (.aload_n 0, 1) := by decide +kernel
theorem dX_set_17 : decode bX_set 17 = .ok (.getfield 13, 3) := by decide +kernel
theorem dX_set_20 : decode bX_set 20 = .ok (.iload_n 1, 1) := by decide +kernel
theorem dX_set_21 : decode bX_set 21 = .ok (.iload_n 2, 1) := by decide +kernel
theorem dX_set_22 : decode bX_set 22 = .ok (.invokestatic 30, 3) := by decide +kernel
theorem dX_set_25 : decode bX_set 25 = .ok (.iaload, 1) := by decide +kernel
theorem dX_set_26 : decode bX_set 26 = .ok (.istore 4, 2) := by decide +kernel
theorem dX_set_28 : decode bX_set 28 = .ok (.iload_n 2, 1) := by decide +kernel
theorem dX_set_29 : decode bX_set 29 = .ok (.ifCond .eq 14, 3) := by decide +kernel
theorem dX_set_32 : decode bX_set 32 = .ok (.aload_n 0, 1) := by decide +kernel
theorem dX_set_33 : decode bX_set 33 = .ok (.getfield 13, 3) := by decide +kernel
theorem dX_set_36 : decode bX_set 36 = .ok (.iload_n 1, 1) := by decide +kernel
theorem dX_set_37 : decode bX_set 37 = .ok (.iload_n 2, 1) := by decide +kernel
theorem dX_set_38 : decode bX_set 38 = .ok (.invokestatic 30, 3) := by decide +kernel
theorem dX_set_41 : decode bX_set 41 = .ok (.iload_n 3, 1) := by decide +kernel
theorem dX_set_42 : decode bX_set 42 = .ok (.iastore, 1) := by decide +kernel
theorem dX_set_43 : decode bX_set 43 = .ok (.iload 4, 2) := by decide +kernel
theorem dX_set_45 : decode bX_set 45 = .ok (.ireturn, 1) := by decide +kernel
theorem dX_register_0 : decode bX_register 0 = .ok (.iload_n 1, 1) := by decide +kernel
theorem dX_register_1 : decode bX_register 1 = .ok (.iload_n 2, 1) := by decide +kernel
theorem dX_register_2 : decode bX_register 2 = .ok (.invokestatic 26, 3) := by decide +kernel
theorem dX_register_5 : decode bX_register 5 = .ok (.ifCond .ne 11, 3) := by decide +kernel
theorem dX_register_8 : decode bX_register 8 = .ok (.new 23, 3) := by decide +kernel
theorem dX_register_11 : decode bX_register 11 = .ok (.dup, 1) := by decide +kernel
theorem dX_register_12 : decode bX_register 12 = .ok (.invokespecial 25, 3) := by decide +kernel
theorem dX_register_15 : decode bX_register 15 = .ok (.athrow, 1) := by decide +kernel
theorem dX_register_16 : decode bX_register 16 = .ok (.aload_n 0, 1) := by decide +kernel
theorem dX_register_17 : decode bX_register 17 = .ok (.getfield 13, 3) := by decide +kernel
theorem dX_register_20 : decode bX_register 20 = .ok (.iload_n 1, 1) := by decide +kernel
theorem dX_register_21 : decode bX_register 21 = .ok (.iload_n 2, 1) := by decide +kernel
theorem dX_register_22 : decode bX_register 22 = .ok (.invokestatic 30, 3) := by decide +kernel
theorem dX_register_25 : decode bX_register 25 = .ok (.iaload, 1) := by decide +kernel
theorem dX_register_26 : decode bX_register 26 = .ok (.ireturn, 1) := by decide +kernel
theorem dX_control_0 : decode bX_control 0 = .ok (.iload_n 1, 1) := by decide +kernel
theorem dX_control_1 : decode bX_control 1 = .ok (.ifCond .lt 8, 3) := by decide +kernel
theorem dX_control_4 : decode bX_control 4 = .ok (.iload_n 1, 1) := by decide +kernel
theorem dX_control_5 : decode bX_control 5 = .ok (.iconst 4, 1) := by decide +kernel
theorem dX_control_6 : decode bX_control 6 = .ok (.if_icmp .le 11, 3) := by decide +kernel
theorem dX_control_9 : decode bX_control 9 = .ok (.new 23, 3) := by decide +kernel
theorem dX_control_12 : decode bX_control 12 = .ok (.dup, 1) := by decide +kernel
theorem dX_control_13 : decode bX_control 13 = .ok (.invokespecial 25, 3) := by decide +kernel
theorem dX_control_16 : decode bX_control 16 = .ok (.athrow, 1) := by decide +kernel
theorem dX_control_17 : decode bX_control 17 = .ok (.aload_n 0, 1) := by decide +kernel
theorem dX_control_18 : decode bX_control 18 = .ok (.iload_n 1, 1) := by decide +kernel
theorem dX_control_19 : decode bX_control 19 = .ok (.invokevirtual 34, 3) := by decide +kernel
theorem dX_control_22 : decode bX_control 22 = .ok (.istore_n 3, 1) := by decide +kernel
theorem dX_control_23 : decode bX_control 23 = .ok (.aload_n 0, 1) := by decide +kernel
theorem dX_control_24 : decode bX_control 24 = .ok (.iload_n 1, 1) := by decide +kernel
theorem dX_control_25 : decode bX_control 25 = .ok (.iload_n 2, 1) := by decide +kernel
theorem dX_control_26 : decode bX_control 26 = .ok (.invokevirtual 38, 3) := by decide +kernel
theorem dX_control_29 : decode bX_control 29 = .ok (.aload_n 0, 1) := by decide +kernel
theorem dX_control_30 : decode bX_control 30 = .ok (.iconst 0, 1) := by decide +kernel
theorem dX_control_31 : decode bX_control 31 = .ok (.putfield 42, 3) := by decide +kernel
theorem dX_control_34 : decode bX_control 34 = .ok (.aload_n 0, 1) := by decide +kernel
theorem dX_control_35 : decode bX_control 35 = .ok (.iconst 0, 1) := by decide +kernel
theorem dX_control_36 : decode bX_control 36 = .ok (.putfield 46, 3) := by decide +kernel
theorem dX_control_39 : decode bX_control 39 = .ok (.iload_n 3, 1) := by decide +kernel
theorem dX_control_40 : decode bX_control 40 = .ok (.ireturn, 1) := by decide +kernel
theorem dX_request_0 : decode bX_request 0 = .ok (.iload_n 1, 1) := by decide +kernel
theorem dX_request_1 : decode bX_request 1 = .ok (.ifCond .lt 9, 3) := by decide +kernel
theorem dX_request_4 : decode bX_request 4 = .ok (.iload_n 1, 1) := by decide +kernel
theorem dX_request_5 : decode bX_request 5 = .ok (.bipush 15, 2) := by decide +kernel
theorem dX_request_7 : decode bX_request 7 = .ok (.if_icmp .le 11, 3) := by decide +kernel
theorem dX_request_10 : decode bX_request 10 = .ok (.new 49, 3) := by decide +kernel
theorem dX_request_13 : decode bX_request 13 = .ok (.dup, 1) := by decide +kernel
theorem dX_request_14 : decode bX_request 14 = .ok (.invokespecial 51, 3) := by decide +kernel
theorem dX_request_17 : decode bX_request 17 = .ok (.athrow, 1) := by decide +kernel
theorem dX_request_18 : decode bX_request 18 = .ok (.aload_n 0, 1) := by decide +kernel
theorem dX_request_19 : decode bX_request 19 = .ok (.getfield 52, 3) := by decide +kernel
theorem dX_request_22 : decode bX_request 22 = .ok (.istore_n 2, 1) := by decide +kernel
theorem dX_request_23 : decode bX_request 23 = .ok (.aload_n 0, 1) := by decide +kernel
theorem dX_request_24 : decode bX_request 24 = .ok (.iload_n 1, 1) := by decide +kernel
theorem dX_request_25 : decode bX_request 25 = .ok (.putfield 52, 3) := by decide +kernel
theorem dX_request_28 : decode bX_request 28 = .ok (.iload_n 2, 1) := by decide +kernel
theorem dX_request_29 : decode bX_request 29 = .ok (.ireturn, 1) := by decide +kernel
theorem dX_step_0 : decode bX_step 0 = .ok (.aload_n 0, 1) := by decide +kernel
theorem dX_step_1 : decode bX_step 1 = .ok (.invokevirtual 56, 3) := by decide +kernel
theorem dX_step_4 : decode bX_step 4 = .ok (.ireturn, 1) := by decide +kernel
theorem dX_run_0 : decode bX_run 0 = .ok (.iload_n 1, 1) := by decide +kernel
theorem dX_run_1 : decode bX_run 1 = .ok (.ifCond .lt 10, 3) := by decide +kernel
theorem dX_run_4 : decode bX_run 4 = .ok (.iload_n 1, 1) := by decide +kernel
theorem dX_run_5 : decode bX_run 5 = .ok (.sipush 5000, 3) := by decide +kernel
theorem dX_run_8 : decode bX_run 8 = .ok (.if_icmp .le 11, 3) := by decide +kernel
theorem dX_run_11 : decode bX_run 11 = .ok (.new 49, 3) := by decide +kernel
theorem dX_run_14 : decode bX_run 14 = .ok (.dup, 1) := by decide +kernel
theorem dX_run_15 : decode bX_run 15 = .ok (.invokespecial 51, 3) := by decide +kernel
theorem dX_run_18 : decode bX_run 18 = .ok (.athrow, 1) := by decide +kernel
theorem dX_run_19 : decode bX_run 19 = .ok (.iconst 0, 1) := by decide +kernel
theorem dX_run_20 : decode bX_run 20 = .ok (.istore_n 2, 1) := by decide +kernel
theorem dX_run_21 : decode bX_run 21 = .ok (.iconst 0, 1) := by decide +kernel
theorem dX_run_22 : decode bX_run 22 = .ok (.istore_n 3, 1) := by decide +kernel
theorem dX_run_23 : decode bX_run 23 = .ok (.iload_n 3, 1) := by decide +kernel
theorem dX_run_24 : decode bX_run 24 = .ok (.iload_n 1, 1) := by decide +kernel
theorem dX_run_25 : decode bX_run 25 = .ok (.if_icmp .ge 28, 3) := by decide +kernel
theorem dX_run_28 : decode bX_run 28 = .ok (.aload_n 0, 1) := by decide +kernel
theorem dX_run_29 : decode bX_run 29 = .ok (.getfield 46, 3) := by decide +kernel
theorem dX_run_32 : decode bX_run 32 = .ok (.ifCond .ne 21, 3) := by decide +kernel
theorem dX_run_35 : decode bX_run 35 = .ok (.aload_n 0, 1) := by decide +kernel
theorem dX_run_36 : decode bX_run 36 = .ok (.invokevirtual 56, 3) := by decide +kernel
theorem dX_run_39 : decode bX_run 39 = .ok (.bipush 100, 2) := by decide +kernel
theorem dX_run_41 : decode bX_run 41 = .ok (.if_icmp .lt 6, 3) := by decide +kernel
theorem dX_run_44 : decode bX_run 44 = .ok (.iinc 2 1, 3) := by decide +kernel
theorem dX_run_47 : decode bX_run 47 = .ok (.iinc 3 1, 3) := by decide +kernel
theorem dX_run_50 : decode bX_run 50 = .ok (.goto (-27), 3) := by decide +kernel
theorem dX_run_53 : decode bX_run 53 = .ok (.iload_n 2, 1) := by decide +kernel
theorem dX_run_54 : decode bX_run 54 = .ok (.ireturn, 1) := by decide +kernel
theorem dX_look_0 : decode bX_look 0 = .ok (.iload_n 1, 1) := by decide +kernel
theorem dX_look_1 : decode bX_look 1 = .ok (.ifCond .lt 9, 3) := by decide +kernel
theorem dX_look_4 : decode bX_look 4 = .ok (.iload_n 1, 1) := by decide +kernel
theorem dX_look_5 : decode bX_look 5 = .ok (.bipush 9, 2) := by decide +kernel
theorem dX_look_7 : decode bX_look 7 = .ok (.if_icmp .le 11, 3) := by decide +kernel
theorem dX_look_10 : decode bX_look 10 = .ok (.new 23, 3) := by decide +kernel
theorem dX_look_13 : decode bX_look 13 = .ok (.dup, 1) := by decide +kernel
theorem dX_look_14 : decode bX_look 14 = .ok (.invokespecial 25, 3) := by decide +kernel
theorem dX_look_17 : decode bX_look 17 = .ok (.athrow, 1) := by decide +kernel
theorem dX_look_18 : decode bX_look 18 = .ok (.aload_n 0, 1) := by decide +kernel
theorem dX_look_19 : decode bX_look 19 = .ok (.iload_n 1, 1) := by decide +kernel
theorem dX_look_20 : decode bX_look 20 = .ok (.invokevirtual 34, 3) := by decide +kernel
theorem dX_look_23 : decode bX_look 23 = .ok (.ireturn, 1) := by decide +kernel
theorem dX_begin_0 : decode bX_begin 0 = .ok (.aload_n 0, 1) := by decide +kernel
theorem dX_begin_1 : decode bX_begin 1 = .ok (.getfield 13, 3) := by decide +kernel
theorem dX_begin_4 : decode bX_begin 4 = .ok (.iconst 0, 1) := by decide +kernel
theorem dX_begin_5 : decode bX_begin 5 = .ok (.invokestatic 60, 3) := by decide +kernel
theorem dX_begin_8 : decode bX_begin 8 = .ok (.aload_n 0, 1) := by decide +kernel
theorem dX_begin_9 : decode bX_begin 9 = .ok (.sipush 128, 3) := by decide +kernel
theorem dX_begin_12 : decode bX_begin 12 = .ok (.putfield 66, 3) := by decide +kernel
theorem dX_begin_15 : decode bX_begin 15 = .ok (.aload_n 0, 1) := by decide +kernel
theorem dX_begin_16 : decode bX_begin 16 = .ok (.iconst 0, 1) := by decide +kernel
theorem dX_begin_17 : decode bX_begin 17 = .ok (.putfield 69, 3) := by decide +kernel
theorem dX_begin_20 : decode bX_begin 20 = .ok (.aload_n 0, 1) := by decide +kernel
theorem dX_begin_21 : decode bX_begin 21 = .ok (.iconst 0, 1) := by decide +kernel
theorem dX_begin_22 : decode bX_begin 22 = .ok (.putfield 72, 3) := by decide +kernel
theorem dX_begin_25 : decode bX_begin 25 = .ok (.aload_n 0, 1) := by decide +kernel
theorem dX_begin_26 : decode bX_begin 26 = .ok (.iconst 0, 1) := by decide +kernel
theorem dX_begin_27 : decode bX_begin 27 = .ok (.putfield 75, 3) := by decide +kernel
theorem dX_begin_30 : decode bX_begin 30 = .ok (.aload_n 0, 1) := by decide +kernel
theorem dX_begin_31 : decode bX_begin 31 = .ok (.iconst 4, 1) := by decide +kernel
theorem dX_begin_32 : decode bX_begin 32 = .ok (.putfield 78, 3) := by decide +kernel
theorem dX_begin_35 : decode bX_begin 35 = .ok (.aload_n 0, 1) := by decide +kernel
theorem dX_begin_36 : decode bX_begin 36 = .ok (.iconst 0, 1) := by decide +kernel
theorem dX_begin_37 : decode bX_begin 37 = .ok (.putfield 52, 3) := by decide +kernel
theorem dX_begin_40 : decode bX_begin 40 = .ok (.aload_n 0, 1) := by decide +kernel
theorem dX_begin_41 : decode bX_begin 41 = .ok (.iconst 0, 1) := by decide +kernel
theorem dX_begin_42 : decode bX_begin 42 = .ok (.putfield 81, 3) := by decide +kernel
theorem dX_begin_45 : decode bX_begin 45 = .ok (.aload_n 0, 1) := by decide +kernel
theorem dX_begin_46 : decode bX_begin 46 = .ok (.iconst 0, 1) := by decide +kernel
theorem dX_begin_47 : decode bX_begin 47 = .ok (.putfield 84, 3) := by decide +kernel
theorem dX_begin_50 : decode bX_begin 50 = .ok (.aload_n 0, 1) := by decide +kernel
theorem dX_begin_51 : decode bX_begin 51 = .ok (.iconst 0, 1) := by decide +kernel
theorem dX_begin_52 : decode bX_begin 52 = .ok (.putfield 42, 3) := by decide +kernel
theorem dX_begin_55 : decode bX_begin 55 = .ok (.aload_n 0, 1) := by decide +kernel
theorem dX_begin_56 : decode bX_begin 56 = .ok (.iconst 0, 1) := by decide +kernel
theorem dX_begin_57 : decode bX_begin 57 = .ok (.putfield 46, 3) := by decide +kernel
theorem dX_begin_60 : decode bX_begin 60 = .ok (.return_, 1) := by decide +kernel
theorem dX_shown_0 : decode bX_shown 0 = .ok (.iload_n 1, 1) := by decide +kernel
theorem dX_shown_1 : decode bX_shown 1 = .ok (.tableswitch 112 0 8 #[51, 56, 61, 66, 71, 76, 89, 102, 107], 51) := by decide +kernel
theorem dX_shown_52 : decode bX_shown 52 = .ok (.aload_n 0, 1) := by decide +kernel
theorem dX_shown_53 : decode bX_shown 53 = .ok (.getfield 66, 3) := by decide +kernel
theorem dX_shown_56 : decode bX_shown 56 = .ok (.ireturn, 1) := by decide +kernel
theorem dX_shown_57 : decode bX_shown 57 = .ok (.aload_n 0, 1) := by decide +kernel
theorem dX_shown_58 : decode bX_shown 58 = .ok (.getfield 69, 3) := by decide +kernel
theorem dX_shown_61 : decode bX_shown 61 = .ok (.ireturn, 1) := by decide +kernel
theorem dX_shown_62 : decode bX_shown 62 = .ok (.aload_n 0, 1) := by decide +kernel
theorem dX_shown_63 : decode bX_shown 63 = .ok (.getfield 72, 3) := by decide +kernel
theorem dX_shown_66 : decode bX_shown 66 = .ok (.ireturn, 1) := by decide +kernel
theorem dX_shown_67 : decode bX_shown 67 = .ok (.aload_n 0, 1) := by decide +kernel
theorem dX_shown_68 : decode bX_shown 68 = .ok (.getfield 75, 3) := by decide +kernel
theorem dX_shown_71 : decode bX_shown 71 = .ok (.ireturn, 1) := by decide +kernel
theorem dX_shown_72 : decode bX_shown 72 = .ok (.aload_n 0, 1) := by decide +kernel
theorem dX_shown_73 : decode bX_shown 73 = .ok (.getfield 78, 3) := by decide +kernel
theorem dX_shown_76 : decode bX_shown 76 = .ok (.ireturn, 1) := by decide +kernel
theorem dX_shown_77 : decode bX_shown 77 = .ok (.aload_n 0, 1) := by decide +kernel
theorem dX_shown_78 : decode bX_shown 78 = .ok (.getfield 42, 3) := by decide +kernel
theorem dX_shown_81 : decode bX_shown 81 = .ok (.ifCond .eq 7, 3) := by decide +kernel
theorem dX_shown_84 : decode bX_shown 84 = .ok (.iconst 1, 1) := by decide +kernel
theorem dX_shown_85 : decode bX_shown 85 = .ok (.goto 4, 3) := by decide +kernel
theorem dX_shown_88 : decode bX_shown 88 = .ok (.iconst 0, 1) := by decide +kernel
theorem dX_shown_89 : decode bX_shown 89 = .ok (.ireturn, 1) := by decide +kernel
theorem dX_shown_90 : decode bX_shown 90 = .ok (.aload_n 0, 1) := by decide +kernel
theorem dX_shown_91 : decode bX_shown 91 = .ok (.getfield 46, 3) := by decide +kernel
theorem dX_shown_94 : decode bX_shown 94 = .ok (.ifCond .eq 7, 3) := by decide +kernel
theorem dX_shown_97 : decode bX_shown 97 = .ok (.iconst 1, 1) := by decide +kernel
theorem dX_shown_98 : decode bX_shown 98 = .ok (.goto 4, 3) := by decide +kernel
theorem dX_shown_101 : decode bX_shown 101 = .ok (.iconst 0, 1) := by decide +kernel
theorem dX_shown_102 : decode bX_shown 102 = .ok (.ireturn, 1) := by decide +kernel
theorem dX_shown_103 : decode bX_shown 103 = .ok (.aload_n 0, 1) := by decide +kernel
theorem dX_shown_104 : decode bX_shown 104 = .ok (.getfield 81, 3) := by decide +kernel
theorem dX_shown_107 : decode bX_shown 107 = .ok (.ireturn, 1) := by decide +kernel
theorem dX_shown_108 : decode bX_shown 108 = .ok (.aload_n 0, 1) := by decide +kernel
theorem dX_shown_109 : decode bX_shown 109 = .ok (.getfield 84, 3) := by decide +kernel
theorem dX_shown_112 : decode bX_shown 112 = .ok (.ireturn, 1) := by decide +kernel
theorem dX_shown_113 : decode bX_shown 113 = .ok (.aload_n 0, 1) := by decide +kernel
theorem dX_shown_114 : decode bX_shown 114 = .ok (.getfield 52, 3) := by decide +kernel
theorem dX_shown_117 : decode bX_shown 117 = .ok (.ireturn, 1) := by decide +kernel
theorem dX_change_0 : decode bX_change 0 = .ok (.iload_n 1, 1) := by decide +kernel
theorem dX_change_1 : decode bX_change 1 = .ok (.tableswitch 81 0 3 #[31, 47, 59, 70], 31) := by decide +kernel
theorem dX_change_32 : decode bX_change 32 = .ok (.aload_n 0, 1) := by decide +kernel
theorem dX_change_33 : decode bX_change 33 = .ok (.iload_n 2, 1) := by decide +kernel
theorem dX_change_34 : decode bX_change 34 = .ok (.ldc 87, 2) := by decide +kernel
theorem dX_change_36 : decode bX_change 36 = .ok (.iand, 1) := by decide +kernel
theorem dX_change_37 : decode bX_change 37 = .ok (.putfield 66, 3) := by decide +kernel
theorem dX_change_40 : decode bX_change 40 = .ok (.aload_n 0, 1) := by decide +kernel
theorem dX_change_41 : decode bX_change 41 = .ok (.iload_n 2, 1) := by decide +kernel
theorem dX_change_42 : decode bX_change 42 = .ok (.invokevirtual 88, 3) := by decide +kernel
theorem dX_change_45 : decode bX_change 45 = .ok (.goto 45, 3) := by decide +kernel
theorem dX_change_48 : decode bX_change 48 = .ok (.aload_n 0, 1) := by decide +kernel
theorem dX_change_49 : decode bX_change 49 = .ok (.iload_n 2, 1) := by decide +kernel
theorem dX_change_50 : decode bX_change 50 = .ok (.sipush 255, 3) := by decide +kernel
theorem dX_change_53 : decode bX_change 53 = .ok (.iand, 1) := by decide +kernel
theorem dX_change_54 : decode bX_change 54 = .ok (.putfield 69, 3) := by decide +kernel
theorem dX_change_57 : decode bX_change 57 = .ok (.goto 33, 3) := by decide +kernel
theorem dX_change_60 : decode bX_change 60 = .ok (.aload_n 0, 1) := by decide +kernel
theorem dX_change_61 : decode bX_change 61 = .ok (.iload_n 2, 1) := by decide +kernel
theorem dX_change_62 : decode bX_change 62 = .ok (.bipush (-16), 2) := by decide +kernel
theorem dX_change_64 : decode bX_change 64 = .ok (.iand, 1) := by decide +kernel
theorem dX_change_65 : decode bX_change 65 = .ok (.putfield 72, 3) := by decide +kernel
theorem dX_change_68 : decode bX_change 68 = .ok (.goto 22, 3) := by decide +kernel
theorem dX_change_71 : decode bX_change 71 = .ok (.aload_n 0, 1) := by decide +kernel
theorem dX_change_72 : decode bX_change 72 = .ok (.iload_n 2, 1) := by decide +kernel
theorem dX_change_73 : decode bX_change 73 = .ok (.bipush (-4), 2) := by decide +kernel
theorem dX_change_75 : decode bX_change 75 = .ok (.iand, 1) := by decide +kernel
theorem dX_change_76 : decode bX_change 76 = .ok (.putfield 75, 3) := by decide +kernel
theorem dX_change_79 : decode bX_change 79 = .ok (.goto 11, 3) := by decide +kernel
theorem dX_change_82 : decode bX_change 82 = .ok (.aload_n 0, 1) := by decide +kernel
theorem dX_change_83 : decode bX_change 83 = .ok (.iload_n 2, 1) := by decide +kernel
theorem dX_change_84 : decode bX_change 84 = .ok (.bipush (-4), 2) := by decide +kernel
theorem dX_change_86 : decode bX_change 86 = .ok (.iand, 1) := by decide +kernel
theorem dX_change_87 : decode bX_change 87 = .ok (.putfield 78, 3) := by decide +kernel
theorem dX_change_90 : decode bX_change 90 = .ok (.return_, 1) := by decide +kernel
theorem dX_has_0 : decode bX_has 0 = .ok (.aload_n 0, 1) := by decide +kernel
theorem dX_has_1 : decode bX_has 1 = .ok (.getfield 66, 3) := by decide +kernel
theorem dX_has_4 : decode bX_has 4 = .ok (.iload_n 1, 1) := by decide +kernel
theorem dX_has_5 : decode bX_has 5 = .ok (.iand, 1) := by decide +kernel
theorem dX_has_6 : decode bX_has 6 = .ok (.ifCond .eq 7, 3) := by decide +kernel
theorem dX_has_9 : decode bX_has 9 = .ok (.iconst 1, 1) := by decide +kernel
theorem dX_has_10 : decode bX_has 10 = .ok (.goto 4, 3) := by decide +kernel
theorem dX_has_13 : decode bX_has 13 = .ok (.iconst 0, 1) := by decide +kernel
theorem dX_has_14 : decode bX_has 14 = .ok (.ireturn, 1) := by decide +kernel
theorem dX_isRegister_0 : decode bX_isRegister 0 = .ok (.iload_n 0, 1) := by decide +kernel
theorem dX_isRegister_1 : decode bX_isRegister 1 = .ok (.ifCond .lt 23, 3) := by decide +kernel
theorem dX_isRegister_4 : decode bX_isRegister 4 = .ok (.iload_n 0, 1) := by decide +kernel
theorem dX_isRegister_5 : decode bX_isRegister 5 = .ok (.bipush 8, 2) := by decide +kernel
theorem dX_isRegister_7 : decode bX_isRegister 7 = .ok (.if_icmp .ge 17, 3) := by decide +kernel
theorem dX_isRegister_10 : decode bX_isRegister 10 = .ok (.iload_n 1, 1) := by decide +kernel
theorem dX_isRegister_11 : decode bX_isRegister 11 = .ok (.ifCond .lt 13, 3) := by decide +kernel
theorem dX_isRegister_14 : decode bX_isRegister 14 = .ok (.iload_n 1, 1) := by decide +kernel
theorem dX_isRegister_15 : decode bX_isRegister 15 = .ok (.bipush 32, 2) := by decide +kernel
theorem dX_isRegister_17 : decode bX_isRegister 17 = .ok (.if_icmp .ge 7, 3) := by decide +kernel
theorem dX_isRegister_20 : decode bX_isRegister 20 = .ok (.iconst 1, 1) := by decide +kernel
theorem dX_isRegister_21 : decode bX_isRegister 21 = .ok (.goto 4, 3) := by decide +kernel
theorem dX_isRegister_24 : decode bX_isRegister 24 = .ok (.iconst 0, 1) := by decide +kernel
theorem dX_isRegister_25 : decode bX_isRegister 25 = .ok (.ireturn, 1) := by decide +kernel
theorem dX_slot_0 : decode bX_slot 0 = .ok (.iload_n 1, 1) := by decide +kernel
theorem dX_slot_1 : decode bX_slot 1 = .ok (.bipush 8, 2) := by decide +kernel
theorem dX_slot_3 : decode bX_slot 3 = .ok (.if_icmp .ge 5, 3) := by decide +kernel
theorem dX_slot_6 : decode bX_slot 6 = .ok (.iload_n 1, 1) := by decide +kernel
theorem dX_slot_7 : decode bX_slot 7 = .ok (.ireturn, 1) := by decide +kernel
theorem dX_slot_8 : decode bX_slot 8 = .ok (.iload_n 0, 1) := by decide +kernel
theorem dX_slot_9 : decode bX_slot 9 = .ok (.bipush 16, 2) := by decide +kernel
theorem dX_slot_11 : decode bX_slot 11 = .ok (.imul, 1) := by decide +kernel
theorem dX_slot_12 : decode bX_slot 12 = .ok (.iload_n 1, 1) := by decide +kernel
theorem dX_slot_13 : decode bX_slot 13 = .ok (.iadd, 1) := by decide +kernel
theorem dX_slot_14 : decode bX_slot 14 = .ok (.bipush 8, 2) := by decide +kernel
theorem dX_slot_16 : decode bX_slot 16 = .ok (.isub, 1) := by decide +kernel
theorem dX_slot_17 : decode bX_slot 17 = .ok (.istore_n 2, 1) := by decide +kernel
theorem dX_slot_18 : decode bX_slot 18 = .ok (.bipush 8, 2) := by decide +kernel
theorem dX_slot_20 : decode bX_slot 20 = .ok (.iload_n 2, 1) := by decide +kernel
theorem dX_slot_21 : decode bX_slot 21 = .ok (.bipush 127, 2) := by decide +kernel
theorem dX_slot_23 : decode bX_slot 23 = .ok (.iand, 1) := by decide +kernel
theorem dX_slot_24 : decode bX_slot 24 = .ok (.iadd, 1) := by decide +kernel
theorem dX_slot_25 : decode bX_slot 25 = .ok (.ireturn, 1) := by decide +kernel
theorem dX_read_0 : decode bX_read 0 = .ok (.aload_n 0, 1) := by decide +kernel
theorem dX_read_1 : decode bX_read 1 = .ok (.getfield 13, 3) := by decide +kernel
theorem dX_read_4 : decode bX_read 4 = .ok (.aload_n 0, 1) := by decide +kernel
theorem dX_read_5 : decode bX_read 5 = .ok (.invokevirtual 92, 3) := by decide +kernel
theorem dX_read_8 : decode bX_read 8 = .ok (.iload_n 1, 1) := by decide +kernel
theorem dX_read_9 : decode bX_read 9 = .ok (.invokestatic 30, 3) := by decide +kernel
theorem dX_read_12 : decode bX_read 12 = .ok (.iaload, 1) := by decide +kernel
theorem dX_read_13 : decode bX_read 13 = .ok (.ireturn, 1) := by decide +kernel
theorem dX_write_0 : decode bX_write 0 = .ok (.iload_n 1, 1) := by decide +kernel
theorem dX_write_1 : decode bX_write 1 = .ok (.ifCond .eq 17, 3) := by decide +kernel
theorem dX_write_4 : decode bX_write 4 = .ok (.aload_n 0, 1) := by decide +kernel
theorem dX_write_5 : decode bX_write 5 = .ok (.getfield 13, 3) := by decide +kernel
theorem dX_write_8 : decode bX_write 8 = .ok (.aload_n 0, 1) := by decide +kernel
theorem dX_write_9 : decode bX_write 9 = .ok (.invokevirtual 92, 3) := by decide +kernel
theorem dX_write_12 : decode bX_write 12 = .ok (.iload_n 1, 1) := by decide +kernel
theorem dX_write_13 : decode bX_write 13 = .ok (.invokestatic 30, 3) := by decide +kernel
theorem dX_write_16 : decode bX_write 16 = .ok (.iload_n 2, 1) := by decide +kernel
theorem dX_write_17 : decode bX_write 17 = .ok (.iastore, 1) := by decide +kernel
theorem dX_write_18 : decode bX_write 18 = .ok (.return_, 1) := by decide +kernel
theorem dX_window_0 : decode bX_window 0 = .ok (.aload_n 0, 1) := by decide +kernel
theorem dX_window_1 : decode bX_window 1 = .ok (.getfield 66, 3) := by decide +kernel
theorem dX_window_4 : decode bX_window 4 = .ok (.bipush 7, 2) := by decide +kernel
theorem dX_window_6 : decode bX_window 6 = .ok (.iand, 1) := by decide +kernel
theorem dX_window_7 : decode bX_window 7 = .ok (.ireturn, 1) := by decide +kernel
theorem dX_windowBeside_0 : decode bX_windowBeside 0 = .ok (.aload_n 0, 1) := by decide +kernel
theorem dX_windowBeside_1 : decode bX_windowBeside 1 = .ok (.invokevirtual 92, 3) := by decide +kernel
theorem dX_windowBeside_4 : decode bX_windowBeside 4 = .ok (.iload_n 1, 1) := by decide +kernel
theorem dX_windowBeside_5 : decode bX_windowBeside 5 = .ok (.iadd, 1) := by decide +kernel
theorem dX_windowBeside_6 : decode bX_windowBeside 6 = .ok (.bipush 7, 2) := by decide +kernel
theorem dX_windowBeside_8 : decode bX_windowBeside 8 = .ok (.iand, 1) := by decide +kernel
theorem dX_windowBeside_9 : decode bX_windowBeside 9 = .ok (.ireturn, 1) := by decide +kernel
theorem dX_turnTo_0 : decode bX_turnTo 0 = .ok (.aload_n 0, 1) := by decide +kernel
theorem dX_turnTo_1 : decode bX_turnTo 1 = .ok (.aload_n 0, 1) := by decide +kernel
theorem dX_turnTo_2 : decode bX_turnTo 2 = .ok (.getfield 66, 3) := by decide +kernel
theorem dX_turnTo_5 : decode bX_turnTo 5 = .ok (.bipush (-32), 2) := by decide +kernel
theorem dX_turnTo_7 : decode bX_turnTo 7 = .ok (.iand, 1) := by decide +kernel
theorem dX_turnTo_8 : decode bX_turnTo 8 = .ok (.iload_n 1, 1) := by decide +kernel
theorem dX_turnTo_9 : decode bX_turnTo 9 = .ok (.bipush 7, 2) := by decide +kernel
theorem dX_turnTo_11 : decode bX_turnTo 11 = .ok (.iand, 1) := by decide +kernel
theorem dX_turnTo_12 : decode bX_turnTo 12 = .ok (.ior, 1) := by decide +kernel
theorem dX_turnTo_13 : decode bX_turnTo 13 = .ok (.putfield 66, 3) := by decide +kernel
theorem dX_turnTo_16 : decode bX_turnTo 16 = .ok (.return_, 1) := by decide +kernel
theorem dX_isInvalid_0 : decode bX_isInvalid 0 = .ok (.aload_n 0, 1) := by decide +kernel
theorem dX_isInvalid_1 : decode bX_isInvalid 1 = .ok (.getfield 69, 3) := by decide +kernel
theorem dX_isInvalid_4 : decode bX_isInvalid 4 = .ok (.iload_n 1, 1) := by decide +kernel
theorem dX_isInvalid_5 : decode bX_isInvalid 5 = .ok (.iushr, 1) := by decide +kernel
theorem dX_isInvalid_6 : decode bX_isInvalid 6 = .ok (.iconst 1, 1) := by decide +kernel
theorem dX_isInvalid_7 : decode bX_isInvalid 7 = .ok (.iand, 1) := by decide +kernel
theorem dX_isInvalid_8 : decode bX_isInvalid 8 = .ok (.ifCond .eq 7, 3) := by decide +kernel
theorem dX_isInvalid_11 : decode bX_isInvalid 11 = .ok (.iconst 1, 1) := by decide +kernel
theorem dX_isInvalid_12 : decode bX_isInvalid 12 = .ok (.goto 4, 3) := by decide +kernel
theorem dX_isInvalid_15 : decode bX_isInvalid 15 = .ok (.iconst 0, 1) := by decide +kernel
theorem dX_isInvalid_16 : decode bX_isInvalid 16 = .ok (.ireturn, 1) := by decide +kernel
theorem dX_isInMemory_0 : decode bX_isInMemory 0 = .ok (.iload_n 0, 1) := by decide +kernel
theorem dX_isInMemory_1 : decode bX_isInMemory 1 = .ok (.ifCond .lt 14, 3) := by decide +kernel
theorem dX_isInMemory_4 : decode bX_isInMemory 4 = .ok (.iload_n 0, 1) := by decide +kernel
theorem dX_isInMemory_5 : decode bX_isInMemory 5 = .ok (.sipush 4096, 3) := by decide +kernel
theorem dX_isInMemory_8 : decode bX_isInMemory 8 = .ok (.if_icmp .ge 7, 3) := by decide +kernel
theorem dX_isInMemory_11 : decode bX_isInMemory 11 = .ok (.iconst 1, 1) := by decide +kernel
theorem dX_isInMemory_12 : decode bX_isInMemory 12 = .ok (.goto 4, 3) := by decide +kernel
theorem dX_isInMemory_15 : decode bX_isInMemory 15 = .ok (.iconst 0, 1) := by decide +kernel
theorem dX_isInMemory_16 : decode bX_isInMemory 16 = .ok (.ireturn, 1) := by decide +kernel
theorem dX_isWordOfMemory_0 : decode bX_isWordOfMemory 0 = .ok (.iload_n 0, 1) := by decide +kernel
theorem dX_isWordOfMemory_1 : decode bX_isWordOfMemory 1 = .ok (.invokestatic 95, 3) := by decide +kernel
theorem dX_isWordOfMemory_4 : decode bX_isWordOfMemory 4 = .ok (.ifCond .eq 13, 3) := by decide +kernel
theorem dX_isWordOfMemory_7 : decode bX_isWordOfMemory 7 = .ok (.iload_n 0, 1) := by decide +kernel
theorem dX_isWordOfMemory_8 : decode bX_isWordOfMemory 8 = .ok (.iconst 3, 1) := by decide +kernel
theorem dX_isWordOfMemory_9 : decode bX_isWordOfMemory 9 = .ok (.iand, 1) := by decide +kernel
theorem dX_isWordOfMemory_10 : decode bX_isWordOfMemory 10 = .ok (.ifCond .ne 7, 3) := by decide +kernel
theorem dX_isWordOfMemory_13 : decode bX_isWordOfMemory 13 = .ok (.iconst 1, 1) := by decide +kernel
theorem dX_isWordOfMemory_14 : decode bX_isWordOfMemory 14 = .ok (.goto 4, 3) := by decide +kernel
theorem dX_isWordOfMemory_17 : decode bX_isWordOfMemory 17 = .ok (.iconst 0, 1) := by decide +kernel
theorem dX_isWordOfMemory_18 : decode bX_isWordOfMemory 18 = .ok (.ireturn, 1) := by decide +kernel
theorem dX_shiftOfPart_0 : decode bX_shiftOfPart 0 = .ok (.bipush 8, 2) := by decide +kernel
theorem dX_shiftOfPart_2 : decode bX_shiftOfPart 2 = .ok (.iconst 4, 1) := by decide +kernel
theorem dX_shiftOfPart_3 : decode bX_shiftOfPart 3 = .ok (.iload_n 1, 1) := by decide +kernel
theorem dX_shiftOfPart_4 : decode bX_shiftOfPart 4 = .ok (.isub, 1) := by decide +kernel
theorem dX_shiftOfPart_5 : decode bX_shiftOfPart 5 = .ok (.iload_n 0, 1) := by decide +kernel
theorem dX_shiftOfPart_6 : decode bX_shiftOfPart 6 = .ok (.iconst 3, 1) := by decide +kernel
theorem dX_shiftOfPart_7 : decode bX_shiftOfPart 7 = .ok (.iand, 1) := by decide +kernel
theorem dX_shiftOfPart_8 : decode bX_shiftOfPart 8 = .ok (.isub, 1) := by decide +kernel
theorem dX_shiftOfPart_9 : decode bX_shiftOfPart 9 = .ok (.imul, 1) := by decide +kernel
theorem dX_shiftOfPart_10 : decode bX_shiftOfPart 10 = .ok (.ireturn, 1) := by decide +kernel
theorem dX_maskOfPart_0 : decode bX_maskOfPart 0 = .ok (.iconst (-1), 1) := by decide +kernel
theorem dX_maskOfPart_1 : decode bX_maskOfPart 1 = .ok (.bipush 32, 2) := by decide +kernel
theorem dX_maskOfPart_3 : decode bX_maskOfPart 3 = .ok (.bipush 8, 2) := by decide +kernel
theorem dX_maskOfPart_5 : decode bX_maskOfPart 5 = .ok (.iload_n 0, 1) := by decide +kernel
theorem dX_maskOfPart_6 : decode bX_maskOfPart 6 = .ok (.imul, 1) := by decide +kernel
theorem dX_maskOfPart_7 : decode bX_maskOfPart 7 = .ok (.isub, 1) := by decide +kernel
theorem dX_maskOfPart_8 : decode bX_maskOfPart 8 = .ok (.iushr, 1) := by decide +kernel
theorem dX_maskOfPart_9 : decode bX_maskOfPart 9 = .ok (.ireturn, 1) := by decide +kernel
theorem dX_load_0 : decode bX_load 0 = .ok (.aload_n 0, 1) := by decide +kernel
theorem dX_load_1 : decode bX_load 1 = .ok (.getfield 9, 3) := by decide +kernel
theorem dX_load_4 : decode bX_load 4 = .ok (.iload_n 1, 1) := by decide +kernel
theorem dX_load_5 : decode bX_load 5 = .ok (.iconst 2, 1) := by decide +kernel
theorem dX_load_6 : decode bX_load 6 = .ok (.iushr, 1) := by decide +kernel
theorem dX_load_7 : decode bX_load 7 = .ok (.iaload, 1) := by decide +kernel
theorem dX_load_8 : decode bX_load 8 = .ok (.iload_n 1, 1) := by decide +kernel
theorem dX_load_9 : decode bX_load 9 = .ok (.iload_n 2, 1) := by decide +kernel
theorem dX_load_10 : decode bX_load 10 = .ok (.invokestatic 98, 3) := by decide +kernel
theorem dX_load_13 : decode bX_load 13 = .ok (.iushr, 1) := by decide +kernel
theorem dX_load_14 : decode bX_load 14 = .ok (.iload_n 2, 1) := by decide +kernel
theorem dX_load_15 : decode bX_load 15 = .ok (.invokestatic 101, 3) := by decide +kernel
theorem dX_load_18 : decode bX_load 18 = .ok (.iand, 1) := by decide +kernel
theorem dX_load_19 : decode bX_load 19 = .ok (.ireturn, 1) := by decide +kernel
theorem dX_store_0 : decode bX_store 0 = .ok (.iload_n 1, 1) := by decide +kernel
theorem dX_store_1 : decode bX_store 1 = .ok (.iload_n 2, 1) := by decide +kernel
theorem dX_store_2 : decode bX_store 2 = .ok (.invokestatic 98, 3) := by decide +kernel
theorem dX_store_5 : decode bX_store 5 = .ok (.istore 4, 2) := by decide +kernel
theorem dX_store_7 : decode bX_store 7 = .ok (.iload_n 2, 1) := by decide +kernel
theorem dX_store_8 : decode bX_store 8 = .ok (.invokestatic 101, 3) := by decide +kernel
theorem dX_store_11 : decode bX_store 11 = .ok (.istore 5, 2) := by decide +kernel
theorem dX_store_13 : decode bX_store 13 = .ok (.aload_n 0, 1) := by decide +kernel
theorem dX_store_14 : decode bX_store 14 = .ok (.getfield 9, 3) := by decide +kernel
theorem dX_store_17 : decode bX_store 17 = .ok (.iload_n 1, 1) := by decide +kernel
theorem dX_store_18 : decode bX_store 18 = .ok (.iconst 2, 1) := by decide +kernel
theorem dX_store_19 : decode bX_store 19 = .ok (.iushr, 1) := by decide +kernel
theorem dX_store_20 : decode bX_store 20 = .ok (.iaload, 1) := by decide +kernel
theorem dX_store_21 : decode bX_store 21 = .ok (.iload 5, 2) := by decide +kernel
theorem dX_store_23 : decode bX_store 23 = .ok (.iload 4, 2) := by decide +kernel
theorem dX_store_25 : decode bX_store 25 = .ok (.ishl, 1) := by decide +kernel
theorem dX_store_26 : decode bX_store 26 = .ok (.iconst (-1), 1) := by decide +kernel
theorem dX_store_27 : decode bX_store 27 = .ok (.ixor, 1) := by decide +kernel
theorem dX_store_28 : decode bX_store 28 = .ok (.iand, 1) := by decide +kernel
theorem dX_store_29 : decode bX_store 29 = .ok (.istore 6, 2) := by decide +kernel
theorem dX_store_31 : decode bX_store 31 = .ok (.aload_n 0, 1) := by decide +kernel
theorem dX_store_32 : decode bX_store 32 = .ok (.getfield 9, 3) := by decide +kernel
theorem dX_store_35 : decode bX_store 35 = .ok (.iload_n 1, 1) := by decide +kernel
theorem dX_store_36 : decode bX_store 36 = .ok (.iconst 2, 1) := by decide +kernel
theorem dX_store_37 : decode bX_store 37 = .ok (.iushr, 1) := by decide +kernel
theorem dX_store_38 : decode bX_store 38 = .ok (.iload 6, 2) := by decide +kernel
theorem dX_store_40 : decode bX_store 40 = .ok (.iload_n 3, 1) := by decide +kernel
theorem dX_store_41 : decode bX_store 41 = .ok (.iload 5, 2) := by decide +kernel
theorem dX_store_43 : decode bX_store 43 = .ok (.iand, 1) := by decide +kernel
theorem dX_store_44 : decode bX_store 44 = .ok (.iload 4, 2) := by decide +kernel
theorem dX_store_46 : decode bX_store 46 = .ok (.ishl, 1) := by decide +kernel
theorem dX_store_47 : decode bX_store 47 = .ok (.ior, 1) := by decide +kernel
theorem dX_store_48 : decode bX_store 48 = .ok (.iastore, 1) := by decide +kernel
theorem dX_store_49 : decode bX_store 49 = .ok (.return_, 1) := by decide +kernel
theorem dX_advance_0 : decode bX_advance 0 = .ok (.aload_n 0, 1) := by decide +kernel
theorem dX_advance_1 : decode bX_advance 1 = .ok (.getfield 46, 3) := by decide +kernel
theorem dX_advance_4 : decode bX_advance 4 = .ok (.ifCond .eq 5, 3) := by decide +kernel
theorem dX_advance_7 : decode bX_advance 7 = .ok (.iconst 2, 1) := by decide +kernel
theorem dX_advance_8 : decode bX_advance 8 = .ok (.ireturn, 1) := by decide +kernel
theorem dX_advance_9 : decode bX_advance 9 = .ok (.aload_n 0, 1) := by decide +kernel
theorem dX_advance_10 : decode bX_advance 10 = .ok (.dup, 1) := by decide +kernel
theorem dX_advance_11 : decode bX_advance 11 = .ok (.getfield 81, 3) := by decide +kernel
theorem dX_advance_14 : decode bX_advance 14 = .ok (.iconst 1, 1) := by decide +kernel
theorem dX_advance_15 : decode bX_advance 15 = .ok (.iadd, 1) := by decide +kernel
theorem dX_advance_16 : decode bX_advance 16 = .ok (.putfield 81, 3) := by decide +kernel
theorem dX_advance_19 : decode bX_advance 19 = .ok (.aload_n 0, 1) := by decide +kernel
theorem dX_advance_20 : decode bX_advance 20 = .ok (.getfield 42, 3) := by decide +kernel
theorem dX_advance_23 : decode bX_advance 23 = .ok (.ifCond .eq 15, 3) := by decide +kernel
theorem dX_advance_26 : decode bX_advance 26 = .ok (.aload_n 0, 1) := by decide +kernel
theorem dX_advance_27 : decode bX_advance 27 = .ok (.iconst 0, 1) := by decide +kernel
theorem dX_advance_28 : decode bX_advance 28 = .ok (.putfield 42, 3) := by decide +kernel
theorem dX_advance_31 : decode bX_advance 31 = .ok (.aload_n 0, 1) := by decide +kernel
theorem dX_advance_32 : decode bX_advance 32 = .ok (.invokevirtual 104, 3) := by decide +kernel
theorem dX_advance_35 : decode bX_advance 35 = .ok (.pop, 1) := by decide +kernel
theorem dX_advance_36 : decode bX_advance 36 = .ok (.iconst 1, 1) := by decide +kernel
theorem dX_advance_37 : decode bX_advance 37 = .ok (.ireturn, 1) := by decide +kernel
theorem dX_advance_38 : decode bX_advance 38 = .ok (.aload_n 0, 1) := by decide +kernel
theorem dX_advance_39 : decode bX_advance 39 = .ok (.invokevirtual 107, 3) := by decide +kernel
theorem dX_advance_42 : decode bX_advance 42 = .ok (.ifCond .eq 15, 3) := by decide +kernel
theorem dX_advance_45 : decode bX_advance 45 = .ok (.aload_n 0, 1) := by decide +kernel
theorem dX_advance_46 : decode bX_advance 46 = .ok (.bipush 16, 2) := by decide +kernel
theorem dX_advance_48 : decode bX_advance 48 = .ok (.aload_n 0, 1) := by decide +kernel
theorem dX_advance_49 : decode bX_advance 49 = .ok (.getfield 52, 3) := by decide +kernel
theorem dX_advance_52 : decode bX_advance 52 = .ok (.iadd, 1) := by decide +kernel
theorem dX_advance_53 : decode bX_advance 53 = .ok (.invokevirtual 111, 3) := by decide +kernel
theorem dX_advance_56 : decode bX_advance 56 = .ok (.ireturn, 1) := by decide +kernel
theorem dX_advance_57 : decode bX_advance 57 = .ok (.aload_n 0, 1) := by decide +kernel
theorem dX_advance_58 : decode bX_advance 58 = .ok (.getfield 75, 3) := by decide +kernel
theorem dX_advance_61 : decode bX_advance 61 = .ok (.invokestatic 19, 3) := by decide +kernel
theorem dX_advance_64 : decode bX_advance 64 = .ok (.ifCond .ne 9, 3) := by decide +kernel
theorem dX_advance_67 : decode bX_advance 67 = .ok (.aload_n 0, 1) := by decide +kernel
theorem dX_advance_68 : decode bX_advance 68 = .ok (.iconst 1, 1) := by decide +kernel
theorem dX_advance_69 : decode bX_advance 69 = .ok (.invokevirtual 111, 3) := by decide +kernel
theorem dX_advance_72 : decode bX_advance 72 = .ok (.ireturn, 1) := by decide +kernel
theorem dX_advance_73 : decode bX_advance 73 = .ok (.aload_n 0, 1) := by decide +kernel
theorem dX_advance_74 : decode bX_advance 74 = .ok (.aload_n 0, 1) := by decide +kernel
theorem dX_advance_75 : decode bX_advance 75 = .ok (.getfield 9, 3) := by decide +kernel
theorem dX_advance_78 : decode bX_advance 78 = .ok (.aload_n 0, 1) := by decide +kernel
theorem dX_advance_79 : decode bX_advance 79 = .ok (.getfield 75, 3) := by decide +kernel
theorem dX_advance_82 : decode bX_advance 82 = .ok (.iconst 2, 1) := by decide +kernel
theorem dX_advance_83 : decode bX_advance 83 = .ok (.iushr, 1) := by decide +kernel
theorem dX_advance_84 : decode bX_advance 84 = .ok (.iaload, 1) := by decide +kernel
theorem dX_advance_85 : decode bX_advance 85 = .ok (.invokevirtual 114, 3) := by decide +kernel
theorem dX_advance_88 : decode bX_advance 88 = .ok (.ireturn, 1) := by decide +kernel
theorem dX_isInterrupted_0 : decode bX_isInterrupted 0 = .ok (.aload_n 0, 1) := by decide +kernel
theorem dX_isInterrupted_1 : decode bX_isInterrupted 1 = .ok (.getfield 66, 3) := by decide +kernel
theorem dX_isInterrupted_4 : decode bX_isInterrupted 4 = .ok (.bipush 8, 2) := by decide +kernel
theorem dX_isInterrupted_6 : decode bX_isInterrupted 6 = .ok (.iushr, 1) := by decide +kernel
theorem dX_isInterrupted_7 : decode bX_isInterrupted 7 = .ok (.bipush 15, 2) := by decide +kernel
theorem dX_isInterrupted_9 : decode bX_isInterrupted 9 = .ok (.iand, 1) := by decide +kernel
theorem dX_isInterrupted_10 : decode bX_isInterrupted 10 = .ok (.istore_n 1, 1) := by decide +kernel
theorem dX_isInterrupted_11 : decode bX_isInterrupted 11 = .ok (.aload_n 0, 1) := by decide +kernel
theorem dX_isInterrupted_12 : decode bX_isInterrupted 12 = .ok (.bipush 32, 2) := by decide +kernel
theorem dX_isInterrupted_14 : decode bX_isInterrupted 14 = .ok (.invokevirtual 117, 3) := by decide +kernel
theorem dX_isInterrupted_17 : decode bX_isInterrupted 17 = .ok (.ifCond .eq 24, 3) := by decide +kernel
theorem dX_isInterrupted_20 : decode bX_isInterrupted 20 = .ok (.aload_n 0, 1) := by decide +kernel
theorem dX_isInterrupted_21 : decode bX_isInterrupted 21 = .ok (.getfield 52, 3) := by decide +kernel
theorem dX_isInterrupted_24 : decode bX_isInterrupted 24 = .ok (.bipush 15, 2) := by decide +kernel
theorem dX_isInterrupted_26 : decode bX_isInterrupted 26 = .ok (.if_icmp .eq 11, 3) := by decide +kernel
theorem dX_isInterrupted_29 : decode bX_isInterrupted 29 = .ok (.aload_n 0, 1) := by decide +kernel
theorem dX_isInterrupted_30 : decode bX_isInterrupted 30 = .ok (.getfield 52, 3) := by decide +kernel
theorem dX_isInterrupted_33 : decode bX_isInterrupted 33 = .ok (.iload_n 1, 1) := by decide +kernel
theorem dX_isInterrupted_34 : decode bX_isInterrupted 34 = .ok (.if_icmp .le 7, 3) := by decide +kernel
theorem dX_isInterrupted_37 : decode bX_isInterrupted 37 = .ok (.iconst 1, 1) := by decide +kernel
theorem dX_isInterrupted_38 : decode bX_isInterrupted 38 = .ok (.goto 4, 3) := by decide +kernel
theorem dX_isInterrupted_41 : decode bX_isInterrupted 41 = .ok (.iconst 0, 1) := by decide +kernel
theorem dX_isInterrupted_42 : decode bX_isInterrupted 42 = .ok (.ireturn, 1) := by decide +kernel
theorem dX_goOn_0 : decode bX_goOn 0 = .ok (.aload_n 0, 1) := by decide +kernel
theorem dX_goOn_1 : decode bX_goOn 1 = .ok (.aload_n 0, 1) := by decide +kernel
theorem dX_goOn_2 : decode bX_goOn 2 = .ok (.getfield 78, 3) := by decide +kernel
theorem dX_goOn_5 : decode bX_goOn 5 = .ok (.iconst 4, 1) := by decide +kernel
theorem dX_goOn_6 : decode bX_goOn 6 = .ok (.iadd, 1) := by decide +kernel
theorem dX_goOn_7 : decode bX_goOn 7 = .ok (.invokevirtual 120, 3) := by decide +kernel
theorem dX_goOn_10 : decode bX_goOn 10 = .ok (.ireturn, 1) := by decide +kernel
theorem dX_goTo_0 : decode bX_goTo 0 = .ok (.aload_n 0, 1) := by decide +kernel
theorem dX_goTo_1 : decode bX_goTo 1 = .ok (.aload_n 0, 1) := by decide +kernel
theorem dX_goTo_2 : decode bX_goTo 2 = .ok (.getfield 78, 3) := by decide +kernel
theorem dX_goTo_5 : decode bX_goTo 5 = .ok (.putfield 75, 3) := by decide +kernel
theorem dX_goTo_8 : decode bX_goTo 8 = .ok (.aload_n 0, 1) := by decide +kernel
theorem dX_goTo_9 : decode bX_goTo 9 = .ok (.iload_n 1, 1) := by decide +kernel
theorem dX_goTo_10 : decode bX_goTo 10 = .ok (.putfield 78, 3) := by decide +kernel
theorem dX_goTo_13 : decode bX_goTo 13 = .ok (.iconst 0, 1) := by decide +kernel
theorem dX_goTo_14 : decode bX_goTo 14 = .ok (.ireturn, 1) := by decide +kernel
theorem dX_trap_0 : decode bX_trap 0 = .ok (.aload_n 0, 1) := by decide +kernel
theorem dX_trap_1 : decode bX_trap 1 = .ok (.dup, 1) := by decide +kernel
theorem dX_trap_2 : decode bX_trap 2 = .ok (.getfield 84, 3) := by decide +kernel
theorem dX_trap_5 : decode bX_trap 5 = .ok (.iconst 1, 1) := by decide +kernel
theorem dX_trap_6 : decode bX_trap 6 = .ok (.iadd, 1) := by decide +kernel
theorem dX_trap_7 : decode bX_trap 7 = .ok (.putfield 84, 3) := by decide +kernel
theorem dX_trap_10 : decode bX_trap 10 = .ok (.aload_n 0, 1) := by decide +kernel
theorem dX_trap_11 : decode bX_trap 11 = .ok (.bipush 32, 2) := by decide +kernel
theorem dX_trap_13 : decode bX_trap 13 = .ok (.invokevirtual 117, 3) := by decide +kernel
theorem dX_trap_16 : decode bX_trap 16 = .ok (.ifCond .ne 8, 3) := by decide +kernel
theorem dX_trap_19 : decode bX_trap 19 = .ok (.aload_n 0, 1) := by decide +kernel
theorem dX_trap_20 : decode bX_trap 20 = .ok (.invokevirtual 123, 3) := by decide +kernel
theorem dX_trap_23 : decode bX_trap 23 = .ok (.ireturn, 1) := by decide +kernel
theorem dX_trap_24 : decode bX_trap 24 = .ok (.aload_n 0, 1) := by decide +kernel
theorem dX_trap_25 : decode bX_trap 25 = .ok (.sipush 128, 3) := by decide +kernel
theorem dX_trap_28 : decode bX_trap 28 = .ok (.invokevirtual 117, 3) := by decide +kernel
theorem dX_trap_31 : decode bX_trap 31 = .ok (.ifCond .eq 8, 3) := by decide +kernel
theorem dX_trap_34 : decode bX_trap 34 = .ok (.bipush 64, 2) := by decide +kernel
theorem dX_trap_36 : decode bX_trap 36 = .ok (.goto 4, 3) := by decide +kernel
theorem dX_trap_39 : decode bX_trap 39 = .ok (.iconst 0, 1) := by decide +kernel
theorem dX_trap_40 : decode bX_trap 40 = .ok (.istore_n 2, 1) := by decide +kernel
theorem dX_trap_41 : decode bX_trap 41 = .ok (.aload_n 0, 1) := by decide +kernel
theorem dX_trap_42 : decode bX_trap 42 = .ok (.aload_n 0, 1) := by decide +kernel
theorem dX_trap_43 : decode bX_trap 43 = .ok (.getfield 66, 3) := by decide +kernel
theorem dX_trap_46 : decode bX_trap 46 = .ok (.bipush (-97), 2) := by decide +kernel
theorem dX_trap_48 : decode bX_trap 48 = .ok (.iand, 1) := by decide +kernel
theorem dX_trap_49 : decode bX_trap 49 = .ok (.sipush 128, 3) := by decide +kernel
theorem dX_trap_52 : decode bX_trap 52 = .ok (.ior, 1) := by decide +kernel
theorem dX_trap_53 : decode bX_trap 53 = .ok (.iload_n 2, 1) := by decide +kernel
theorem dX_trap_54 : decode bX_trap 54 = .ok (.ior, 1) := by decide +kernel
theorem dX_trap_55 : decode bX_trap 55 = .ok (.putfield 66, 3) := by decide +kernel
theorem dX_trap_58 : decode bX_trap 58 = .ok (.aload_n 0, 1) := by decide +kernel
theorem dX_trap_59 : decode bX_trap 59 = .ok (.aload_n 0, 1) := by decide +kernel
theorem dX_trap_60 : decode bX_trap 60 = .ok (.iconst (-1), 1) := by decide +kernel
theorem dX_trap_61 : decode bX_trap 61 = .ok (.invokevirtual 126, 3) := by decide +kernel
theorem dX_trap_64 : decode bX_trap 64 = .ok (.invokevirtual 88, 3) := by decide +kernel
theorem dX_trap_67 : decode bX_trap 67 = .ok (.aload_n 0, 1) := by decide +kernel
theorem dX_trap_68 : decode bX_trap 68 = .ok (.bipush 17, 2) := by decide +kernel
theorem dX_trap_70 : decode bX_trap 70 = .ok (.aload_n 0, 1) := by decide +kernel
theorem dX_trap_71 : decode bX_trap 71 = .ok (.getfield 75, 3) := by decide +kernel
theorem dX_trap_74 : decode bX_trap 74 = .ok (.invokevirtual 129, 3) := by decide +kernel
theorem dX_trap_77 : decode bX_trap 77 = .ok (.aload_n 0, 1) := by decide +kernel
theorem dX_trap_78 : decode bX_trap 78 = .ok (.bipush 18, 2) := by decide +kernel
theorem dX_trap_80 : decode bX_trap 80 = .ok (.aload_n 0, 1) := by decide +kernel
theorem dX_trap_81 : decode bX_trap 81 = .ok (.getfield 78, 3) := by decide +kernel
theorem dX_trap_84 : decode bX_trap 84 = .ok (.invokevirtual 129, 3) := by decide +kernel
theorem dX_trap_87 : decode bX_trap 87 = .ok (.aload_n 0, 1) := by decide +kernel
theorem dX_trap_88 : decode bX_trap 88 = .ok (.aload_n 0, 1) := by decide +kernel
theorem dX_trap_89 : decode bX_trap 89 = .ok (.getfield 72, 3) := by decide +kernel
theorem dX_trap_92 : decode bX_trap 92 = .ok (.sipush (-4096), 3) := by decide +kernel
theorem dX_trap_95 : decode bX_trap 95 = .ok (.iand, 1) := by decide +kernel
theorem dX_trap_96 : decode bX_trap 96 = .ok (.iload_n 1, 1) := by decide +kernel
theorem dX_trap_97 : decode bX_trap 97 = .ok (.iconst 4, 1) := by decide +kernel
theorem dX_trap_98 : decode bX_trap 98 = .ok (.ishl, 1) := by decide +kernel
theorem dX_trap_99 : decode bX_trap 99 = .ok (.ior, 1) := by decide +kernel
theorem dX_trap_100 : decode bX_trap 100 = .ok (.putfield 72, 3) := by decide +kernel
theorem dX_trap_103 : decode bX_trap 103 = .ok (.aload_n 0, 1) := by decide +kernel
theorem dX_trap_104 : decode bX_trap 104 = .ok (.aload_n 0, 1) := by decide +kernel
theorem dX_trap_105 : decode bX_trap 105 = .ok (.getfield 72, 3) := by decide +kernel
theorem dX_trap_108 : decode bX_trap 108 = .ok (.putfield 75, 3) := by decide +kernel
theorem dX_trap_111 : decode bX_trap 111 = .ok (.aload_n 0, 1) := by decide +kernel
theorem dX_trap_112 : decode bX_trap 112 = .ok (.aload_n 0, 1) := by decide +kernel
theorem dX_trap_113 : decode bX_trap 113 = .ok (.getfield 72, 3) := by decide +kernel
theorem dX_trap_116 : decode bX_trap 116 = .ok (.iconst 4, 1) := by decide +kernel
theorem dX_trap_117 : decode bX_trap 117 = .ok (.iadd, 1) := by decide +kernel
theorem dX_trap_118 : decode bX_trap 118 = .ok (.putfield 78, 3) := by decide +kernel
theorem dX_trap_121 : decode bX_trap 121 = .ok (.bipush 100, 2) := by decide +kernel
theorem dX_trap_123 : decode bX_trap 123 = .ok (.iload_n 1, 1) := by decide +kernel
theorem dX_trap_124 : decode bX_trap 124 = .ok (.iadd, 1) := by decide +kernel
theorem dX_trap_125 : decode bX_trap 125 = .ok (.ireturn, 1) := by decide +kernel
theorem dX_halt_0 : decode bX_halt 0 = .ok (.aload_n 0, 1) := by decide +kernel
theorem dX_halt_1 : decode bX_halt 1 = .ok (.iconst 1, 1) := by decide +kernel
theorem dX_halt_2 : decode bX_halt 2 = .ok (.putfield 46, 3) := by decide +kernel
theorem dX_halt_5 : decode bX_halt 5 = .ok (.iconst 2, 1) := by decide +kernel
theorem dX_halt_6 : decode bX_halt 6 = .ok (.ireturn, 1) := by decide +kernel
theorem dX_numberOfD_0 : decode bX_numberOfD 0 = .ok (.iload_n 0, 1) := by decide +kernel
theorem dX_numberOfD_1 : decode bX_numberOfD 1 = .ok (.bipush 25, 2) := by decide +kernel
theorem dX_numberOfD_3 : decode bX_numberOfD 3 = .ok (.iushr, 1) := by decide +kernel
theorem dX_numberOfD_4 : decode bX_numberOfD 4 = .ok (.bipush 31, 2) := by decide +kernel
theorem dX_numberOfD_6 : decode bX_numberOfD 6 = .ok (.iand, 1) := by decide +kernel
theorem dX_numberOfD_7 : decode bX_numberOfD 7 = .ok (.ireturn, 1) := by decide +kernel
theorem dX_conditionOf_0 : decode bX_conditionOf 0 = .ok (.iload_n 0, 1) := by decide +kernel
theorem dX_conditionOf_1 : decode bX_conditionOf 1 = .ok (.bipush 25, 2) := by decide +kernel
theorem dX_conditionOf_3 : decode bX_conditionOf 3 = .ok (.iushr, 1) := by decide +kernel
theorem dX_conditionOf_4 : decode bX_conditionOf 4 = .ok (.bipush 15, 2) := by decide +kernel
theorem dX_conditionOf_6 : decode bX_conditionOf 6 = .ok (.iand, 1) := by decide +kernel
theorem dX_conditionOf_7 : decode bX_conditionOf 7 = .ok (.ireturn, 1) := by decide +kernel
theorem dX_kindOf_0 : decode bX_kindOf 0 = .ok (.iload_n 0, 1) := by decide +kernel
theorem dX_kindOf_1 : decode bX_kindOf 1 = .ok (.bipush 19, 2) := by decide +kernel
theorem dX_kindOf_3 : decode bX_kindOf 3 = .ok (.iushr, 1) := by decide +kernel
theorem dX_kindOf_4 : decode bX_kindOf 4 = .ok (.bipush 63, 2) := by decide +kernel
theorem dX_kindOf_6 : decode bX_kindOf 6 = .ok (.iand, 1) := by decide +kernel
theorem dX_kindOf_7 : decode bX_kindOf 7 = .ok (.ireturn, 1) := by decide +kernel
theorem dX_valueOfA_0 : decode bX_valueOfA 0 = .ok (.aload_n 0, 1) := by decide +kernel
theorem dX_valueOfA_1 : decode bX_valueOfA 1 = .ok (.iload_n 1, 1) := by decide +kernel
theorem dX_valueOfA_2 : decode bX_valueOfA 2 = .ok (.bipush 14, 2) := by decide +kernel
theorem dX_valueOfA_4 : decode bX_valueOfA 4 = .ok (.iushr, 1) := by decide +kernel
theorem dX_valueOfA_5 : decode bX_valueOfA 5 = .ok (.bipush 31, 2) := by decide +kernel
theorem dX_valueOfA_7 : decode bX_valueOfA 7 = .ok (.iand, 1) := by decide +kernel
theorem dX_valueOfA_8 : decode bX_valueOfA 8 = .ok (.invokevirtual 132, 3) := by decide +kernel
theorem dX_valueOfA_11 : decode bX_valueOfA 11 = .ok (.ireturn, 1) := by decide +kernel
theorem dX_valueOfB_0 : decode bX_valueOfB 0 = .ok (.iload_n 1, 1) := by decide +kernel
theorem dX_valueOfB_1 : decode bX_valueOfB 1 = .ok (.sipush 8192, 3) := by decide +kernel
theorem dX_valueOfB_4 : decode bX_valueOfB 4 = .ok (.iand, 1) := by decide +kernel
theorem dX_valueOfB_5 : decode bX_valueOfB 5 = .ok (.ifCond .eq 11, 3) := by decide +kernel
theorem dX_valueOfB_8 : decode bX_valueOfB 8 = .ok (.iload_n 1, 1) := by decide +kernel
theorem dX_valueOfB_9 : decode bX_valueOfB 9 = .ok (.bipush 19, 2) := by decide +kernel
theorem dX_valueOfB_11 : decode bX_valueOfB 11 = .ok (.ishl, 1) := by decide +kernel
theorem dX_valueOfB_12 : decode bX_valueOfB 12 = .ok (.bipush 19, 2) := by decide +kernel
theorem dX_valueOfB_14 : decode bX_valueOfB 14 = .ok (.ishr, 1) := by decide +kernel
theorem dX_valueOfB_15 : decode bX_valueOfB 15 = .ok (.ireturn, 1) := by decide +kernel
theorem dX_valueOfB_16 : decode bX_valueOfB 16 = .ok (.aload_n 0, 1) := by decide +kernel
theorem dX_valueOfB_17 : decode bX_valueOfB 17 = .ok (.iload_n 1, 1) := by decide +kernel
theorem dX_valueOfB_18 : decode bX_valueOfB 18 = .ok (.bipush 31, 2) := by decide +kernel
theorem dX_valueOfB_20 : decode bX_valueOfB 20 = .ok (.iand, 1) := by decide +kernel
theorem dX_valueOfB_21 : decode bX_valueOfB 21 = .ok (.invokevirtual 132, 3) := by decide +kernel
theorem dX_valueOfB_24 : decode bX_valueOfB 24 = .ok (.ireturn, 1) := by decide +kernel
theorem dX_perform_0 : decode bX_perform 0 = .ok (.iload_n 1, 1) := by decide +kernel
theorem dX_perform_1 : decode bX_perform 1 = .ok (.bipush 30, 2) := by decide +kernel
theorem dX_perform_3 : decode bX_perform 3 = .ok (.iushr, 1) := by decide +kernel
theorem dX_perform_4 : decode bX_perform 4 = .ok (.tableswitch 50 0 2 #[28, 34, 40], 28) := by decide +kernel
theorem dX_perform_32 : decode bX_perform 32 = .ok (.aload_n 0, 1) := by decide +kernel
theorem dX_perform_33 : decode bX_perform 33 = .ok (.iload_n 1, 1) := by decide +kernel
theorem dX_perform_34 : decode bX_perform 34 = .ok (.invokevirtual 135, 3) := by decide +kernel
theorem dX_perform_37 : decode bX_perform 37 = .ok (.ireturn, 1) := by decide +kernel
theorem dX_perform_38 : decode bX_perform 38 = .ok (.aload_n 0, 1) := by decide +kernel
theorem dX_perform_39 : decode bX_perform 39 = .ok (.iload_n 1, 1) := by decide +kernel
theorem dX_perform_40 : decode bX_perform 40 = .ok (.invokevirtual 138, 3) := by decide +kernel
theorem dX_perform_43 : decode bX_perform 43 = .ok (.ireturn, 1) := by decide +kernel
theorem dX_perform_44 : decode bX_perform 44 = .ok (.aload_n 0, 1) := by decide +kernel
theorem dX_perform_45 : decode bX_perform 45 = .ok (.iload_n 1, 1) := by decide +kernel
theorem dX_perform_46 : decode bX_perform 46 = .ok (.iload_n 1, 1) := by decide +kernel
theorem dX_perform_47 : decode bX_perform 47 = .ok (.invokestatic 141, 3) := by decide +kernel
theorem dX_perform_50 : decode bX_perform 50 = .ok (.invokevirtual 144, 3) := by decide +kernel
theorem dX_perform_53 : decode bX_perform 53 = .ok (.ireturn, 1) := by decide +kernel
theorem dX_perform_54 : decode bX_perform 54 = .ok (.aload_n 0, 1) := by decide +kernel
theorem dX_perform_55 : decode bX_perform 55 = .ok (.iload_n 1, 1) := by decide +kernel
theorem dX_perform_56 : decode bX_perform 56 = .ok (.iload_n 1, 1) := by decide +kernel
theorem dX_perform_57 : decode bX_perform 57 = .ok (.invokestatic 141, 3) := by decide +kernel
theorem dX_perform_60 : decode bX_perform 60 = .ok (.invokevirtual 147, 3) := by decide +kernel
theorem dX_perform_63 : decode bX_perform 63 = .ok (.ireturn, 1) := by decide +kernel
theorem dX_performCall_0 : decode bX_performCall 0 = .ok (.aload_n 0, 1) := by decide +kernel
theorem dX_performCall_1 : decode bX_performCall 1 = .ok (.getfield 75, 3) := by decide +kernel
theorem dX_performCall_4 : decode bX_performCall 4 = .ok (.iload_n 1, 1) := by decide +kernel
theorem dX_performCall_5 : decode bX_performCall 5 = .ok (.iconst 2, 1) := by decide +kernel
theorem dX_performCall_6 : decode bX_performCall 6 = .ok (.ishl, 1) := by decide +kernel
theorem dX_performCall_7 : decode bX_performCall 7 = .ok (.iadd, 1) := by decide +kernel
theorem dX_performCall_8 : decode bX_performCall 8 = .ok (.istore_n 2, 1) := by decide +kernel
theorem dX_performCall_9 : decode bX_performCall 9 = .ok (.aload_n 0, 1) := by decide +kernel
theorem dX_performCall_10 : decode bX_performCall 10 = .ok (.bipush 15, 2) := by decide +kernel
theorem dX_performCall_12 : decode bX_performCall 12 = .ok (.aload_n 0, 1) := by decide +kernel
theorem dX_performCall_13 : decode bX_performCall 13 = .ok (.getfield 75, 3) := by decide +kernel
theorem dX_performCall_16 : decode bX_performCall 16 = .ok (.invokevirtual 129, 3) := by decide +kernel
theorem dX_performCall_19 : decode bX_performCall 19 = .ok (.aload_n 0, 1) := by decide +kernel
theorem dX_performCall_20 : decode bX_performCall 20 = .ok (.iload_n 2, 1) := by decide +kernel
theorem dX_performCall_21 : decode bX_performCall 21 = .ok (.invokevirtual 120, 3) := by decide +kernel
theorem dX_performCall_24 : decode bX_performCall 24 = .ok (.ireturn, 1) := by decide +kernel
theorem dX_performShort_0 : decode bX_performShort 0 = .ok (.iload_n 1, 1) := by decide +kernel
theorem dX_performShort_1 : decode bX_performShort 1 = .ok (.bipush 22, 2) := by decide +kernel
theorem dX_performShort_3 : decode bX_performShort 3 = .ok (.iushr, 1) := by decide +kernel
theorem dX_performShort_4 : decode bX_performShort 4 = .ok (.bipush 7, 2) := by decide +kernel
theorem dX_performShort_6 : decode bX_performShort 6 = .ok (.iand, 1) := by decide +kernel
theorem dX_performShort_7 : decode bX_performShort 7 = .ok (.lookupswitch 48 #[(2, 25), (4, 31)], 25) := by decide +kernel
theorem dX_performShort_32 : decode bX_performShort 32 = .ok (.aload_n 0, 1) := by decide +kernel
theorem dX_performShort_33 : decode bX_performShort 33 = .ok (.iload_n 1, 1) := by decide +kernel
theorem dX_performShort_34 : decode bX_performShort 34 = .ok (.invokevirtual 150, 3) := by decide +kernel
theorem dX_performShort_37 : decode bX_performShort 37 = .ok (.ireturn, 1) := by decide +kernel
theorem dX_performShort_38 : decode bX_performShort 38 = .ok (.aload_n 0, 1) := by decide +kernel
theorem dX_performShort_39 : decode bX_performShort 39 = .ok (.iload_n 1, 1) := by decide +kernel
theorem dX_performShort_40 : decode bX_performShort 40 = .ok (.invokestatic 153, 3) := by decide +kernel
theorem dX_performShort_43 : decode bX_performShort 43 = .ok (.iload_n 1, 1) := by decide +kernel
theorem dX_performShort_44 : decode bX_performShort 44 = .ok (.bipush 10, 2) := by decide +kernel
theorem dX_performShort_46 : decode bX_performShort 46 = .ok (.ishl, 1) := by decide +kernel
theorem dX_performShort_47 : decode bX_performShort 47 = .ok (.invokevirtual 129, 3) := by decide +kernel
theorem dX_performShort_50 : decode bX_performShort 50 = .ok (.aload_n 0, 1) := by decide +kernel
theorem dX_performShort_51 : decode bX_performShort 51 = .ok (.invokevirtual 104, 3) := by decide +kernel
theorem dX_performShort_54 : decode bX_performShort 54 = .ok (.ireturn, 1) := by decide +kernel
theorem dX_performShort_55 : decode bX_performShort 55 = .ok (.aload_n 0, 1) := by decide +kernel
theorem dX_performShort_56 : decode bX_performShort 56 = .ok (.iconst 2, 1) := by decide +kernel
theorem dX_performShort_57 : decode bX_performShort 57 = .ok (.invokevirtual 111, 3) := by decide +kernel
theorem dX_performShort_60 : decode bX_performShort 60 = .ok (.ireturn, 1) := by decide +kernel
theorem dX_performBranch_0 : decode bX_performBranch 0 = .ok (.iload_n 1, 1) := by decide +kernel
theorem dX_performBranch_1 : decode bX_performBranch 1 = .ok (.invokestatic 156, 3) := by decide +kernel
theorem dX_performBranch_4 : decode bX_performBranch 4 = .ok (.istore_n 2, 1) := by decide +kernel
theorem dX_performBranch_5 : decode bX_performBranch 5 = .ok (.aload_n 0, 1) := by decide +kernel
theorem dX_performBranch_6 : decode bX_performBranch 6 = .ok (.iload_n 2, 1) := by decide +kernel
theorem dX_performBranch_7 : decode bX_performBranch 7 = .ok (.invokevirtual 159, 3) := by decide +kernel
theorem dX_performBranch_10 : decode bX_performBranch 10 = .ok (.istore_n 3, 1) := by decide +kernel
theorem dX_performBranch_11 : decode bX_performBranch 11 = .ok (.iload_n 1, 1) := by decide +kernel
theorem dX_performBranch_12 : decode bX_performBranch 12 = .ok (.ldc 162, 2) := by decide +kernel
theorem dX_performBranch_14 : decode bX_performBranch 14 = .ok (.iand, 1) := by decide +kernel
theorem dX_performBranch_15 : decode bX_performBranch 15 = .ok (.ifCond .eq 7, 3) := by decide +kernel
theorem dX_performBranch_18 : decode bX_performBranch 18 = .ok (.iconst 1, 1) := by decide +kernel
theorem dX_performBranch_19 : decode bX_performBranch 19 = .ok (.goto 4, 3) := by decide +kernel
theorem dX_performBranch_22 : decode bX_performBranch 22 = .ok (.iconst 0, 1) := by decide +kernel
theorem dX_performBranch_23 : decode bX_performBranch 23 = .ok (.istore 4, 2) := by decide +kernel
theorem dX_performBranch_25 : decode bX_performBranch 25 = .ok (.aload_n 0, 1) := by decide +kernel
theorem dX_performBranch_26 : decode bX_performBranch 26 = .ok (.iload 4, 2) := by decide +kernel
theorem dX_performBranch_28 : decode bX_performBranch 28 = .ok (.ifCond .eq 17, 3) := by decide +kernel
theorem dX_performBranch_31 : decode bX_performBranch 31 = .ok (.iload_n 3, 1) := by decide +kernel
theorem dX_performBranch_32 : decode bX_performBranch 32 = .ok (.ifCond .eq 9, 3) := by decide +kernel
theorem dX_performBranch_35 : decode bX_performBranch 35 = .ok (.iload_n 2, 1) := by decide +kernel
theorem dX_performBranch_36 : decode bX_performBranch 36 = .ok (.bipush 8, 2) := by decide +kernel
theorem dX_performBranch_38 : decode bX_performBranch 38 = .ok (.if_icmp .ne 7, 3) := by decide +kernel
theorem dX_performBranch_41 : decode bX_performBranch 41 = .ok (.iconst 1, 1) := by decide +kernel
theorem dX_performBranch_42 : decode bX_performBranch 42 = .ok (.goto 4, 3) := by decide +kernel
theorem dX_performBranch_45 : decode bX_performBranch 45 = .ok (.iconst 0, 1) := by decide +kernel
theorem dX_performBranch_46 : decode bX_performBranch 46 = .ok (.putfield 42, 3) := by decide +kernel
theorem dX_performBranch_49 : decode bX_performBranch 49 = .ok (.iload_n 3, 1) := by decide +kernel
theorem dX_performBranch_50 : decode bX_performBranch 50 = .ok (.ifCond .ne 8, 3) := by decide +kernel
theorem dX_performBranch_53 : decode bX_performBranch 53 = .ok (.aload_n 0, 1) := by decide +kernel
theorem dX_performBranch_54 : decode bX_performBranch 54 = .ok (.invokevirtual 104, 3) := by decide +kernel
theorem dX_performBranch_57 : decode bX_performBranch 57 = .ok (.ireturn, 1) := by decide +kernel
theorem dX_performBranch_58 : decode bX_performBranch 58 = .ok (.aload_n 0, 1) := by decide +kernel
theorem dX_performBranch_59 : decode bX_performBranch 59 = .ok (.aload_n 0, 1) := by decide +kernel
theorem dX_performBranch_60 : decode bX_performBranch 60 = .ok (.getfield 75, 3) := by decide +kernel
theorem dX_performBranch_63 : decode bX_performBranch 63 = .ok (.iload_n 1, 1) := by decide +kernel
theorem dX_performBranch_64 : decode bX_performBranch 64 = .ok (.bipush 10, 2) := by decide +kernel
theorem dX_performBranch_66 : decode bX_performBranch 66 = .ok (.ishl, 1) := by decide +kernel
theorem dX_performBranch_67 : decode bX_performBranch 67 = .ok (.bipush 10, 2) := by decide +kernel
theorem dX_performBranch_69 : decode bX_performBranch 69 = .ok (.ishr, 1) := by decide +kernel
theorem dX_performBranch_70 : decode bX_performBranch 70 = .ok (.iconst 2, 1) := by decide +kernel
theorem dX_performBranch_71 : decode bX_performBranch 71 = .ok (.ishl, 1) := by decide +kernel
theorem dX_performBranch_72 : decode bX_performBranch 72 = .ok (.iadd, 1) := by decide +kernel
theorem dX_performBranch_73 : decode bX_performBranch 73 = .ok (.invokevirtual 120, 3) := by decide +kernel
theorem dX_performBranch_76 : decode bX_performBranch 76 = .ok (.ireturn, 1) := by decide +kernel
theorem dX_holds_0 : decode bX_holds 0 = .ok (.iload_n 1, 1) := by decide +kernel
theorem dX_holds_1 : decode bX_holds 1 = .ok (.bipush 8, 2) := by decide +kernel
theorem dX_holds_3 : decode bX_holds 3 = .ok (.if_icmp .lt 7, 3) := by decide +kernel
theorem dX_holds_6 : decode bX_holds 6 = .ok (.iconst 1, 1) := by decide +kernel
theorem dX_holds_7 : decode bX_holds 7 = .ok (.goto 4, 3) := by decide +kernel
theorem dX_holds_10 : decode bX_holds 10 = .ok (.iconst 0, 1) := by decide +kernel
theorem dX_holds_11 : decode bX_holds 11 = .ok (.istore_n 2, 1) := by decide +kernel
theorem dX_holds_12 : decode bX_holds 12 = .ok (.aload_n 0, 1) := by decide +kernel
theorem dX_holds_13 : decode bX_holds 13 = .ok (.iload_n 1, 1) := by decide +kernel
theorem dX_holds_14 : decode bX_holds 14 = .ok (.bipush 7, 2) := by decide +kernel
theorem dX_holds_16 : decode bX_holds 16 = .ok (.iand, 1) := by decide +kernel
theorem dX_holds_17 : decode bX_holds 17 = .ok (.invokevirtual 163, 3) := by decide +kernel
theorem dX_holds_20 : decode bX_holds 20 = .ok (.iload_n 2, 1) := by decide +kernel
theorem dX_holds_21 : decode bX_holds 21 = .ok (.if_icmp .eq 7, 3) := by decide +kernel
theorem dX_holds_24 : decode bX_holds 24 = .ok (.iconst 1, 1) := by decide +kernel
theorem dX_holds_25 : decode bX_holds 25 = .ok (.goto 4, 3) := by decide +kernel
theorem dX_holds_28 : decode bX_holds 28 = .ok (.iconst 0, 1) := by decide +kernel
theorem dX_holds_29 : decode bX_holds 29 = .ok (.ireturn, 1) := by decide +kernel
