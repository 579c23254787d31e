/-! decode rows: laid by my program out of the listing -/
theorem dL_put_0 : decode bL_put 0 = .ok (.aload_n 3, 1) := by decide +kernel
theorem dL_put_1 : decode bL_put 1 = .ok (.iconst 0, 1) := by decide +kernel
theorem dL_put_2 : decode bL_put 2 = .ok (.aload_n 0, 1) := by decide +kernel
theorem dL_put_3 : decode bL_put 3 = .ok (.iload_n 1, 1) := by decide +kernel
theorem dL_put_4 : decode bL_put 4 = .ok (.iload_n 2, 1) := by decide +kernel
theorem dL_put_5 : decode bL_put 5 = .ok (.invokevirtual 7, 3) := by decide +kernel
theorem dL_put_8 : decode bL_put 8 = .ok (.i2l, 1) := by decide +kernel
theorem dL_put_9 : decode bL_put 9 = .ok (.lastore, 1) := by decide +kernel
theorem dL_put_10 : decode bL_put 10 = .ok (.goto 7, 3) := by decide +kernel
theorem dL_put_13 : decode bL_put 13 = .ok (.astore 4, 2) := by decide +kernel
theorem dL_put_15 : decode bL_put 15 = .ok (.iconst 1, 1) := by decide +kernel
theorem dL_put_16 : decode bL_put 16 = .ok (.ireturn, 1) := by decide +kernel
theorem dL_put_17 : decode bL_put 17 = .ok (.iconst 0, 1) := by decide +kernel
theorem dL_put_18 : decode bL_put 18 = .ok (.ireturn, 1) := by decide +kernel
theorem dL_word_0 : decode bL_word 0 = .ok (.aload_n 2, 1) := by decide +kernel
theorem dL_word_1 : decode bL_word 1 = .ok (.iconst 0, 1) := by decide +kernel
theorem dL_word_2 : decode bL_word 2 = .ok (.aload_n 0, 1) := by decide +kernel
theorem dL_word_3 : decode bL_word 3 = .ok (.iload_n 1, 1) := by decide +kernel
theorem dL_word_4 : decode bL_word 4 = .ok (.invokevirtual 15, 3) := by decide +kernel
theorem dL_word_7 : decode bL_word 7 = .ok (.i2l, 1) := by decide +kernel
theorem dL_word_8 : decode bL_word 8 = .ok (.lastore, 1) := by decide +kernel
theorem dL_word_9 : decode bL_word 9 = .ok (.goto 6, 3) := by decide +kernel
theorem dL_word_12 : decode bL_word 12 = .ok (.astore_n 3, 1) := by decide +kernel
theorem dL_word_13 : decode bL_word 13 = .ok (.iconst 1, 1) := by decide +kernel
theorem dL_word_14 : decode bL_word 14 = .ok (.ireturn, 1) := by decide +kernel
theorem dL_word_15 : decode bL_word 15 = .ok (.iconst 0, 1) := by decide +kernel
theorem dL_word_16 : decode bL_word 16 = .ok (.ireturn, 1) := by decide +kernel
theorem dL_set_0 : decode bL_set 0 = .ok (.aload 4, 2) := by decide +kernel
theorem dL_set_2 : decode bL_set 2 = .ok (.iconst 0, 1) := by decide +kernel
theorem dL_set_3 : decode bL_set 3 = .ok (.aload_n 0, 1) := by decide +kernel
theorem dL_set_4 : decode bL_set 4 = .ok (.iload_n 1, 1) := by decide +kernel
theorem dL_set_5 : decode bL_set 5 = .ok (.iload_n 2, 1) := by decide +kernel
theorem dL_set_6 : decode bL_set 6 = .ok (.iload_n 3, 1) := by decide +kernel
theorem dL_set_7 : decode bL_set 7 = .ok (.invokevirtual 19, 3) := by decide +kernel
theorem dL_set_10 : decode bL_set 10 = .ok (.i2l, 1) := by decide +kernel
theorem dL_set_11 : decode bL_set 11 = .ok (.lastore, 1) := by decide +kernel
theorem dL_set_12 : decode bL_set 12 = .ok (.goto 7, 3) := by decide +kernel
theorem dL_set_15 : decode bL_set 15 = .ok (.astore 5, 2) := by decide +kernel
theorem dL_set_17 : decode bL_set 17 = .ok (.iconst 1, 1) := by decide +kernel
theorem dL_set_18 : decode bL_set 18 = .ok (.ireturn, 1) := by decide +kernel
theorem dL_set_19 : decode bL_set 19 = .ok (.iconst 0, 1) := by decide +kernel
theorem dL_set_20 : decode bL_set 20 = .ok (.ireturn, 1) := by decide +kernel
theorem dL_register_0 : decode bL_register 0 = .ok (.aload_n 3, 1) := by decide +kernel
theorem dL_register_1 : decode bL_register 1 = .ok (.iconst 0, 1) := by decide +kernel
theorem dL_register_2 : decode bL_register 2 = .ok (.aload_n 0, 1) := by decide +kernel
theorem dL_register_3 : decode bL_register 3 = .ok (.iload_n 1, 1) := by decide +kernel
theorem dL_register_4 : decode bL_register 4 = .ok (.iload_n 2, 1) := by decide +kernel
theorem dL_register_5 : decode bL_register 5 = .ok (.invokevirtual 23, 3) := by decide +kernel
theorem dL_register_8 : decode bL_register 8 = .ok (.i2l, 1) := by decide +kernel
theorem dL_register_9 : decode bL_register 9 = .ok (.lastore, 1) := by decide +kernel
theorem dL_register_10 : decode bL_register 10 = .ok (.goto 7, 3) := by decide +kernel
theorem dL_register_13 : decode bL_register 13 = .ok (.astore 4, 2) := by decide +kernel
theorem dL_register_15 : decode bL_register 15 = .ok (.iconst 1, 1) := by decide +kernel
theorem dL_register_16 : decode bL_register 16 = .ok (.ireturn, 1) := by decide +kernel
theorem dL_register_17 : decode bL_register 17 = .ok (.iconst 0, 1) := by decide +kernel
theorem dL_register_18 : decode bL_register 18 = .ok (.ireturn, 1) := by decide +kernel
theorem dL_control_0 : decode bL_control 0 = .ok (.aload_n 3, 1) := by decide +kernel
theorem dL_control_1 : decode bL_control 1 = .ok (.iconst 0, 1) := by decide +kernel
theorem dL_control_2 : decode bL_control 2 = .ok (.aload_n 0, 1) := by decide +kernel
theorem dL_control_3 : decode bL_control 3 = .ok (.iload_n 1, 1) := by decide +kernel
theorem dL_control_4 : decode bL_control 4 = .ok (.iload_n 2, 1) := by decide +kernel
theorem dL_control_5 : decode bL_control 5 = .ok (.invokevirtual 26, 3) := by decide +kernel
theorem dL_control_8 : decode bL_control 8 = .ok (.i2l, 1) := by decide +kernel
theorem dL_control_9 : decode bL_control 9 = .ok (.lastore, 1) := by decide +kernel
theorem dL_control_10 : decode bL_control 10 = .ok (.goto 7, 3) := by decide +kernel
theorem dL_control_13 : decode bL_control 13 = .ok (.astore 4, 2) := by decide +kernel
theorem dL_control_15 : decode bL_control 15 = .ok (.iconst 1, 1) := by decide +kernel
theorem dL_control_16 : decode bL_control 16 = .ok (.ireturn, 1) := by decide +kernel
theorem dL_control_17 : decode bL_control 17 = .ok (.iconst 0, 1) := by decide +kernel
theorem dL_control_18 : decode bL_control 18 = .ok (.ireturn, 1) := by decide +kernel
theorem dL_request_0 : decode bL_request 0 = .ok (.aload_n 2, 1) := by decide +kernel
theorem dL_request_1 : decode bL_request 1 = .ok (.iconst 0, 1) := by decide +kernel
theorem dL_request_2 : decode bL_request 2 = .ok (.aload_n 0, 1) := by decide +kernel
theorem dL_request_3 : decode bL_request 3 = .ok (.iload_n 1, 1) := by decide +kernel
theorem dL_request_4 : decode bL_request 4 = .ok (.invokevirtual 29, 3) := by decide +kernel
theorem dL_request_7 : decode bL_request 7 = .ok (.i2l, 1) := by decide +kernel
theorem dL_request_8 : decode bL_request 8 = .ok (.lastore, 1) := by decide +kernel
theorem dL_request_9 : decode bL_request 9 = .ok (.goto 6, 3) := by decide +kernel
theorem dL_request_12 : decode bL_request 12 = .ok (.astore_n 3, 1) := by decide +kernel
theorem dL_request_13 : decode bL_request 13 = .ok (.iconst 1, 1) := by decide +kernel
theorem dL_request_14 : decode bL_request 14 = .ok (.ireturn, 1) := by decide +kernel
theorem dL_request_15 : decode bL_request 15 = .ok (.iconst 0, 1) := by decide +kernel
theorem dL_request_16 : decode bL_request 16 = .ok (.ireturn, 1) := by decide +kernel
theorem dL_run_0 : decode bL_run 0 = .ok (.aload_n 2, 1) := by decide +kernel
theorem dL_run_1 : decode bL_run 1 = .ok (.iconst 0, 1) := by decide +kernel
theorem dL_run_2 : decode bL_run 2 = .ok (.aload_n 0, 1) := by decide +kernel
theorem dL_run_3 : decode bL_run 3 = .ok (.iload_n 1, 1) := by decide +kernel
theorem dL_run_4 : decode bL_run 4 = .ok (.invokevirtual 34, 3) := by decide +kernel
theorem dL_run_7 : decode bL_run 7 = .ok (.i2l, 1) := by decide +kernel
theorem dL_run_8 : decode bL_run 8 = .ok (.lastore, 1) := by decide +kernel
theorem dL_run_9 : decode bL_run 9 = .ok (.goto 6, 3) := by decide +kernel
theorem dL_run_12 : decode bL_run 12 = .ok (.astore_n 3, 1) := by decide +kernel
theorem dL_run_13 : decode bL_run 13 = .ok (.iconst 1, 1) := by decide +kernel
theorem dL_run_14 : decode bL_run 14 = .ok (.ireturn, 1) := by decide +kernel
theorem dL_run_15 : decode bL_run 15 = .ok (.iconst 0, 1) := by decide +kernel
theorem dL_run_16 : decode bL_run 16 = .ok (.ireturn, 1) := by decide +kernel
theorem dL_look_0 : decode bL_look 0 = .ok (.aload_n 2, 1) := by decide +kernel
theorem dL_look_1 : decode bL_look 1 = .ok (.iconst 0, 1) := by decide +kernel
theorem dL_look_2 : decode bL_look 2 = .ok (.aload_n 0, 1) := by decide +kernel
theorem dL_look_3 : decode bL_look 3 = .ok (.iload_n 1, 1) := by decide +kernel
theorem dL_look_4 : decode bL_look 4 = .ok (.invokevirtual 37, 3) := by decide +kernel
theorem dL_look_7 : decode bL_look 7 = .ok (.i2l, 1) := by decide +kernel
theorem dL_look_8 : decode bL_look 8 = .ok (.lastore, 1) := by decide +kernel
theorem dL_look_9 : decode bL_look 9 = .ok (.goto 6, 3) := by decide +kernel
theorem dL_look_12 : decode bL_look 12 = .ok (.astore_n 3, 1) := by decide +kernel
theorem dL_look_13 : decode bL_look 13 = .ok (.iconst 1, 1) := by decide +kernel
theorem dL_look_14 : decode bL_look 14 = .ok (.ireturn, 1) := by decide +kernel
theorem dL_look_15 : decode bL_look 15 = .ok (.iconst 0, 1) := by decide +kernel
theorem dL_look_16 : decode bL_look 16 = .ok (.ireturn, 1) := by decide +kernel
