/-! decode rows: laid by my program out of the listing -/
theorem dM_init_0 : decode bM_init 0 = .ok (.aload_n 0, 1) := by decide +kernel
theorem dM_init_1 : decode bM_init 1 = .ok (.invokespecial 1, 3) := by decide +kernel
theorem dM_init_4 : decode bM_init 4 = .ok (.aload_n 0, 1) := by decide +kernel
theorem dM_init_5 : decode bM_init 5 = .ok (.sipush 4096, 3) := by decide +kernel
theorem dM_init_8 : decode bM_init 8 = .ok (.newarray .int, 2) := by decide +kernel
theorem dM_init_10 : decode bM_init 10 = .ok (.putfield 7, 3) := by decide +kernel
theorem dM_init_13 : decode bM_init 13 = .ok (.aload_n 0, 1) := by decide +kernel
theorem dM_init_14 : decode bM_init 14 = .ok (.bipush 8, 2) := by decide +kernel
theorem dM_init_16 : decode bM_init 16 = .ok (.newarray .int, 2) := by decide +kernel
theorem dM_init_18 : decode bM_init 18 = .ok (.putfield 13, 3) := by decide +kernel
theorem dM_init_21 : decode bM_init 21 = .ok (.aload_n 0, 1) := by decide +kernel
theorem dM_init_22 : decode bM_init 22 = .ok (.sipush 128, 3) := by decide +kernel
theorem dM_init_25 : decode bM_init 25 = .ok (.newarray .int, 2) := by decide +kernel
theorem dM_init_27 : decode bM_init 27 = .ok (.putfield 16, 3) := by decide +kernel
theorem dM_init_30 : decode bM_init 30 = .ok (.aload_n 0, 1) := by decide +kernel
theorem dM_init_31 : decode bM_init 31 = .ok (.iconst 1, 1) := by decide +kernel
theorem dM_init_32 : decode bM_init 32 = .ok (.putfield 19, 3) := by decide +kernel
theorem dM_init_35 : decode bM_init 35 = .ok (.aload_n 0, 1) := by decide +kernel
theorem dM_init_36 : decode bM_init 36 = .ok (.iconst 4, 1) := by decide +kernel
theorem dM_init_37 : decode bM_init 37 = .ok (.putfield 23, 3) := by decide +kernel
theorem dM_init_40 : decode bM_init 40 = .ok (.return_, 1) := by decide +kernel
theorem dM_thrown_0 : decode bM_thrown 0 = .ok (.aload_n 0, 1) := by decide +kernel
theorem dM_thrown_1 : decode bM_thrown 1 = .ok (.getfield 27, 3) := by decide +kernel
theorem dM_thrown_4 : decode bM_thrown 4 = .ok (.ireturn, 1) := by decide +kernel
theorem dM_goes_0 : decode bM_goes 0 = .ok (.aload_n 0, 1) := by decide +kernel
theorem dM_goes_1 : decode bM_goes 1 = .ok (.iload_n 1, 1) := by decide +kernel
theorem dM_goes_2 : decode bM_goes 2 = .ok (.ifCond .eq 7, 3) := by decide +kernel
theorem dM_goes_5 : decode bM_goes 5 = .ok (.iconst 0, 1) := by decide +kernel
theorem dM_goes_6 : decode bM_goes 6 = .ok (.goto 4, 3) := by decide +kernel
theorem dM_goes_9 : decode bM_goes 9 = .ok (.iconst 1, 1) := by decide +kernel
theorem dM_goes_10 : decode bM_goes 10 = .ok (.putfield 27, 3) := by decide +kernel
theorem dM_goes_13 : decode bM_goes 13 = .ok (.iload_n 1, 1) := by decide +kernel
theorem dM_goes_14 : decode bM_goes 14 = .ok (.ireturn, 1) := by decide +kernel
theorem dM_reset_0 : decode bM_reset 0 = .ok (.aload_n 0, 1) := by decide +kernel
theorem dM_reset_1 : decode bM_reset 1 = .ok (.iconst 0, 1) := by decide +kernel
theorem dM_reset_2 : decode bM_reset 2 = .ok (.putfield 27, 3) := by decide +kernel
theorem dM_reset_5 : decode bM_reset 5 = .ok (.iconst 0, 1) := by decide +kernel
theorem dM_reset_6 : decode bM_reset 6 = .ok (.istore_n 1, 1) := by decide +kernel
theorem dM_reset_7 : decode bM_reset 7 = .ok (.iload_n 1, 1) := by decide +kernel
theorem dM_reset_8 : decode bM_reset 8 = .ok (.bipush 8, 2) := by decide +kernel
theorem dM_reset_10 : decode bM_reset 10 = .ok (.if_icmp .ge 16, 3) := by decide +kernel
theorem dM_reset_13 : decode bM_reset 13 = .ok (.aload_n 0, 1) := by decide +kernel
theorem dM_reset_14 : decode bM_reset 14 = .ok (.getfield 13, 3) := by decide +kernel
theorem dM_reset_17 : decode bM_reset 17 = .ok (.iload_n 1, 1) := by decide +kernel
theorem dM_reset_18 : decode bM_reset 18 = .ok (.iconst 0, 1) := by decide +kernel
theorem dM_reset_19 : decode bM_reset 19 = .ok (.iastore, 1) := by decide +kernel
theorem dM_reset_20 : decode bM_reset 20 = .ok (.iinc 1 1, 3) := by decide +kernel
theorem dM_reset_23 : decode bM_reset 23 = .ok (.goto (-16), 3) := by decide +kernel
theorem dM_reset_26 : decode bM_reset 26 = .ok (.iconst 0, 1) := by decide +kernel
theorem dM_reset_27 : decode bM_reset 27 = .ok (.istore_n 1, 1) := by decide +kernel
theorem dM_reset_28 : decode bM_reset 28 = .ok (.iload_n 1, 1) := by decide +kernel
theorem dM_reset_29 : decode bM_reset 29 = .ok (.sipush 128, 3) := by decide +kernel
theorem dM_reset_32 : decode bM_reset 32 = .ok (.if_icmp .ge 16, 3) := by decide +kernel
theorem dM_reset_35 : decode bM_reset 35 = .ok (.aload_n 0, 1) := by decide +kernel
theorem dM_reset_36 : decode bM_reset 36 = .ok (.getfield 16, 3) := by decide +kernel
theorem dM_reset_39 : decode bM_reset 39 = .ok (.iload_n 1, 1) := by decide +kernel
theorem dM_reset_40 : decode bM_reset 40 = .ok (.iconst 0, 1) := by decide +kernel
theorem dM_reset_41 : decode bM_reset 41 = .ok (.iastore, 1) := by decide +kernel
theorem dM_reset_42 : decode bM_reset 42 = .ok (.iinc 1 1, 3) := by decide +kernel
theorem dM_reset_45 : decode bM_reset 45 = .ok (.goto (-17), 3) := by decide +kernel
theorem dM_reset_48 : decode bM_reset 48 = .ok (.aload_n 0, 1) := by decide +kernel
theorem dM_reset_49 : decode bM_reset 49 = .ok (.sipush 128, 3) := by decide +kernel
theorem dM_reset_52 : decode bM_reset 52 = .ok (.invokevirtual 30, 3) := by decide +kernel
theorem dM_reset_55 : decode bM_reset 55 = .ok (.aload_n 0, 1) := by decide +kernel
theorem dM_reset_56 : decode bM_reset 56 = .ok (.iconst 0, 1) := by decide +kernel
theorem dM_reset_57 : decode bM_reset 57 = .ok (.putfield 34, 3) := by decide +kernel
theorem dM_reset_60 : decode bM_reset 60 = .ok (.aload_n 0, 1) := by decide +kernel
theorem dM_reset_61 : decode bM_reset 61 = .ok (.iconst 0, 1) := by decide +kernel
theorem dM_reset_62 : decode bM_reset 62 = .ok (.putfield 37, 3) := by decide +kernel
theorem dM_reset_65 : decode bM_reset 65 = .ok (.aload_n 0, 1) := by decide +kernel
theorem dM_reset_66 : decode bM_reset 66 = .ok (.iconst 0, 1) := by decide +kernel
theorem dM_reset_67 : decode bM_reset 67 = .ok (.putfield 40, 3) := by decide +kernel
theorem dM_reset_70 : decode bM_reset 70 = .ok (.aload_n 0, 1) := by decide +kernel
theorem dM_reset_71 : decode bM_reset 71 = .ok (.iconst 0, 1) := by decide +kernel
theorem dM_reset_72 : decode bM_reset 72 = .ok (.putfield 43, 3) := by decide +kernel
theorem dM_reset_75 : decode bM_reset 75 = .ok (.aload_n 0, 1) := by decide +kernel
theorem dM_reset_76 : decode bM_reset 76 = .ok (.iconst 4, 1) := by decide +kernel
theorem dM_reset_77 : decode bM_reset 77 = .ok (.putfield 23, 3) := by decide +kernel
theorem dM_reset_80 : decode bM_reset 80 = .ok (.aload_n 0, 1) := by decide +kernel
theorem dM_reset_81 : decode bM_reset 81 = .ok (.iconst 0, 1) := by decide +kernel
theorem dM_reset_82 : decode bM_reset 82 = .ok (.putfield 46, 3) := by decide +kernel
theorem dM_reset_85 : decode bM_reset 85 = .ok (.aload_n 0, 1) := by decide +kernel
theorem dM_reset_86 : decode bM_reset 86 = .ok (.iconst 0, 1) := by decide +kernel
theorem dM_reset_87 : decode bM_reset 87 = .ok (.putfield 49, 3) := by decide +kernel
theorem dM_reset_90 : decode bM_reset 90 = .ok (.aload_n 0, 1) := by decide +kernel
theorem dM_reset_91 : decode bM_reset 91 = .ok (.iconst 0, 1) := by decide +kernel
theorem dM_reset_92 : decode bM_reset 92 = .ok (.putfield 52, 3) := by decide +kernel
theorem dM_reset_95 : decode bM_reset 95 = .ok (.aload_n 0, 1) := by decide +kernel
theorem dM_reset_96 : decode bM_reset 96 = .ok (.iconst 0, 1) := by decide +kernel
theorem dM_reset_97 : decode bM_reset 97 = .ok (.putfield 55, 3) := by decide +kernel
theorem dM_reset_100 : decode bM_reset 100 = .ok (.aload_n 0, 1) := by decide +kernel
theorem dM_reset_101 : decode bM_reset 101 = .ok (.iconst 0, 1) := by decide +kernel
theorem dM_reset_102 : decode bM_reset 102 = .ok (.putfield 58, 3) := by decide +kernel
theorem dM_reset_105 : decode bM_reset 105 = .ok (.return_, 1) := by decide +kernel
theorem dM_load_0 : decode bM_load 0 = .ok (.iconst 0, 1) := by decide +kernel
theorem dM_load_1 : decode bM_load 1 = .ok (.istore_n 3, 1) := by decide +kernel
theorem dM_load_2 : decode bM_load 2 = .ok (.iconst 0, 1) := by decide +kernel
theorem dM_load_3 : decode bM_load 3 = .ok (.istore 4, 2) := by decide +kernel
theorem dM_load_5 : decode bM_load 5 = .ok (.iload 4, 2) := by decide +kernel
theorem dM_load_7 : decode bM_load 7 = .ok (.iload_n 2, 1) := by decide +kernel
theorem dM_load_8 : decode bM_load 8 = .ok (.if_icmp .ge 24, 3) := by decide +kernel
theorem dM_load_11 : decode bM_load 11 = .ok (.iload_n 3, 1) := by decide +kernel
theorem dM_load_12 : decode bM_load 12 = .ok (.bipush 8, 2) := by decide +kernel
theorem dM_load_14 : decode bM_load 14 = .ok (.ishl, 1) := by decide +kernel
theorem dM_load_15 : decode bM_load 15 = .ok (.aload_n 0, 1) := by decide +kernel
theorem dM_load_16 : decode bM_load 16 = .ok (.getfield 7, 3) := by decide +kernel
theorem dM_load_19 : decode bM_load 19 = .ok (.iload_n 1, 1) := by decide +kernel
theorem dM_load_20 : decode bM_load 20 = .ok (.iload 4, 2) := by decide +kernel
theorem dM_load_22 : decode bM_load 22 = .ok (.iadd, 1) := by decide +kernel
theorem dM_load_23 : decode bM_load 23 = .ok (.iaload, 1) := by decide +kernel
theorem dM_load_24 : decode bM_load 24 = .ok (.ior, 1) := by decide +kernel
theorem dM_load_25 : decode bM_load 25 = .ok (.istore_n 3, 1) := by decide +kernel
theorem dM_load_26 : decode bM_load 26 = .ok (.iinc 4 1, 3) := by decide +kernel
theorem dM_load_29 : decode bM_load 29 = .ok (.goto (-24), 3) := by decide +kernel
theorem dM_load_32 : decode bM_load 32 = .ok (.iload_n 3, 1) := by decide +kernel
theorem dM_load_33 : decode bM_load 33 = .ok (.ireturn, 1) := by decide +kernel
theorem dM_store_0 : decode bM_store 0 = .ok (.iconst 0, 1) := by decide +kernel
theorem dM_store_1 : decode bM_store 1 = .ok (.istore 4, 2) := by decide +kernel
theorem dM_store_3 : decode bM_store 3 = .ok (.iload 4, 2) := by decide +kernel
theorem dM_store_5 : decode bM_store 5 = .ok (.iload_n 2, 1) := by decide +kernel
theorem dM_store_6 : decode bM_store 6 = .ok (.if_icmp .ge 33, 3) := by decide +kernel
theorem dM_store_9 : decode bM_store 9 = .ok (.aload_n 0, 1) := by decide +kernel
theorem dM_store_10 : decode bM_store 10 = .ok (.getfield 7, 3) := by decide +kernel
theorem dM_store_13 : decode bM_store 13 = .ok (.iload_n 1, 1) := by decide +kernel
theorem dM_store_14 : decode bM_store 14 = .ok (.iload 4, 2) := by decide +kernel
theorem dM_store_16 : decode bM_store 16 = .ok (.iadd, 1) := by decide +kernel
theorem dM_store_17 : decode bM_store 17 = .ok (.iload_n 3, 1) := by decide +kernel
theorem dM_store_18 : decode bM_store 18 = .ok (.bipush 8, 2) := by decide +kernel
theorem dM_store_20 : decode bM_store 20 = .ok (.iload_n 2, 1) := by decide +kernel
theorem dM_store_21 : decode bM_store 21 = .ok (.iconst 1, 1) := by decide +kernel
theorem dM_store_22 : decode bM_store 22 = .ok (.isub, 1) := by decide +kernel
theorem dM_store_23 : decode bM_store 23 = .ok (.iload 4, 2) := by decide +kernel
theorem dM_store_25 : decode bM_store 25 = .ok (.isub, 1) := by decide +kernel
theorem dM_store_26 : decode bM_store 26 = .ok (.imul, 1) := by decide +kernel
theorem dM_store_27 : decode bM_store 27 = .ok (.ishr, 1) := by decide +kernel
theorem dM_store_28 : decode bM_store 28 = .ok (.sipush 255, 3) := by decide +kernel
theorem dM_store_31 : decode bM_store 31 = .ok (.iand, 1) := by decide +kernel
theorem dM_store_32 : decode bM_store 32 = .ok (.iastore, 1) := by decide +kernel
theorem dM_store_33 : decode bM_store 33 = .ok (.iinc 4 1, 3) := by decide +kernel
theorem dM_store_36 : decode bM_store 36 = .ok (.goto (-33), 3) := by decide +kernel
theorem dM_store_39 : decode bM_store 39 = .ok (.return_, 1) := by decide +kernel
theorem dM_inMemory_0 : decode bM_inMemory 0 = .ok (.iload_n 0, 1) := by decide +kernel
theorem dM_inMemory_1 : decode bM_inMemory 1 = .ok (.ifCond .lt 16, 3) := by decide +kernel
theorem dM_inMemory_4 : decode bM_inMemory 4 = .ok (.iload_n 0, 1) := by decide +kernel
theorem dM_inMemory_5 : decode bM_inMemory 5 = .ok (.sipush 4096, 3) := by decide +kernel
theorem dM_inMemory_8 : decode bM_inMemory 8 = .ok (.iload_n 1, 1) := by decide +kernel
theorem dM_inMemory_9 : decode bM_inMemory 9 = .ok (.isub, 1) := by decide +kernel
theorem dM_inMemory_10 : decode bM_inMemory 10 = .ok (.if_icmp .gt 7, 3) := by decide +kernel
theorem dM_inMemory_13 : decode bM_inMemory 13 = .ok (.iconst 1, 1) := by decide +kernel
theorem dM_inMemory_14 : decode bM_inMemory 14 = .ok (.goto 4, 3) := by decide +kernel
theorem dM_inMemory_17 : decode bM_inMemory 17 = .ok (.iconst 0, 1) := by decide +kernel
theorem dM_inMemory_18 : decode bM_inMemory 18 = .ok (.ireturn, 1) := by decide +kernel
theorem dM_isWord_0 : decode bM_isWord 0 = .ok (.iload_n 0, 1) := by decide +kernel
theorem dM_isWord_1 : decode bM_isWord 1 = .ok (.iconst 4, 1) := by decide +kernel
theorem dM_isWord_2 : decode bM_isWord 2 = .ok (.invokestatic 61, 3) := by decide +kernel
theorem dM_isWord_5 : decode bM_isWord 5 = .ok (.ifCond .eq 13, 3) := by decide +kernel
theorem dM_isWord_8 : decode bM_isWord 8 = .ok (.iload_n 0, 1) := by decide +kernel
theorem dM_isWord_9 : decode bM_isWord 9 = .ok (.iconst 4, 1) := by decide +kernel
theorem dM_isWord_10 : decode bM_isWord 10 = .ok (.irem, 1) := by decide +kernel
theorem dM_isWord_11 : decode bM_isWord 11 = .ok (.ifCond .ne 7, 3) := by decide +kernel
theorem dM_isWord_14 : decode bM_isWord 14 = .ok (.iconst 1, 1) := by decide +kernel
theorem dM_isWord_15 : decode bM_isWord 15 = .ok (.goto 4, 3) := by decide +kernel
theorem dM_isWord_18 : decode bM_isWord 18 = .ok (.iconst 0, 1) := by decide +kernel
theorem dM_isWord_19 : decode bM_isWord 19 = .ok (.ireturn, 1) := by decide +kernel
theorem dM_put_0 : decode bM_put 0 = .ok (.aload_n 0, 1) := by decide +kernel
theorem dM_put_1 : decode bM_put 1 = .ok (.iload_n 1, 1) := by decide +kernel
theorem dM_put_2 : decode bM_put 2 = .ok (.invokestatic 65, 3) := by decide +kernel
theorem dM_put_5 : decode bM_put 5 = .ok (.invokevirtual 69, 3) := by decide +kernel
theorem dM_put_8 : decode bM_put 8 = .ok (.ifCond .ne 5, 3) := by decide +kernel
theorem dM_put_11 : decode bM_put 11 = .ok (.iconst 0, 1) := by decide +kernel
theorem dM_put_12 : decode bM_put 12 = .ok (.ireturn, 1) := by decide +kernel
theorem dM_put_13 : decode bM_put 13 = .ok (.aload_n 0, 1) := by decide +kernel
theorem dM_put_14 : decode bM_put 14 = .ok (.iload_n 1, 1) := by decide +kernel
theorem dM_put_15 : decode bM_put 15 = .ok (.iconst 4, 1) := by decide +kernel
theorem dM_put_16 : decode bM_put 16 = .ok (.invokevirtual 73, 3) := by decide +kernel
theorem dM_put_19 : decode bM_put 19 = .ok (.istore_n 3, 1) := by decide +kernel
theorem dM_put_20 : decode bM_put 20 = .ok (.aload_n 0, 1) := by decide +kernel
theorem dM_put_21 : decode bM_put 21 = .ok (.iload_n 1, 1) := by decide +kernel
theorem dM_put_22 : decode bM_put 22 = .ok (.iconst 4, 1) := by decide +kernel
theorem dM_put_23 : decode bM_put 23 = .ok (.iload_n 2, 1) := by decide +kernel
theorem dM_put_24 : decode bM_put 24 = .ok (.invokevirtual 77, 3) := by decide +kernel
theorem dM_put_27 : decode bM_put 27 = .ok (.iload_n 3, 1) := by decide +kernel
theorem dM_put_28 : decode bM_put 28 = .ok (.ireturn, 1) := by decide +kernel
theorem dM_word_0 : decode bM_word 0 = .ok (.aload_n 0, 1) := by decide +kernel
theorem dM_word_1 : decode bM_word 1 = .ok (.iload_n 1, 1) := by decide +kernel
theorem dM_word_2 : decode bM_word 2 = .ok (.invokestatic 65, 3) := by decide +kernel
theorem dM_word_5 : decode bM_word 5 = .ok (.invokevirtual 69, 3) := by decide +kernel
theorem dM_word_8 : decode bM_word 8 = .ok (.ifCond .eq 12, 3) := by decide +kernel
theorem dM_word_11 : decode bM_word 11 = .ok (.aload_n 0, 1) := by decide +kernel
theorem dM_word_12 : decode bM_word 12 = .ok (.iload_n 1, 1) := by decide +kernel
theorem dM_word_13 : decode bM_word 13 = .ok (.iconst 4, 1) := by decide +kernel
theorem dM_word_14 : decode bM_word 14 = .ok (.invokevirtual 73, 3) := by decide +kernel
theorem dM_word_17 : decode bM_word 17 = .ok (.goto 4, 3) := by decide +kernel
theorem dM_word_20 : decode bM_word 20 = .ok (.iconst 0, 1) := by decide +kernel
theorem dM_word_21 : decode bM_word 21 = .ok (.ireturn, 1) := by decide +kernel
theorem dM_slot_0 : decode bM_slot 0 = .ok (.iload_n 1, 1) := by decide +kernel
theorem dM_slot_1 : decode bM_slot 1 = .ok (.bipush 24, 2) := by decide +kernel
theorem dM_slot_3 : decode bM_slot 3 = .ok (.if_icmp .ge 15, 3) := by decide +kernel
theorem dM_slot_6 : decode bM_slot 6 = .ok (.bipush 16, 2) := by decide +kernel
theorem dM_slot_8 : decode bM_slot 8 = .ok (.iload_n 0, 1) := by decide +kernel
theorem dM_slot_9 : decode bM_slot 9 = .ok (.imul, 1) := by decide +kernel
theorem dM_slot_10 : decode bM_slot 10 = .ok (.iload_n 1, 1) := by decide +kernel
theorem dM_slot_11 : decode bM_slot 11 = .ok (.iadd, 1) := by decide +kernel
theorem dM_slot_12 : decode bM_slot 12 = .ok (.bipush 8, 2) := by decide +kernel
theorem dM_slot_14 : decode bM_slot 14 = .ok (.isub, 1) := by decide +kernel
theorem dM_slot_15 : decode bM_slot 15 = .ok (.goto 17, 3) := by decide +kernel
theorem dM_slot_18 : decode bM_slot 18 = .ok (.bipush 16, 2) := by decide +kernel
theorem dM_slot_20 : decode bM_slot 20 = .ok (.iload_n 0, 1) := by decide +kernel
theorem dM_slot_21 : decode bM_slot 21 = .ok (.iconst 1, 1) := by decide +kernel
theorem dM_slot_22 : decode bM_slot 22 = .ok (.iadd, 1) := by decide +kernel
theorem dM_slot_23 : decode bM_slot 23 = .ok (.bipush 8, 2) := by decide +kernel
theorem dM_slot_25 : decode bM_slot 25 = .ok (.irem, 1) := by decide +kernel
theorem dM_slot_26 : decode bM_slot 26 = .ok (.imul, 1) := by decide +kernel
theorem dM_slot_27 : decode bM_slot 27 = .ok (.iload_n 1, 1) := by decide +kernel
theorem dM_slot_28 : decode bM_slot 28 = .ok (.iadd, 1) := by decide +kernel
theorem dM_slot_29 : decode bM_slot 29 = .ok (.bipush 24, 2) := by decide +kernel
theorem dM_slot_31 : decode bM_slot 31 = .ok (.isub, 1) := by decide +kernel
theorem dM_slot_32 : decode bM_slot 32 = .ok (.ireturn, 1) := by decide +kernel
theorem dM_get_0 : decode bM_get 0 = .ok (.iload_n 2, 1) := by decide +kernel
theorem dM_get_1 : decode bM_get 1 = .ok (.bipush 8, 2) := by decide +kernel
theorem dM_get_3 : decode bM_get 3 = .ok (.if_icmp .ge 12, 3) := by decide +kernel
theorem dM_get_6 : decode bM_get 6 = .ok (.aload_n 0, 1) := by decide +kernel
theorem dM_get_7 : decode bM_get 7 = .ok (.getfield 13, 3) := by decide +kernel
theorem dM_get_10 : decode bM_get 10 = .ok (.iload_n 2, 1) := by decide +kernel
theorem dM_get_11 : decode bM_get 11 = .ok (.iaload, 1) := by decide +kernel
theorem dM_get_12 : decode bM_get 12 = .ok (.goto 13, 3) := by decide +kernel
theorem dM_get_15 : decode bM_get 15 = .ok (.aload_n 0, 1) := by decide +kernel
theorem dM_get_16 : decode bM_get 16 = .ok (.getfield 16, 3) := by decide +kernel
theorem dM_get_19 : decode bM_get 19 = .ok (.iload_n 1, 1) := by decide +kernel
theorem dM_get_20 : decode bM_get 20 = .ok (.iload_n 2, 1) := by decide +kernel
theorem dM_get_21 : decode bM_get 21 = .ok (.invokestatic 81, 3) := by decide +kernel
theorem dM_get_24 : decode bM_get 24 = .ok (.iaload, 1) := by decide +kernel
theorem dM_get_25 : decode bM_get 25 = .ok (.ireturn, 1) := by decide +kernel
theorem dM_give_0 : decode bM_give 0 = .ok (.iload_n 2, 1) := by decide +kernel
theorem dM_give_1 : decode bM_give 1 = .ok (.bipush 7, 2) := by decide +kernel
theorem dM_give_3 : decode bM_give 3 = .ok (.if_icmp .le 17, 3) := by decide +kernel
theorem dM_give_6 : decode bM_give 6 = .ok (.aload_n 0, 1) := by decide +kernel
theorem dM_give_7 : decode bM_give 7 = .ok (.getfield 16, 3) := by decide +kernel
theorem dM_give_10 : decode bM_give 10 = .ok (.iload_n 1, 1) := by decide +kernel
theorem dM_give_11 : decode bM_give 11 = .ok (.iload_n 2, 1) := by decide +kernel
theorem dM_give_12 : decode bM_give 12 = .ok (.invokestatic 81, 3) := by decide +kernel
theorem dM_give_15 : decode bM_give 15 = .ok (.iload_n 3, 1) := by decide +kernel
theorem dM_give_16 : decode bM_give 16 = .ok (.iastore, 1) := by decide +kernel
theorem dM_give_17 : decode bM_give 17 = .ok (.goto 14, 3) := by decide +kernel
theorem dM_give_20 : decode bM_give 20 = .ok (.iload_n 2, 1) := by decide +kernel
theorem dM_give_21 : decode bM_give 21 = .ok (.ifCond .le 10, 3) := by decide +kernel
theorem dM_give_24 : decode bM_give 24 = .ok (.aload_n 0, 1) := by decide +kernel
theorem dM_give_25 : decode bM_give 25 = .ok (.getfield 13, 3) := by decide +kernel
theorem dM_give_28 : decode bM_give 28 = .ok (.iload_n 2, 1) := by decide +kernel
theorem dM_give_29 : decode bM_give 29 = .ok (.iload_n 3, 1) := by decide +kernel
theorem dM_give_30 : decode bM_give 30 = .ok (.iastore, 1) := by decide +kernel
theorem dM_give_31 : decode bM_give 31 = .ok (.return_, 1) := by decide +kernel
theorem dM_isRegister_0 : decode bM_isRegister 0 = .ok (.iload_n 0, 1) := by decide +kernel
theorem dM_isRegister_1 : decode bM_isRegister 1 = .ok (.ifCond .lt 23, 3) := by decide +kernel
theorem dM_isRegister_4 : decode bM_isRegister 4 = .ok (.iload_n 0, 1) := by decide +kernel
theorem dM_isRegister_5 : decode bM_isRegister 5 = .ok (.bipush 8, 2) := by decide +kernel
theorem dM_isRegister_7 : decode bM_isRegister 7 = .ok (.if_icmp .ge 17, 3) := by decide +kernel
theorem dM_isRegister_10 : decode bM_isRegister 10 = .ok (.iload_n 1, 1) := by decide +kernel
theorem dM_isRegister_11 : decode bM_isRegister 11 = .ok (.ifCond .lt 13, 3) := by decide +kernel
theorem dM_isRegister_14 : decode bM_isRegister 14 = .ok (.iload_n 1, 1) := by decide +kernel
theorem dM_isRegister_15 : decode bM_isRegister 15 = .ok (.bipush 32, 2) := by decide +kernel
theorem dM_isRegister_17 : decode bM_isRegister 17 = .ok (.if_icmp .ge 7, 3) := by decide +kernel
theorem dM_isRegister_20 : decode bM_isRegister 20 = .ok (.iconst 1, 1) := by decide +kernel
theorem dM_isRegister_21 : decode bM_isRegister 21 = .ok (.goto 4, 3) := by decide +kernel
theorem dM_isRegister_24 : decode bM_isRegister 24 = .ok (.iconst 0, 1) := by decide +kernel
theorem dM_isRegister_25 : decode bM_isRegister 25 = .ok (.ireturn, 1) := by decide +kernel
theorem dM_set_0 : decode bM_set 0 = .ok (.aload_n 0, 1) := by decide +kernel
theorem dM_set_1 : decode bM_set 1 = .ok (.iload_n 1, 1) := by decide +kernel
theorem dM_set_2 : decode bM_set 2 = .ok (.iload_n 2, 1) := by decide +kernel
theorem dM_set_3 : decode bM_set 3 = .ok (.invokestatic 84, 3) := by decide +kernel
theorem dM_set_6 : decode bM_set 6 = .ok (.invokevirtual 69, 3) := by decide +kernel
theorem dM_set_9 : decode bM_set 9 = .ok (.ifCond .ne 5, 3) := by decide +kernel
theorem dM_set_12 : decode bM_set 12 = .ok (.iconst 0, 1) := by decide +kernel
theorem dM_set_13 : decode bM_set 13 = .ok (.ireturn, 1) := by decide +kernel
theorem dM_set_14 : decode bM_set 14 = .ok (.aload_n 0, 1) := by decide +kernel
theorem dM_set_15 : decode bM_set 15 = .ok (.iload_n 1, 1) := by decide +kernel
theorem dM_set_16 : decode bM_set 16 = .ok (.iload_n 2, 1) := by decide +kernel
theorem dM_set_17 : decode bM_set 17 = .ok (.invokevirtual 87, 3) := by decide +kernel
theorem dM_set_20 : decode bM_set 20 = .ok (.istore 4, 2) := by decide +kernel
theorem dM_set_22 : decode bM_set 22 = .ok (.aload_n 0, 1) := by decide +kernel
theorem dM_set_23 : decode bM_set 23 = .ok (.iload_n 1, 1) := by decide +kernel
theorem dM_set_24 : decode bM_set 24 = .ok (.iload_n 2, 1) := by decide +kernel
theorem dM_set_25 : decode bM_set 25 = .ok (.iload_n 3, 1) := by decide +kernel
theorem dM_set_26 : decode bM_set 26 = .ok (.invokevirtual 90, 3) := by decide +kernel
theorem dM_set_29 : decode bM_set 29 = .ok (.iload 4, 2) := by decide +kernel
theorem dM_set_31 : decode bM_set 31 = .ok (.ireturn, 1) := by decide +kernel
theorem dM_register_0 : decode bM_register 0 = .ok (.aload_n 0, 1) := by decide +kernel
theorem dM_register_1 : decode bM_register 1 = .ok (.iload_n 1, 1) := by decide +kernel
theorem dM_register_2 : decode bM_register 2 = .ok (.iload_n 2, 1) := by decide +kernel
theorem dM_register_3 : decode bM_register 3 = .ok (.invokestatic 84, 3) := by decide +kernel
theorem dM_register_6 : decode bM_register 6 = .ok (.invokevirtual 69, 3) := by decide +kernel
theorem dM_register_9 : decode bM_register 9 = .ok (.ifCond .eq 12, 3) := by decide +kernel
theorem dM_register_12 : decode bM_register 12 = .ok (.aload_n 0, 1) := by decide +kernel
theorem dM_register_13 : decode bM_register 13 = .ok (.iload_n 1, 1) := by decide +kernel
theorem dM_register_14 : decode bM_register 14 = .ok (.iload_n 2, 1) := by decide +kernel
theorem dM_register_15 : decode bM_register 15 = .ok (.invokevirtual 87, 3) := by decide +kernel
theorem dM_register_18 : decode bM_register 18 = .ok (.goto 4, 3) := by decide +kernel
theorem dM_register_21 : decode bM_register 21 = .ok (.iconst 0, 1) := by decide +kernel
theorem dM_register_22 : decode bM_register 22 = .ok (.ireturn, 1) := by decide +kernel
theorem dM_bit_0 : decode bM_bit 0 = .ok (.iload_n 0, 1) := by decide +kernel
theorem dM_bit_1 : decode bM_bit 1 = .ok (.ifCond .eq 9, 3) := by decide +kernel
theorem dM_bit_4 : decode bM_bit 4 = .ok (.iconst 1, 1) := by decide +kernel
theorem dM_bit_5 : decode bM_bit 5 = .ok (.iload_n 1, 1) := by decide +kernel
theorem dM_bit_6 : decode bM_bit 6 = .ok (.ishl, 1) := by decide +kernel
theorem dM_bit_7 : decode bM_bit 7 = .ok (.goto 4, 3) := by decide +kernel
theorem dM_bit_10 : decode bM_bit 10 = .ok (.iconst 0, 1) := by decide +kernel
theorem dM_bit_11 : decode bM_bit 11 = .ok (.ireturn, 1) := by decide +kernel
theorem dM_status_0 : decode bM_status 0 = .ok (.aload_n 0, 1) := by decide +kernel
theorem dM_status_1 : decode bM_status 1 = .ok (.getfield 93, 3) := by decide +kernel
theorem dM_status_4 : decode bM_status 4 = .ok (.aload_n 0, 1) := by decide +kernel
theorem dM_status_5 : decode bM_status 5 = .ok (.getfield 96, 3) := by decide +kernel
theorem dM_status_8 : decode bM_status 8 = .ok (.iconst 5, 1) := by decide +kernel
theorem dM_status_9 : decode bM_status 9 = .ok (.invokestatic 99, 3) := by decide +kernel
theorem dM_status_12 : decode bM_status 12 = .ok (.ior, 1) := by decide +kernel
theorem dM_status_13 : decode bM_status 13 = .ok (.aload_n 0, 1) := by decide +kernel
theorem dM_status_14 : decode bM_status 14 = .ok (.getfield 103, 3) := by decide +kernel
theorem dM_status_17 : decode bM_status 17 = .ok (.bipush 6, 2) := by decide +kernel
theorem dM_status_19 : decode bM_status 19 = .ok (.invokestatic 99, 3) := by decide +kernel
theorem dM_status_22 : decode bM_status 22 = .ok (.ior, 1) := by decide +kernel
theorem dM_status_23 : decode bM_status 23 = .ok (.aload_n 0, 1) := by decide +kernel
theorem dM_status_24 : decode bM_status 24 = .ok (.getfield 19, 3) := by decide +kernel
theorem dM_status_27 : decode bM_status 27 = .ok (.bipush 7, 2) := by decide +kernel
theorem dM_status_29 : decode bM_status 29 = .ok (.invokestatic 99, 3) := by decide +kernel
theorem dM_status_32 : decode bM_status 32 = .ok (.ior, 1) := by decide +kernel
theorem dM_status_33 : decode bM_status 33 = .ok (.aload_n 0, 1) := by decide +kernel
theorem dM_status_34 : decode bM_status 34 = .ok (.getfield 106, 3) := by decide +kernel
theorem dM_status_37 : decode bM_status 37 = .ok (.bipush 8, 2) := by decide +kernel
theorem dM_status_39 : decode bM_status 39 = .ok (.ishl, 1) := by decide +kernel
theorem dM_status_40 : decode bM_status 40 = .ok (.ior, 1) := by decide +kernel
theorem dM_status_41 : decode bM_status 41 = .ok (.aload_n 0, 1) := by decide +kernel
theorem dM_status_42 : decode bM_status 42 = .ok (.getfield 109, 3) := by decide +kernel
theorem dM_status_45 : decode bM_status 45 = .ok (.bipush 20, 2) := by decide +kernel
theorem dM_status_47 : decode bM_status 47 = .ok (.invokestatic 99, 3) := by decide +kernel
theorem dM_status_50 : decode bM_status 50 = .ok (.ior, 1) := by decide +kernel
theorem dM_status_51 : decode bM_status 51 = .ok (.aload_n 0, 1) := by decide +kernel
theorem dM_status_52 : decode bM_status 52 = .ok (.getfield 112, 3) := by decide +kernel
theorem dM_status_55 : decode bM_status 55 = .ok (.bipush 21, 2) := by decide +kernel
theorem dM_status_57 : decode bM_status 57 = .ok (.invokestatic 99, 3) := by decide +kernel
theorem dM_status_60 : decode bM_status 60 = .ok (.ior, 1) := by decide +kernel
theorem dM_status_61 : decode bM_status 61 = .ok (.aload_n 0, 1) := by decide +kernel
theorem dM_status_62 : decode bM_status 62 = .ok (.getfield 115, 3) := by decide +kernel
theorem dM_status_65 : decode bM_status 65 = .ok (.bipush 22, 2) := by decide +kernel
theorem dM_status_67 : decode bM_status 67 = .ok (.invokestatic 99, 3) := by decide +kernel
theorem dM_status_70 : decode bM_status 70 = .ok (.ior, 1) := by decide +kernel
theorem dM_status_71 : decode bM_status 71 = .ok (.aload_n 0, 1) := by decide +kernel
theorem dM_status_72 : decode bM_status 72 = .ok (.getfield 118, 3) := by decide +kernel
theorem dM_status_75 : decode bM_status 75 = .ok (.bipush 23, 2) := by decide +kernel
theorem dM_status_77 : decode bM_status 77 = .ok (.invokestatic 99, 3) := by decide +kernel
theorem dM_status_80 : decode bM_status 80 = .ok (.ior, 1) := by decide +kernel
theorem dM_status_81 : decode bM_status 81 = .ok (.ireturn, 1) := by decide +kernel
theorem dM_setStatus_0 : decode bM_setStatus 0 = .ok (.aload_n 0, 1) := by decide +kernel
theorem dM_setStatus_1 : decode bM_setStatus 1 = .ok (.iload_n 1, 1) := by decide +kernel
theorem dM_setStatus_2 : decode bM_setStatus 2 = .ok (.bipush 7, 2) := by decide +kernel
theorem dM_setStatus_4 : decode bM_setStatus 4 = .ok (.iand, 1) := by decide +kernel
theorem dM_setStatus_5 : decode bM_setStatus 5 = .ok (.putfield 93, 3) := by decide +kernel
theorem dM_setStatus_8 : decode bM_setStatus 8 = .ok (.aload_n 0, 1) := by decide +kernel
theorem dM_setStatus_9 : decode bM_setStatus 9 = .ok (.iload_n 1, 1) := by decide +kernel
theorem dM_setStatus_10 : decode bM_setStatus 10 = .ok (.iconst 5, 1) := by decide +kernel
theorem dM_setStatus_11 : decode bM_setStatus 11 = .ok (.ishr, 1) := by decide +kernel
theorem dM_setStatus_12 : decode bM_setStatus 12 = .ok (.iconst 1, 1) := by decide +kernel
theorem dM_setStatus_13 : decode bM_setStatus 13 = .ok (.iand, 1) := by decide +kernel
theorem dM_setStatus_14 : decode bM_setStatus 14 = .ok (.iconst 1, 1) := by decide +kernel
theorem dM_setStatus_15 : decode bM_setStatus 15 = .ok (.if_icmp .ne 7, 3) := by decide +kernel
theorem dM_setStatus_18 : decode bM_setStatus 18 = .ok (.iconst 1, 1) := by decide +kernel
theorem dM_setStatus_19 : decode bM_setStatus 19 = .ok (.goto 4, 3) := by decide +kernel
theorem dM_setStatus_22 : decode bM_setStatus 22 = .ok (.iconst 0, 1) := by decide +kernel
theorem dM_setStatus_23 : decode bM_setStatus 23 = .ok (.putfield 96, 3) := by decide +kernel
theorem dM_setStatus_26 : decode bM_setStatus 26 = .ok (.aload_n 0, 1) := by decide +kernel
theorem dM_setStatus_27 : decode bM_setStatus 27 = .ok (.iload_n 1, 1) := by decide +kernel
theorem dM_setStatus_28 : decode bM_setStatus 28 = .ok (.bipush 6, 2) := by decide +kernel
theorem dM_setStatus_30 : decode bM_setStatus 30 = .ok (.ishr, 1) := by decide +kernel
theorem dM_setStatus_31 : decode bM_setStatus 31 = .ok (.iconst 1, 1) := by decide +kernel
theorem dM_setStatus_32 : decode bM_setStatus 32 = .ok (.iand, 1) := by decide +kernel
theorem dM_setStatus_33 : decode bM_setStatus 33 = .ok (.iconst 1, 1) := by decide +kernel
theorem dM_setStatus_34 : decode bM_setStatus 34 = .ok (.if_icmp .ne 7, 3) := by decide +kernel
theorem dM_setStatus_37 : decode bM_setStatus 37 = .ok (.iconst 1, 1) := by decide +kernel
theorem dM_setStatus_38 : decode bM_setStatus 38 = .ok (.goto 4, 3) := by decide +kernel
theorem dM_setStatus_41 : decode bM_setStatus 41 = .ok (.iconst 0, 1) := by decide +kernel
theorem dM_setStatus_42 : decode bM_setStatus 42 = .ok (.putfield 103, 3) := by decide +kernel
theorem dM_setStatus_45 : decode bM_setStatus 45 = .ok (.aload_n 0, 1) := by decide +kernel
theorem dM_setStatus_46 : decode bM_setStatus 46 = .ok (.iload_n 1, 1) := by decide +kernel
theorem dM_setStatus_47 : decode bM_setStatus 47 = .ok (.bipush 7, 2) := by decide +kernel
theorem dM_setStatus_49 : decode bM_setStatus 49 = .ok (.ishr, 1) := by decide +kernel
theorem dM_setStatus_50 : decode bM_setStatus 50 = .ok (.iconst 1, 1) := by decide +kernel
theorem dM_setStatus_51 : decode bM_setStatus 51 = .ok (.iand, 1) := by decide +kernel
theorem dM_setStatus_52 : decode bM_setStatus 52 = .ok (.iconst 1, 1) := by decide +kernel
theorem dM_setStatus_53 : decode bM_setStatus 53 = .ok (.if_icmp .ne 7, 3) := by decide +kernel
theorem dM_setStatus_56 : decode bM_setStatus 56 = .ok (.iconst 1, 1) := by decide +kernel
theorem dM_setStatus_57 : decode bM_setStatus 57 = .ok (.goto 4, 3) := by decide +kernel
theorem dM_setStatus_60 : decode bM_setStatus 60 = .ok (.iconst 0, 1) := by decide +kernel
theorem dM_setStatus_61 : decode bM_setStatus 61 = .ok (.putfield 19, 3) := by decide +kernel
theorem dM_setStatus_64 : decode bM_setStatus 64 = .ok (.aload_n 0, 1) := by decide +kernel
theorem dM_setStatus_65 : decode bM_setStatus 65 = .ok (.iload_n 1, 1) := by decide +kernel
theorem dM_setStatus_66 : decode bM_setStatus 66 = .ok (.bipush 8, 2) := by decide +kernel
theorem dM_setStatus_68 : decode bM_setStatus 68 = .ok (.ishr, 1) := by decide +kernel
theorem dM_setStatus_69 : decode bM_setStatus 69 = .ok (.bipush 15, 2) := by decide +kernel
theorem dM_setStatus_71 : decode bM_setStatus 71 = .ok (.iand, 1) := by decide +kernel
theorem dM_setStatus_72 : decode bM_setStatus 72 = .ok (.putfield 106, 3) := by decide +kernel
theorem dM_setStatus_75 : decode bM_setStatus 75 = .ok (.aload_n 0, 1) := by decide +kernel
theorem dM_setStatus_76 : decode bM_setStatus 76 = .ok (.iload_n 1, 1) := by decide +kernel
theorem dM_setStatus_77 : decode bM_setStatus 77 = .ok (.bipush 20, 2) := by decide +kernel
theorem dM_setStatus_79 : decode bM_setStatus 79 = .ok (.ishr, 1) := by decide +kernel
theorem dM_setStatus_80 : decode bM_setStatus 80 = .ok (.iconst 1, 1) := by decide +kernel
theorem dM_setStatus_81 : decode bM_setStatus 81 = .ok (.iand, 1) := by decide +kernel
theorem dM_setStatus_82 : decode bM_setStatus 82 = .ok (.iconst 1, 1) := by decide +kernel
theorem dM_setStatus_83 : decode bM_setStatus 83 = .ok (.if_icmp .ne 7, 3) := by decide +kernel
theorem dM_setStatus_86 : decode bM_setStatus 86 = .ok (.iconst 1, 1) := by decide +kernel
theorem dM_setStatus_87 : decode bM_setStatus 87 = .ok (.goto 4, 3) := by decide +kernel
theorem dM_setStatus_90 : decode bM_setStatus 90 = .ok (.iconst 0, 1) := by decide +kernel
theorem dM_setStatus_91 : decode bM_setStatus 91 = .ok (.putfield 109, 3) := by decide +kernel
theorem dM_setStatus_94 : decode bM_setStatus 94 = .ok (.aload_n 0, 1) := by decide +kernel
theorem dM_setStatus_95 : decode bM_setStatus 95 = .ok (.iload_n 1, 1) := by decide +kernel
theorem dM_setStatus_96 : decode bM_setStatus 96 = .ok (.bipush 21, 2) := by decide +kernel
theorem dM_setStatus_98 : decode bM_setStatus 98 = .ok (.ishr, 1) := by decide +kernel
theorem dM_setStatus_99 : decode bM_setStatus 99 = .ok (.iconst 1, 1) := by decide +kernel
theorem dM_setStatus_100 : decode bM_setStatus 100 = .ok (.iand, 1) := by decide +kernel
theorem dM_setStatus_101 : decode bM_setStatus 101 = .ok (.iconst 1, 1) := by decide +kernel
theorem dM_setStatus_102 : decode bM_setStatus 102 = .ok (.if_icmp .ne 7, 3) := by decide +kernel
theorem dM_setStatus_105 : decode bM_setStatus 105 = .ok (.iconst 1, 1) := by decide +kernel
theorem dM_setStatus_106 : decode bM_setStatus 106 = .ok (.goto 4, 3) := by decide +kernel
theorem dM_setStatus_109 : decode bM_setStatus 109 = .ok (.iconst 0, 1) := by decide +kernel
theorem dM_setStatus_110 : decode bM_setStatus 110 = .ok (.putfield 112, 3) := by decide +kernel
theorem dM_setStatus_113 : decode bM_setStatus 113 = .ok (.aload_n 0, 1) := by decide +kernel
theorem dM_setStatus_114 : decode bM_setStatus 114 = .ok (.iload_n 1, 1) := by decide +kernel
theorem dM_setStatus_115 : decode bM_setStatus 115 = .ok (.bipush 22, 2) := by decide +kernel
theorem dM_setStatus_117 : decode bM_setStatus 117 = .ok (.ishr, 1) := by decide +kernel
theorem dM_setStatus_118 : decode bM_setStatus 118 = .ok (.iconst 1, 1) := by decide +kernel
theorem dM_setStatus_119 : decode bM_setStatus 119 = .ok (.iand, 1) := by decide +kernel
theorem dM_setStatus_120 : decode bM_setStatus 120 = .ok (.iconst 1, 1) := by decide +kernel
theorem dM_setStatus_121 : decode bM_setStatus 121 = .ok (.if_icmp .ne 7, 3) := by decide +kernel
theorem dM_setStatus_124 : decode bM_setStatus 124 = .ok (.iconst 1, 1) := by decide +kernel
theorem dM_setStatus_125 : decode bM_setStatus 125 = .ok (.goto 4, 3) := by decide +kernel
theorem dM_setStatus_128 : decode bM_setStatus 128 = .ok (.iconst 0, 1) := by decide +kernel
theorem dM_setStatus_129 : decode bM_setStatus 129 = .ok (.putfield 115, 3) := by decide +kernel
theorem dM_setStatus_132 : decode bM_setStatus 132 = .ok (.aload_n 0, 1) := by decide +kernel
theorem dM_setStatus_133 : decode bM_setStatus 133 = .ok (.iload_n 1, 1) := by decide +kernel
theorem dM_setStatus_134 : decode bM_setStatus 134 = .ok (.bipush 23, 2) := by decide +kernel
theorem dM_setStatus_136 : decode bM_setStatus 136 = .ok (.ishr, 1) := by decide +kernel
theorem dM_setStatus_137 : decode bM_setStatus 137 = .ok (.iconst 1, 1) := by decide +kernel
theorem dM_setStatus_138 : decode bM_setStatus 138 = .ok (.iand, 1) := by decide +kernel
theorem dM_setStatus_139 : decode bM_setStatus 139 = .ok (.iconst 1, 1) := by decide +kernel
theorem dM_setStatus_140 : decode bM_setStatus 140 = .ok (.if_icmp .ne 7, 3) := by decide +kernel
theorem dM_setStatus_143 : decode bM_setStatus 143 = .ok (.iconst 1, 1) := by decide +kernel
theorem dM_setStatus_144 : decode bM_setStatus 144 = .ok (.goto 4, 3) := by decide +kernel
theorem dM_setStatus_147 : decode bM_setStatus 147 = .ok (.iconst 0, 1) := by decide +kernel
theorem dM_setStatus_148 : decode bM_setStatus 148 = .ok (.putfield 118, 3) := by decide +kernel
theorem dM_setStatus_151 : decode bM_setStatus 151 = .ok (.return_, 1) := by decide +kernel
theorem dM_table_0 : decode bM_table 0 = .ok (.aload_n 0, 1) := by decide +kernel
theorem dM_table_1 : decode bM_table 1 = .ok (.getfield 37, 3) := by decide +kernel
theorem dM_table_4 : decode bM_table 4 = .ok (.aload_n 0, 1) := by decide +kernel
theorem dM_table_5 : decode bM_table 5 = .ok (.getfield 40, 3) := by decide +kernel
theorem dM_table_8 : decode bM_table 8 = .ok (.iconst 4, 1) := by decide +kernel
theorem dM_table_9 : decode bM_table 9 = .ok (.ishl, 1) := by decide +kernel
theorem dM_table_10 : decode bM_table 10 = .ok (.ior, 1) := by decide +kernel
theorem dM_table_11 : decode bM_table 11 = .ok (.ireturn, 1) := by decide +kernel
theorem dM_control_0 : decode bM_control 0 = .ok (.aload_n 0, 1) := by decide +kernel
theorem dM_control_1 : decode bM_control 1 = .ok (.iload_n 1, 1) := by decide +kernel
theorem dM_control_2 : decode bM_control 2 = .ok (.ifCond .lt 12, 3) := by decide +kernel
theorem dM_control_5 : decode bM_control 5 = .ok (.iload_n 1, 1) := by decide +kernel
theorem dM_control_6 : decode bM_control 6 = .ok (.iconst 4, 1) := by decide +kernel
theorem dM_control_7 : decode bM_control 7 = .ok (.if_icmp .gt 7, 3) := by decide +kernel
theorem dM_control_10 : decode bM_control 10 = .ok (.iconst 1, 1) := by decide +kernel
theorem dM_control_11 : decode bM_control 11 = .ok (.goto 4, 3) := by decide +kernel
theorem dM_control_14 : decode bM_control 14 = .ok (.iconst 0, 1) := by decide +kernel
theorem dM_control_15 : decode bM_control 15 = .ok (.invokevirtual 69, 3) := by decide +kernel
theorem dM_control_18 : decode bM_control 18 = .ok (.ifCond .ne 5, 3) := by decide +kernel
theorem dM_control_21 : decode bM_control 21 = .ok (.iconst 0, 1) := by decide +kernel
theorem dM_control_22 : decode bM_control 22 = .ok (.ireturn, 1) := by decide +kernel
theorem dM_control_23 : decode bM_control 23 = .ok (.aload_n 0, 1) := by decide +kernel
theorem dM_control_24 : decode bM_control 24 = .ok (.iload_n 1, 1) := by decide +kernel
theorem dM_control_25 : decode bM_control 25 = .ok (.invokevirtual 121, 3) := by decide +kernel
theorem dM_control_28 : decode bM_control 28 = .ok (.istore_n 3, 1) := by decide +kernel
theorem dM_control_29 : decode bM_control 29 = .ok (.iload_n 1, 1) := by decide +kernel
theorem dM_control_30 : decode bM_control 30 = .ok (.ifCond .ne 11, 3) := by decide +kernel
theorem dM_control_33 : decode bM_control 33 = .ok (.aload_n 0, 1) := by decide +kernel
theorem dM_control_34 : decode bM_control 34 = .ok (.iload_n 2, 1) := by decide +kernel
theorem dM_control_35 : decode bM_control 35 = .ok (.invokevirtual 30, 3) := by decide +kernel
theorem dM_control_38 : decode bM_control 38 = .ok (.goto 72, 3) := by decide +kernel
theorem dM_control_41 : decode bM_control 41 = .ok (.iload_n 1, 1) := by decide +kernel
theorem dM_control_42 : decode bM_control 42 = .ok (.iconst 1, 1) := by decide +kernel
theorem dM_control_43 : decode bM_control 43 = .ok (.if_icmp .ne 15, 3) := by decide +kernel
theorem dM_control_46 : decode bM_control 46 = .ok (.aload_n 0, 1) := by decide +kernel
theorem dM_control_47 : decode bM_control 47 = .ok (.iload_n 2, 1) := by decide +kernel
theorem dM_control_48 : decode bM_control 48 = .ok (.sipush 255, 3) := by decide +kernel
theorem dM_control_51 : decode bM_control 51 = .ok (.iand, 1) := by decide +kernel
theorem dM_control_52 : decode bM_control 52 = .ok (.putfield 34, 3) := by decide +kernel
theorem dM_control_55 : decode bM_control 55 = .ok (.goto 55, 3) := by decide +kernel
theorem dM_control_58 : decode bM_control 58 = .ok (.iload_n 1, 1) := by decide +kernel
theorem dM_control_59 : decode bM_control 59 = .ok (.iconst 2, 1) := by decide +kernel
theorem dM_control_60 : decode bM_control 60 = .ok (.if_icmp .ne 26, 3) := by decide +kernel
theorem dM_control_63 : decode bM_control 63 = .ok (.aload_n 0, 1) := by decide +kernel
theorem dM_control_64 : decode bM_control 64 = .ok (.iload_n 2, 1) := by decide +kernel
theorem dM_control_65 : decode bM_control 65 = .ok (.sipush (-4096), 3) := by decide +kernel
theorem dM_control_68 : decode bM_control 68 = .ok (.iand, 1) := by decide +kernel
theorem dM_control_69 : decode bM_control 69 = .ok (.putfield 37, 3) := by decide +kernel
theorem dM_control_72 : decode bM_control 72 = .ok (.aload_n 0, 1) := by decide +kernel
theorem dM_control_73 : decode bM_control 73 = .ok (.iload_n 2, 1) := by decide +kernel
theorem dM_control_74 : decode bM_control 74 = .ok (.iconst 4, 1) := by decide +kernel
theorem dM_control_75 : decode bM_control 75 = .ok (.ishr, 1) := by decide +kernel
theorem dM_control_76 : decode bM_control 76 = .ok (.sipush 255, 3) := by decide +kernel
theorem dM_control_79 : decode bM_control 79 = .ok (.iand, 1) := by decide +kernel
theorem dM_control_80 : decode bM_control 80 = .ok (.putfield 40, 3) := by decide +kernel
theorem dM_control_83 : decode bM_control 83 = .ok (.goto 27, 3) := by decide +kernel
theorem dM_control_86 : decode bM_control 86 = .ok (.iload_n 1, 1) := by decide +kernel
theorem dM_control_87 : decode bM_control 87 = .ok (.iconst 3, 1) := by decide +kernel
theorem dM_control_88 : decode bM_control 88 = .ok (.if_icmp .ne 14, 3) := by decide +kernel
theorem dM_control_91 : decode bM_control 91 = .ok (.aload_n 0, 1) := by decide +kernel
theorem dM_control_92 : decode bM_control 92 = .ok (.iload_n 2, 1) := by decide +kernel
theorem dM_control_93 : decode bM_control 93 = .ok (.bipush (-4), 2) := by decide +kernel
theorem dM_control_95 : decode bM_control 95 = .ok (.iand, 1) := by decide +kernel
theorem dM_control_96 : decode bM_control 96 = .ok (.putfield 43, 3) := by decide +kernel
theorem dM_control_99 : decode bM_control 99 = .ok (.goto 11, 3) := by decide +kernel
theorem dM_control_102 : decode bM_control 102 = .ok (.aload_n 0, 1) := by decide +kernel
theorem dM_control_103 : decode bM_control 103 = .ok (.iload_n 2, 1) := by decide +kernel
theorem dM_control_104 : decode bM_control 104 = .ok (.bipush (-4), 2) := by decide +kernel
theorem dM_control_106 : decode bM_control 106 = .ok (.iand, 1) := by decide +kernel
theorem dM_control_107 : decode bM_control 107 = .ok (.putfield 23, 3) := by decide +kernel
theorem dM_control_110 : decode bM_control 110 = .ok (.aload_n 0, 1) := by decide +kernel
theorem dM_control_111 : decode bM_control 111 = .ok (.iconst 0, 1) := by decide +kernel
theorem dM_control_112 : decode bM_control 112 = .ok (.putfield 46, 3) := by decide +kernel
theorem dM_control_115 : decode bM_control 115 = .ok (.aload_n 0, 1) := by decide +kernel
theorem dM_control_116 : decode bM_control 116 = .ok (.iconst 0, 1) := by decide +kernel
theorem dM_control_117 : decode bM_control 117 = .ok (.putfield 49, 3) := by decide +kernel
theorem dM_control_120 : decode bM_control 120 = .ok (.iload_n 3, 1) := by decide +kernel
theorem dM_control_121 : decode bM_control 121 = .ok (.ireturn, 1) := by decide +kernel
theorem dM_request_0 : decode bM_request 0 = .ok (.aload_n 0, 1) := by decide +kernel
theorem dM_request_1 : decode bM_request 1 = .ok (.iload_n 1, 1) := by decide +kernel
theorem dM_request_2 : decode bM_request 2 = .ok (.ifCond .lt 13, 3) := by decide +kernel
theorem dM_request_5 : decode bM_request 5 = .ok (.iload_n 1, 1) := by decide +kernel
theorem dM_request_6 : decode bM_request 6 = .ok (.bipush 15, 2) := by decide +kernel
theorem dM_request_8 : decode bM_request 8 = .ok (.if_icmp .gt 7, 3) := by decide +kernel
theorem dM_request_11 : decode bM_request 11 = .ok (.iconst 1, 1) := by decide +kernel
theorem dM_request_12 : decode bM_request 12 = .ok (.goto 4, 3) := by decide +kernel
theorem dM_request_15 : decode bM_request 15 = .ok (.iconst 0, 1) := by decide +kernel
theorem dM_request_16 : decode bM_request 16 = .ok (.invokevirtual 69, 3) := by decide +kernel
theorem dM_request_19 : decode bM_request 19 = .ok (.ifCond .ne 5, 3) := by decide +kernel
theorem dM_request_22 : decode bM_request 22 = .ok (.iconst 0, 1) := by decide +kernel
theorem dM_request_23 : decode bM_request 23 = .ok (.ireturn, 1) := by decide +kernel
theorem dM_request_24 : decode bM_request 24 = .ok (.aload_n 0, 1) := by decide +kernel
theorem dM_request_25 : decode bM_request 25 = .ok (.getfield 52, 3) := by decide +kernel
theorem dM_request_28 : decode bM_request 28 = .ok (.istore_n 2, 1) := by decide +kernel
theorem dM_request_29 : decode bM_request 29 = .ok (.aload_n 0, 1) := by decide +kernel
theorem dM_request_30 : decode bM_request 30 = .ok (.iload_n 1, 1) := by decide +kernel
theorem dM_request_31 : decode bM_request 31 = .ok (.putfield 52, 3) := by decide +kernel
theorem dM_request_34 : decode bM_request 34 = .ok (.iload_n 2, 1) := by decide +kernel
theorem dM_request_35 : decode bM_request 35 = .ok (.ireturn, 1) := by decide +kernel
theorem dM_seen_0 : decode bM_seen 0 = .ok (.iload_n 1, 1) := by decide +kernel
theorem dM_seen_1 : decode bM_seen 1 = .ok (.tableswitch 112 0 8 #[51, 56, 61, 66, 71, 76, 89, 102, 107], 51) := by decide +kernel
theorem dM_seen_52 : decode bM_seen 52 = .ok (.aload_n 0, 1) := by decide +kernel
theorem dM_seen_53 : decode bM_seen 53 = .ok (.invokevirtual 125, 3) := by decide +kernel
theorem dM_seen_56 : decode bM_seen 56 = .ok (.ireturn, 1) := by decide +kernel
theorem dM_seen_57 : decode bM_seen 57 = .ok (.aload_n 0, 1) := by decide +kernel
theorem dM_seen_58 : decode bM_seen 58 = .ok (.getfield 34, 3) := by decide +kernel
theorem dM_seen_61 : decode bM_seen 61 = .ok (.ireturn, 1) := by decide +kernel
theorem dM_seen_62 : decode bM_seen 62 = .ok (.aload_n 0, 1) := by decide +kernel
theorem dM_seen_63 : decode bM_seen 63 = .ok (.invokevirtual 129, 3) := by decide +kernel
theorem dM_seen_66 : decode bM_seen 66 = .ok (.ireturn, 1) := by decide +kernel
theorem dM_seen_67 : decode bM_seen 67 = .ok (.aload_n 0, 1) := by decide +kernel
theorem dM_seen_68 : decode bM_seen 68 = .ok (.getfield 43, 3) := by decide +kernel
theorem dM_seen_71 : decode bM_seen 71 = .ok (.ireturn, 1) := by decide +kernel
theorem dM_seen_72 : decode bM_seen 72 = .ok (.aload_n 0, 1) := by decide +kernel
theorem dM_seen_73 : decode bM_seen 73 = .ok (.getfield 23, 3) := by decide +kernel
theorem dM_seen_76 : decode bM_seen 76 = .ok (.ireturn, 1) := by decide +kernel
theorem dM_seen_77 : decode bM_seen 77 = .ok (.aload_n 0, 1) := by decide +kernel
theorem dM_seen_78 : decode bM_seen 78 = .ok (.getfield 46, 3) := by decide +kernel
theorem dM_seen_81 : decode bM_seen 81 = .ok (.ifCond .eq 7, 3) := by decide +kernel
theorem dM_seen_84 : decode bM_seen 84 = .ok (.iconst 1, 1) := by decide +kernel
theorem dM_seen_85 : decode bM_seen 85 = .ok (.goto 4, 3) := by decide +kernel
theorem dM_seen_88 : decode bM_seen 88 = .ok (.iconst 0, 1) := by decide +kernel
theorem dM_seen_89 : decode bM_seen 89 = .ok (.ireturn, 1) := by decide +kernel
theorem dM_seen_90 : decode bM_seen 90 = .ok (.aload_n 0, 1) := by decide +kernel
theorem dM_seen_91 : decode bM_seen 91 = .ok (.getfield 49, 3) := by decide +kernel
theorem dM_seen_94 : decode bM_seen 94 = .ok (.ifCond .eq 7, 3) := by decide +kernel
theorem dM_seen_97 : decode bM_seen 97 = .ok (.iconst 1, 1) := by decide +kernel
theorem dM_seen_98 : decode bM_seen 98 = .ok (.goto 4, 3) := by decide +kernel
theorem dM_seen_101 : decode bM_seen 101 = .ok (.iconst 0, 1) := by decide +kernel
theorem dM_seen_102 : decode bM_seen 102 = .ok (.ireturn, 1) := by decide +kernel
theorem dM_seen_103 : decode bM_seen 103 = .ok (.aload_n 0, 1) := by decide +kernel
theorem dM_seen_104 : decode bM_seen 104 = .ok (.getfield 55, 3) := by decide +kernel
theorem dM_seen_107 : decode bM_seen 107 = .ok (.ireturn, 1) := by decide +kernel
theorem dM_seen_108 : decode bM_seen 108 = .ok (.aload_n 0, 1) := by decide +kernel
theorem dM_seen_109 : decode bM_seen 109 = .ok (.getfield 58, 3) := by decide +kernel
theorem dM_seen_112 : decode bM_seen 112 = .ok (.ireturn, 1) := by decide +kernel
theorem dM_seen_113 : decode bM_seen 113 = .ok (.aload_n 0, 1) := by decide +kernel
theorem dM_seen_114 : decode bM_seen 114 = .ok (.getfield 52, 3) := by decide +kernel
theorem dM_seen_117 : decode bM_seen 117 = .ok (.ireturn, 1) := by decide +kernel
theorem dM_look_0 : decode bM_look 0 = .ok (.aload_n 0, 1) := by decide +kernel
theorem dM_look_1 : decode bM_look 1 = .ok (.iload_n 1, 1) := by decide +kernel
theorem dM_look_2 : decode bM_look 2 = .ok (.ifCond .lt 13, 3) := by decide +kernel
theorem dM_look_5 : decode bM_look 5 = .ok (.iload_n 1, 1) := by decide +kernel
theorem dM_look_6 : decode bM_look 6 = .ok (.bipush 9, 2) := by decide +kernel
theorem dM_look_8 : decode bM_look 8 = .ok (.if_icmp .gt 7, 3) := by decide +kernel
theorem dM_look_11 : decode bM_look 11 = .ok (.iconst 1, 1) := by decide +kernel
theorem dM_look_12 : decode bM_look 12 = .ok (.goto 4, 3) := by decide +kernel
theorem dM_look_15 : decode bM_look 15 = .ok (.iconst 0, 1) := by decide +kernel
theorem dM_look_16 : decode bM_look 16 = .ok (.invokevirtual 69, 3) := by decide +kernel
theorem dM_look_19 : decode bM_look 19 = .ok (.ifCond .eq 11, 3) := by decide +kernel
theorem dM_look_22 : decode bM_look 22 = .ok (.aload_n 0, 1) := by decide +kernel
theorem dM_look_23 : decode bM_look 23 = .ok (.iload_n 1, 1) := by decide +kernel
theorem dM_look_24 : decode bM_look 24 = .ok (.invokevirtual 121, 3) := by decide +kernel
theorem dM_look_27 : decode bM_look 27 = .ok (.goto 4, 3) := by decide +kernel
theorem dM_look_30 : decode bM_look 30 = .ok (.iconst 0, 1) := by decide +kernel
theorem dM_look_31 : decode bM_look 31 = .ok (.ireturn, 1) := by decide +kernel
theorem dM_holds_0 : decode bM_holds 0 = .ok (.iconst 0, 1) := by decide +kernel
theorem dM_holds_1 : decode bM_holds 1 = .ok (.istore_n 2, 1) := by decide +kernel
theorem dM_holds_2 : decode bM_holds 2 = .ok (.iload_n 1, 1) := by decide +kernel
theorem dM_holds_3 : decode bM_holds 3 = .ok (.bipush 8, 2) := by decide +kernel
theorem dM_holds_5 : decode bM_holds 5 = .ok (.irem, 1) := by decide +kernel
theorem dM_holds_6 : decode bM_holds 6 = .ok (.tableswitch 144 1 7 #[42, 50, 77, 97, 120, 128, 136], 42) := by decide +kernel
theorem dM_holds_48 : decode bM_holds 48 = .ok (.aload_n 0, 1) := by decide +kernel
theorem dM_holds_49 : decode bM_holds 49 = .ok (.getfield 115, 3) := by decide +kernel
theorem dM_holds_52 : decode bM_holds 52 = .ok (.istore_n 2, 1) := by decide +kernel
theorem dM_holds_53 : decode bM_holds 53 = .ok (.goto 97, 3) := by decide +kernel
theorem dM_holds_56 : decode bM_holds 56 = .ok (.aload_n 0, 1) := by decide +kernel
theorem dM_holds_57 : decode bM_holds 57 = .ok (.getfield 115, 3) := by decide +kernel
theorem dM_holds_60 : decode bM_holds 60 = .ok (.ifCond .ne 14, 3) := by decide +kernel
theorem dM_holds_63 : decode bM_holds 63 = .ok (.aload_n 0, 1) := by decide +kernel
theorem dM_holds_64 : decode bM_holds 64 = .ok (.getfield 118, 3) := by decide +kernel
theorem dM_holds_67 : decode bM_holds 67 = .ok (.aload_n 0, 1) := by decide +kernel
theorem dM_holds_68 : decode bM_holds 68 = .ok (.getfield 112, 3) := by decide +kernel
theorem dM_holds_71 : decode bM_holds 71 = .ok (.if_icmp .eq 7, 3) := by decide +kernel
theorem dM_holds_74 : decode bM_holds 74 = .ok (.iconst 1, 1) := by decide +kernel
theorem dM_holds_75 : decode bM_holds 75 = .ok (.goto 4, 3) := by decide +kernel
theorem dM_holds_78 : decode bM_holds 78 = .ok (.iconst 0, 1) := by decide +kernel
theorem dM_holds_79 : decode bM_holds 79 = .ok (.istore_n 2, 1) := by decide +kernel
theorem dM_holds_80 : decode bM_holds 80 = .ok (.goto 70, 3) := by decide +kernel
theorem dM_holds_83 : decode bM_holds 83 = .ok (.aload_n 0, 1) := by decide +kernel
theorem dM_holds_84 : decode bM_holds 84 = .ok (.getfield 118, 3) := by decide +kernel
theorem dM_holds_87 : decode bM_holds 87 = .ok (.aload_n 0, 1) := by decide +kernel
theorem dM_holds_88 : decode bM_holds 88 = .ok (.getfield 112, 3) := by decide +kernel
theorem dM_holds_91 : decode bM_holds 91 = .ok (.if_icmp .eq 7, 3) := by decide +kernel
theorem dM_holds_94 : decode bM_holds 94 = .ok (.iconst 1, 1) := by decide +kernel
theorem dM_holds_95 : decode bM_holds 95 = .ok (.goto 4, 3) := by decide +kernel
theorem dM_holds_98 : decode bM_holds 98 = .ok (.iconst 0, 1) := by decide +kernel
theorem dM_holds_99 : decode bM_holds 99 = .ok (.istore_n 2, 1) := by decide +kernel
theorem dM_holds_100 : decode bM_holds 100 = .ok (.goto 50, 3) := by decide +kernel
theorem dM_holds_103 : decode bM_holds 103 = .ok (.aload_n 0, 1) := by decide +kernel
theorem dM_holds_104 : decode bM_holds 104 = .ok (.getfield 109, 3) := by decide +kernel
theorem dM_holds_107 : decode bM_holds 107 = .ok (.ifCond .ne 10, 3) := by decide +kernel
theorem dM_holds_110 : decode bM_holds 110 = .ok (.aload_n 0, 1) := by decide +kernel
theorem dM_holds_111 : decode bM_holds 111 = .ok (.getfield 115, 3) := by decide +kernel
theorem dM_holds_114 : decode bM_holds 114 = .ok (.ifCond .eq 7, 3) := by decide +kernel
theorem dM_holds_117 : decode bM_holds 117 = .ok (.iconst 1, 1) := by decide +kernel
theorem dM_holds_118 : decode bM_holds 118 = .ok (.goto 4, 3) := by decide +kernel
theorem dM_holds_121 : decode bM_holds 121 = .ok (.iconst 0, 1) := by decide +kernel
theorem dM_holds_122 : decode bM_holds 122 = .ok (.istore_n 2, 1) := by decide +kernel
theorem dM_holds_123 : decode bM_holds 123 = .ok (.goto 27, 3) := by decide +kernel
theorem dM_holds_126 : decode bM_holds 126 = .ok (.aload_n 0, 1) := by decide +kernel
theorem dM_holds_127 : decode bM_holds 127 = .ok (.getfield 109, 3) := by decide +kernel
theorem dM_holds_130 : decode bM_holds 130 = .ok (.istore_n 2, 1) := by decide +kernel
theorem dM_holds_131 : decode bM_holds 131 = .ok (.goto 19, 3) := by decide +kernel
theorem dM_holds_134 : decode bM_holds 134 = .ok (.aload_n 0, 1) := by decide +kernel
theorem dM_holds_135 : decode bM_holds 135 = .ok (.getfield 118, 3) := by decide +kernel
theorem dM_holds_138 : decode bM_holds 138 = .ok (.istore_n 2, 1) := by decide +kernel
theorem dM_holds_139 : decode bM_holds 139 = .ok (.goto 11, 3) := by decide +kernel
theorem dM_holds_142 : decode bM_holds 142 = .ok (.aload_n 0, 1) := by decide +kernel
theorem dM_holds_143 : decode bM_holds 143 = .ok (.getfield 112, 3) := by decide +kernel
theorem dM_holds_146 : decode bM_holds 146 = .ok (.istore_n 2, 1) := by decide +kernel
theorem dM_holds_147 : decode bM_holds 147 = .ok (.goto 3, 3) := by decide +kernel
theorem dM_holds_150 : decode bM_holds 150 = .ok (.iload_n 2, 1) := by decide +kernel
theorem dM_holds_151 : decode bM_holds 151 = .ok (.iload_n 1, 1) := by decide +kernel
theorem dM_holds_152 : decode bM_holds 152 = .ok (.bipush 7, 2) := by decide +kernel
theorem dM_holds_154 : decode bM_holds 154 = .ok (.if_icmp .le 7, 3) := by decide +kernel
theorem dM_holds_157 : decode bM_holds 157 = .ok (.iconst 1, 1) := by decide +kernel
theorem dM_holds_158 : decode bM_holds 158 = .ok (.goto 4, 3) := by decide +kernel
theorem dM_holds_161 : decode bM_holds 161 = .ok (.iconst 0, 1) := by decide +kernel
theorem dM_holds_162 : decode bM_holds 162 = .ok (.if_icmp .eq 7, 3) := by decide +kernel
theorem dM_holds_165 : decode bM_holds 165 = .ok (.iconst 1, 1) := by decide +kernel
theorem dM_holds_166 : decode bM_holds 166 = .ok (.goto 4, 3) := by decide +kernel
theorem dM_holds_169 : decode bM_holds 169 = .ok (.iconst 0, 1) := by decide +kernel
theorem dM_holds_170 : decode bM_holds 170 = .ok (.ireturn, 1) := by decide +kernel
theorem dM_signed_0 : decode bM_signed 0 = .ok (.iload_n 0, 1) := by decide +kernel
theorem dM_signed_1 : decode bM_signed 1 = .ok (.bipush 32, 2) := by decide +kernel
theorem dM_signed_3 : decode bM_signed 3 = .ok (.iload_n 1, 1) := by decide +kernel
theorem dM_signed_4 : decode bM_signed 4 = .ok (.isub, 1) := by decide +kernel
theorem dM_signed_5 : decode bM_signed 5 = .ok (.ishl, 1) := by decide +kernel
theorem dM_signed_6 : decode bM_signed 6 = .ok (.bipush 32, 2) := by decide +kernel
theorem dM_signed_8 : decode bM_signed 8 = .ok (.iload_n 1, 1) := by decide +kernel
theorem dM_signed_9 : decode bM_signed 9 = .ok (.isub, 1) := by decide +kernel
theorem dM_signed_10 : decode bM_signed 10 = .ok (.ishr, 1) := by decide +kernel
theorem dM_signed_11 : decode bM_signed 11 = .ok (.ireturn, 1) := by decide +kernel
theorem dM_moved_0 : decode bM_moved 0 = .ok (.iload_n 0, 1) := by decide +kernel
theorem dM_moved_1 : decode bM_moved 1 = .ok (.tableswitch 88 0 15 #[79, 81, 83, 85, 79, 81, 83, 85, 88, 81, 83, 88, 88, 81, 88, 79], 79) := by decide +kernel
theorem dM_moved_80 : decode bM_moved 80 = .ok (.iconst 4, 1) := by decide +kernel
theorem dM_moved_81 : decode bM_moved 81 = .ok (.ireturn, 1) := by decide +kernel
theorem dM_moved_82 : decode bM_moved 82 = .ok (.iconst 1, 1) := by decide +kernel
theorem dM_moved_83 : decode bM_moved 83 = .ok (.ireturn, 1) := by decide +kernel
theorem dM_moved_84 : decode bM_moved 84 = .ok (.iconst 2, 1) := by decide +kernel
theorem dM_moved_85 : decode bM_moved 85 = .ok (.ireturn, 1) := by decide +kernel
theorem dM_moved_86 : decode bM_moved 86 = .ok (.bipush 8, 2) := by decide +kernel
theorem dM_moved_88 : decode bM_moved 88 = .ok (.ireturn, 1) := by decide +kernel
theorem dM_moved_89 : decode bM_moved 89 = .ok (.iconst 0, 1) := by decide +kernel
theorem dM_moved_90 : decode bM_moved 90 = .ok (.ireturn, 1) := by decide +kernel
theorem dM_isWork_0 : decode bM_isWork 0 = .ok (.iload_n 0, 1) := by decide +kernel
theorem dM_isWork_1 : decode bM_isWork 1 = .ok (.bipush 16, 2) := by decide +kernel
theorem dM_isWork_3 : decode bM_isWork 3 = .ok (.if_icmp .lt 16, 3) := by decide +kernel
theorem dM_isWork_6 : decode bM_isWork 6 = .ok (.iload_n 0, 1) := by decide +kernel
theorem dM_isWork_7 : decode bM_isWork 7 = .ok (.bipush 32, 2) := by decide +kernel
theorem dM_isWork_9 : decode bM_isWork 9 = .ok (.if_icmp .ge 10, 3) := by decide +kernel
theorem dM_isWork_12 : decode bM_isWork 12 = .ok (.iload_n 0, 1) := by decide +kernel
theorem dM_isWork_13 : decode bM_isWork 13 = .ok (.bipush 16, 2) := by decide +kernel
theorem dM_isWork_15 : decode bM_isWork 15 = .ok (.isub, 1) := by decide +kernel
theorem dM_isWork_16 : decode bM_isWork 16 = .ok (.goto 4, 3) := by decide +kernel
theorem dM_isWork_19 : decode bM_isWork 19 = .ok (.iload_n 0, 1) := by decide +kernel
theorem dM_isWork_20 : decode bM_isWork 20 = .ok (.istore_n 1, 1) := by decide +kernel
theorem dM_isWork_21 : decode bM_isWork 21 = .ok (.iload_n 1, 1) := by decide +kernel
theorem dM_isWork_22 : decode bM_isWork 22 = .ok (.ifCond .lt 9, 3) := by decide +kernel
theorem dM_isWork_25 : decode bM_isWork 25 = .ok (.iload_n 1, 1) := by decide +kernel
theorem dM_isWork_26 : decode bM_isWork 26 = .ok (.bipush 8, 2) := by decide +kernel
theorem dM_isWork_28 : decode bM_isWork 28 = .ok (.if_icmp .le 21, 3) := by decide +kernel
theorem dM_isWork_31 : decode bM_isWork 31 = .ok (.iload_n 1, 1) := by decide +kernel
theorem dM_isWork_32 : decode bM_isWork 32 = .ok (.bipush 12, 2) := by decide +kernel
theorem dM_isWork_34 : decode bM_isWork 34 = .ok (.if_icmp .eq 15, 3) := by decide +kernel
theorem dM_isWork_37 : decode bM_isWork 37 = .ok (.iload_n 0, 1) := by decide +kernel
theorem dM_isWork_38 : decode bM_isWork 38 = .ok (.bipush 37, 2) := by decide +kernel
theorem dM_isWork_40 : decode bM_isWork 40 = .ok (.if_icmp .lt 13, 3) := by decide +kernel
theorem dM_isWork_43 : decode bM_isWork 43 = .ok (.iload_n 0, 1) := by decide +kernel
theorem dM_isWork_44 : decode bM_isWork 44 = .ok (.bipush 39, 2) := by decide +kernel
theorem dM_isWork_46 : decode bM_isWork 46 = .ok (.if_icmp .gt 7, 3) := by decide +kernel
theorem dM_isWork_49 : decode bM_isWork 49 = .ok (.iconst 1, 1) := by decide +kernel
theorem dM_isWork_50 : decode bM_isWork 50 = .ok (.goto 4, 3) := by decide +kernel
theorem dM_isWork_53 : decode bM_isWork 53 = .ok (.iconst 0, 1) := by decide +kernel
theorem dM_isWork_54 : decode bM_isWork 54 = .ok (.ireturn, 1) := by decide +kernel
theorem dM_isControl_0 : decode bM_isControl 0 = .ok (.iload_n 0, 1) := by decide +kernel
theorem dM_isControl_1 : decode bM_isControl 1 = .ok (.bipush 41, 2) := by decide +kernel
theorem dM_isControl_3 : decode bM_isControl 3 = .ok (.if_icmp .lt 9, 3) := by decide +kernel
theorem dM_isControl_6 : decode bM_isControl 6 = .ok (.iload_n 0, 1) := by decide +kernel
theorem dM_isControl_7 : decode bM_isControl 7 = .ok (.bipush 43, 2) := by decide +kernel
theorem dM_isControl_9 : decode bM_isControl 9 = .ok (.if_icmp .le 15, 3) := by decide +kernel
theorem dM_isControl_12 : decode bM_isControl 12 = .ok (.iload_n 0, 1) := by decide +kernel
theorem dM_isControl_13 : decode bM_isControl 13 = .ok (.bipush 49, 2) := by decide +kernel
theorem dM_isControl_15 : decode bM_isControl 15 = .ok (.if_icmp .lt 13, 3) := by decide +kernel
theorem dM_isControl_18 : decode bM_isControl 18 = .ok (.iload_n 0, 1) := by decide +kernel
theorem dM_isControl_19 : decode bM_isControl 19 = .ok (.bipush 51, 2) := by decide +kernel
theorem dM_isControl_21 : decode bM_isControl 21 = .ok (.if_icmp .gt 7, 3) := by decide +kernel
theorem dM_isControl_24 : decode bM_isControl 24 = .ok (.iconst 1, 1) := by decide +kernel
theorem dM_isControl_25 : decode bM_isControl 25 = .ok (.goto 4, 3) := by decide +kernel
theorem dM_isControl_28 : decode bM_isControl 28 = .ok (.iconst 0, 1) := by decide +kernel
theorem dM_isControl_29 : decode bM_isControl 29 = .ok (.ireturn, 1) := by decide +kernel
theorem dM_isKnown_0 : decode bM_isKnown 0 = .ok (.iload_n 1, 1) := by decide +kernel
theorem dM_isKnown_1 : decode bM_isKnown 1 = .ok (.ifCond .ne 25, 3) := by decide +kernel
theorem dM_isKnown_4 : decode bM_isKnown 4 = .ok (.aload_n 0, 1) := by decide +kernel
theorem dM_isKnown_5 : decode bM_isKnown 5 = .ok (.getfield 132, 3) := by decide +kernel
theorem dM_isKnown_8 : decode bM_isKnown 8 = .ok (.iconst 4, 1) := by decide +kernel
theorem dM_isKnown_9 : decode bM_isKnown 9 = .ok (.if_icmp .eq 11, 3) := by decide +kernel
theorem dM_isKnown_12 : decode bM_isKnown 12 = .ok (.aload_n 0, 1) := by decide +kernel
theorem dM_isKnown_13 : decode bM_isKnown 13 = .ok (.getfield 132, 3) := by decide +kernel
theorem dM_isKnown_16 : decode bM_isKnown 16 = .ok (.iconst 2, 1) := by decide +kernel
theorem dM_isKnown_17 : decode bM_isKnown 17 = .ok (.if_icmp .ne 7, 3) := by decide +kernel
theorem dM_isKnown_20 : decode bM_isKnown 20 = .ok (.iconst 1, 1) := by decide +kernel
theorem dM_isKnown_21 : decode bM_isKnown 21 = .ok (.goto 4, 3) := by decide +kernel
theorem dM_isKnown_24 : decode bM_isKnown 24 = .ok (.iconst 0, 1) := by decide +kernel
theorem dM_isKnown_25 : decode bM_isKnown 25 = .ok (.ireturn, 1) := by decide +kernel
theorem dM_isKnown_26 : decode bM_isKnown 26 = .ok (.iload_n 1, 1) := by decide +kernel
theorem dM_isKnown_27 : decode bM_isKnown 27 = .ok (.iconst 1, 1) := by decide +kernel
theorem dM_isKnown_28 : decode bM_isKnown 28 = .ok (.if_icmp .ne 5, 3) := by decide +kernel
theorem dM_isKnown_31 : decode bM_isKnown 31 = .ok (.iconst 1, 1) := by decide +kernel
theorem dM_isKnown_32 : decode bM_isKnown 32 = .ok (.ireturn, 1) := by decide +kernel
theorem dM_isKnown_33 : decode bM_isKnown 33 = .ok (.iload_n 1, 1) := by decide +kernel
theorem dM_isKnown_34 : decode bM_isKnown 34 = .ok (.iconst 3, 1) := by decide +kernel
theorem dM_isKnown_35 : decode bM_isKnown 35 = .ok (.if_icmp .ne 19, 3) := by decide +kernel
theorem dM_isKnown_38 : decode bM_isKnown 38 = .ok (.aload_n 0, 1) := by decide +kernel
theorem dM_isKnown_39 : decode bM_isKnown 39 = .ok (.getfield 132, 3) := by decide +kernel
theorem dM_isKnown_42 : decode bM_isKnown 42 = .ok (.invokestatic 135, 3) := by decide +kernel
theorem dM_isKnown_45 : decode bM_isKnown 45 = .ok (.ifCond .le 7, 3) := by decide +kernel
theorem dM_isKnown_48 : decode bM_isKnown 48 = .ok (.iconst 1, 1) := by decide +kernel
theorem dM_isKnown_49 : decode bM_isKnown 49 = .ok (.goto 4, 3) := by decide +kernel
theorem dM_isKnown_52 : decode bM_isKnown 52 = .ok (.iconst 0, 1) := by decide +kernel
theorem dM_isKnown_53 : decode bM_isKnown 53 = .ok (.ireturn, 1) := by decide +kernel
theorem dM_isKnown_54 : decode bM_isKnown 54 = .ok (.aload_n 0, 1) := by decide +kernel
theorem dM_isKnown_55 : decode bM_isKnown 55 = .ok (.getfield 132, 3) := by decide +kernel
theorem dM_isKnown_58 : decode bM_isKnown 58 = .ok (.invokestatic 138, 3) := by decide +kernel
theorem dM_isKnown_61 : decode bM_isKnown 61 = .ok (.ifCond .ne 49, 3) := by decide +kernel
theorem dM_isKnown_64 : decode bM_isKnown 64 = .ok (.aload_n 0, 1) := by decide +kernel
theorem dM_isKnown_65 : decode bM_isKnown 65 = .ok (.getfield 132, 3) := by decide +kernel
theorem dM_isKnown_68 : decode bM_isKnown 68 = .ok (.invokestatic 141, 3) := by decide +kernel
theorem dM_isKnown_71 : decode bM_isKnown 71 = .ok (.ifCond .ne 39, 3) := by decide +kernel
theorem dM_isKnown_74 : decode bM_isKnown 74 = .ok (.aload_n 0, 1) := by decide +kernel
theorem dM_isKnown_75 : decode bM_isKnown 75 = .ok (.getfield 132, 3) := by decide +kernel
theorem dM_isKnown_78 : decode bM_isKnown 78 = .ok (.bipush 56, 2) := by decide +kernel
theorem dM_isKnown_80 : decode bM_isKnown 80 = .ok (.if_icmp .lt 12, 3) := by decide +kernel
theorem dM_isKnown_83 : decode bM_isKnown 83 = .ok (.aload_n 0, 1) := by decide +kernel
theorem dM_isKnown_84 : decode bM_isKnown 84 = .ok (.getfield 132, 3) := by decide +kernel
theorem dM_isKnown_87 : decode bM_isKnown 87 = .ok (.bipush 58, 2) := by decide +kernel
theorem dM_isKnown_89 : decode bM_isKnown 89 = .ok (.if_icmp .le 21, 3) := by decide +kernel
theorem dM_isKnown_92 : decode bM_isKnown 92 = .ok (.aload_n 0, 1) := by decide +kernel
theorem dM_isKnown_93 : decode bM_isKnown 93 = .ok (.getfield 132, 3) := by decide +kernel
theorem dM_isKnown_96 : decode bM_isKnown 96 = .ok (.bipush 60, 2) := by decide +kernel
theorem dM_isKnown_98 : decode bM_isKnown 98 = .ok (.if_icmp .eq 12, 3) := by decide +kernel
theorem dM_isKnown_101 : decode bM_isKnown 101 = .ok (.aload_n 0, 1) := by decide +kernel
theorem dM_isKnown_102 : decode bM_isKnown 102 = .ok (.getfield 132, 3) := by decide +kernel
theorem dM_isKnown_105 : decode bM_isKnown 105 = .ok (.bipush 61, 2) := by decide +kernel
theorem dM_isKnown_107 : decode bM_isKnown 107 = .ok (.if_icmp .ne 7, 3) := by decide +kernel
theorem dM_isKnown_110 : decode bM_isKnown 110 = .ok (.iconst 1, 1) := by decide +kernel
theorem dM_isKnown_111 : decode bM_isKnown 111 = .ok (.goto 4, 3) := by decide +kernel
theorem dM_isKnown_114 : decode bM_isKnown 114 = .ok (.iconst 0, 1) := by decide +kernel
theorem dM_isKnown_115 : decode bM_isKnown 115 = .ok (.ireturn, 1) := by decide +kernel
theorem dM_troubleOf_0 : decode bM_troubleOf 0 = .ok (.aload_n 0, 1) := by decide +kernel
theorem dM_troubleOf_1 : decode bM_troubleOf 1 = .ok (.getfield 132, 3) := by decide +kernel
theorem dM_troubleOf_4 : decode bM_troubleOf 4 = .ok (.bipush 57, 2) := by decide +kernel
theorem dM_troubleOf_6 : decode bM_troubleOf 6 = .ok (.if_icmp .ne 14, 3) := by decide +kernel
theorem dM_troubleOf_9 : decode bM_troubleOf 9 = .ok (.aload_n 0, 1) := by decide +kernel
theorem dM_troubleOf_10 : decode bM_troubleOf 10 = .ok (.getfield 96, 3) := by decide +kernel
theorem dM_troubleOf_13 : decode bM_troubleOf 13 = .ok (.ifCond .eq 7, 3) := by decide +kernel
theorem dM_troubleOf_16 : decode bM_troubleOf 16 = .ok (.iconst 1, 1) := by decide +kernel
theorem dM_troubleOf_17 : decode bM_troubleOf 17 = .ok (.goto 4, 3) := by decide +kernel
theorem dM_troubleOf_20 : decode bM_troubleOf 20 = .ok (.iconst 0, 1) := by decide +kernel
theorem dM_troubleOf_21 : decode bM_troubleOf 21 = .ok (.istore_n 2, 1) := by decide +kernel
theorem dM_troubleOf_22 : decode bM_troubleOf 22 = .ok (.aload_n 0, 1) := by decide +kernel
theorem dM_troubleOf_23 : decode bM_troubleOf 23 = .ok (.getfield 132, 3) := by decide +kernel
theorem dM_troubleOf_26 : decode bM_troubleOf 26 = .ok (.bipush 49, 2) := by decide +kernel
theorem dM_troubleOf_28 : decode bM_troubleOf 28 = .ok (.if_icmp .ne 20, 3) := by decide +kernel
theorem dM_troubleOf_31 : decode bM_troubleOf 31 = .ok (.aload_n 0, 1) := by decide +kernel
theorem dM_troubleOf_32 : decode bM_troubleOf 32 = .ok (.getfield 144, 3) := by decide +kernel
theorem dM_troubleOf_35 : decode bM_troubleOf 35 = .ok (.aload_n 0, 1) := by decide +kernel
theorem dM_troubleOf_36 : decode bM_troubleOf 36 = .ok (.getfield 147, 3) := by decide +kernel
theorem dM_troubleOf_39 : decode bM_troubleOf 39 = .ok (.ixor, 1) := by decide +kernel
theorem dM_troubleOf_40 : decode bM_troubleOf 40 = .ok (.bipush 31, 2) := by decide +kernel
theorem dM_troubleOf_42 : decode bM_troubleOf 42 = .ok (.iand, 1) := by decide +kernel
theorem dM_troubleOf_43 : decode bM_troubleOf 43 = .ok (.bipush 7, 2) := by decide +kernel
theorem dM_troubleOf_45 : decode bM_troubleOf 45 = .ok (.if_icmp .gt 14, 3) := by decide +kernel
theorem dM_troubleOf_48 : decode bM_troubleOf 48 = .ok (.iload_n 2, 1) := by decide +kernel
theorem dM_troubleOf_49 : decode bM_troubleOf 49 = .ok (.ifCond .eq 12, 3) := by decide +kernel
theorem dM_troubleOf_52 : decode bM_troubleOf 52 = .ok (.aload_n 0, 1) := by decide +kernel
theorem dM_troubleOf_53 : decode bM_troubleOf 53 = .ok (.getfield 19, 3) := by decide +kernel
theorem dM_troubleOf_56 : decode bM_troubleOf 56 = .ok (.ifCond .eq 5, 3) := by decide +kernel
theorem dM_troubleOf_59 : decode bM_troubleOf 59 = .ok (.iconst 2, 1) := by decide +kernel
theorem dM_troubleOf_60 : decode bM_troubleOf 60 = .ok (.ireturn, 1) := by decide +kernel
theorem dM_troubleOf_61 : decode bM_troubleOf 61 = .ok (.aload_n 0, 1) := by decide +kernel
theorem dM_troubleOf_62 : decode bM_troubleOf 62 = .ok (.getfield 132, 3) := by decide +kernel
theorem dM_troubleOf_65 : decode bM_troubleOf 65 = .ok (.invokestatic 141, 3) := by decide +kernel
theorem dM_troubleOf_68 : decode bM_troubleOf 68 = .ok (.ifCond .eq 10, 3) := by decide +kernel
theorem dM_troubleOf_71 : decode bM_troubleOf 71 = .ok (.aload_n 0, 1) := by decide +kernel
theorem dM_troubleOf_72 : decode bM_troubleOf 72 = .ok (.getfield 19, 3) := by decide +kernel
theorem dM_troubleOf_75 : decode bM_troubleOf 75 = .ok (.ifCond .eq 7, 3) := by decide +kernel
theorem dM_troubleOf_78 : decode bM_troubleOf 78 = .ok (.iload_n 2, 1) := by decide +kernel
theorem dM_troubleOf_79 : decode bM_troubleOf 79 = .ok (.ifCond .eq 5, 3) := by decide +kernel
theorem dM_troubleOf_82 : decode bM_troubleOf 82 = .ok (.iconst 3, 1) := by decide +kernel
theorem dM_troubleOf_83 : decode bM_troubleOf 83 = .ok (.ireturn, 1) := by decide +kernel
theorem dM_troubleOf_84 : decode bM_troubleOf 84 = .ok (.aload_n 0, 1) := by decide +kernel
theorem dM_troubleOf_85 : decode bM_troubleOf 85 = .ok (.getfield 132, 3) := by decide +kernel
theorem dM_troubleOf_88 : decode bM_troubleOf 88 = .ok (.bipush 60, 2) := by decide +kernel
theorem dM_troubleOf_90 : decode bM_troubleOf 90 = .ok (.if_icmp .ne 16, 3) := by decide +kernel
theorem dM_troubleOf_93 : decode bM_troubleOf 93 = .ok (.aload_n 0, 1) := by decide +kernel
theorem dM_troubleOf_94 : decode bM_troubleOf 94 = .ok (.getfield 93, 3) := by decide +kernel
theorem dM_troubleOf_97 : decode bM_troubleOf 97 = .ok (.bipush 7, 2) := by decide +kernel
theorem dM_troubleOf_99 : decode bM_troubleOf 99 = .ok (.iadd, 1) := by decide +kernel
theorem dM_troubleOf_100 : decode bM_troubleOf 100 = .ok (.bipush 8, 2) := by decide +kernel
theorem dM_troubleOf_102 : decode bM_troubleOf 102 = .ok (.irem, 1) := by decide +kernel
theorem dM_troubleOf_103 : decode bM_troubleOf 103 = .ok (.goto 12, 3) := by decide +kernel
theorem dM_troubleOf_106 : decode bM_troubleOf 106 = .ok (.aload_n 0, 1) := by decide +kernel
theorem dM_troubleOf_107 : decode bM_troubleOf 107 = .ok (.getfield 93, 3) := by decide +kernel
theorem dM_troubleOf_110 : decode bM_troubleOf 110 = .ok (.iconst 1, 1) := by decide +kernel
theorem dM_troubleOf_111 : decode bM_troubleOf 111 = .ok (.iadd, 1) := by decide +kernel
theorem dM_troubleOf_112 : decode bM_troubleOf 112 = .ok (.bipush 8, 2) := by decide +kernel
theorem dM_troubleOf_114 : decode bM_troubleOf 114 = .ok (.irem, 1) := by decide +kernel
theorem dM_troubleOf_115 : decode bM_troubleOf 115 = .ok (.istore_n 3, 1) := by decide +kernel
theorem dM_troubleOf_116 : decode bM_troubleOf 116 = .ok (.aload_n 0, 1) := by decide +kernel
theorem dM_troubleOf_117 : decode bM_troubleOf 117 = .ok (.getfield 132, 3) := by decide +kernel
theorem dM_troubleOf_120 : decode bM_troubleOf 120 = .ok (.bipush 60, 2) := by decide +kernel
theorem dM_troubleOf_122 : decode bM_troubleOf 122 = .ok (.if_icmp .eq 12, 3) := by decide +kernel
theorem dM_troubleOf_125 : decode bM_troubleOf 125 = .ok (.aload_n 0, 1) := by decide +kernel
theorem dM_troubleOf_126 : decode bM_troubleOf 126 = .ok (.getfield 132, 3) := by decide +kernel
theorem dM_troubleOf_129 : decode bM_troubleOf 129 = .ok (.bipush 61, 2) := by decide +kernel
theorem dM_troubleOf_131 : decode bM_troubleOf 131 = .ok (.if_icmp .ne 31, 3) := by decide +kernel
theorem dM_troubleOf_134 : decode bM_troubleOf 134 = .ok (.aload_n 0, 1) := by decide +kernel
theorem dM_troubleOf_135 : decode bM_troubleOf 135 = .ok (.getfield 34, 3) := by decide +kernel
theorem dM_troubleOf_138 : decode bM_troubleOf 138 = .ok (.iload_n 3, 1) := by decide +kernel
theorem dM_troubleOf_139 : decode bM_troubleOf 139 = .ok (.ishr, 1) := by decide +kernel
theorem dM_troubleOf_140 : decode bM_troubleOf 140 = .ok (.iconst 1, 1) := by decide +kernel
theorem dM_troubleOf_141 : decode bM_troubleOf 141 = .ok (.iand, 1) := by decide +kernel
theorem dM_troubleOf_142 : decode bM_troubleOf 142 = .ok (.iconst 1, 1) := by decide +kernel
theorem dM_troubleOf_143 : decode bM_troubleOf 143 = .ok (.if_icmp .ne 19, 3) := by decide +kernel
theorem dM_troubleOf_146 : decode bM_troubleOf 146 = .ok (.aload_n 0, 1) := by decide +kernel
theorem dM_troubleOf_147 : decode bM_troubleOf 147 = .ok (.getfield 132, 3) := by decide +kernel
theorem dM_troubleOf_150 : decode bM_troubleOf 150 = .ok (.bipush 60, 2) := by decide +kernel
theorem dM_troubleOf_152 : decode bM_troubleOf 152 = .ok (.if_icmp .ne 7, 3) := by decide +kernel
theorem dM_troubleOf_155 : decode bM_troubleOf 155 = .ok (.iconst 5, 1) := by decide +kernel
theorem dM_troubleOf_156 : decode bM_troubleOf 156 = .ok (.goto 5, 3) := by decide +kernel
theorem dM_troubleOf_159 : decode bM_troubleOf 159 = .ok (.bipush 6, 2) := by decide +kernel
theorem dM_troubleOf_161 : decode bM_troubleOf 161 = .ok (.ireturn, 1) := by decide +kernel
theorem dM_troubleOf_162 : decode bM_troubleOf 162 = .ok (.aload_n 0, 1) := by decide +kernel
theorem dM_troubleOf_163 : decode bM_troubleOf 163 = .ok (.getfield 132, 3) := by decide +kernel
theorem dM_troubleOf_166 : decode bM_troubleOf 166 = .ok (.bipush 56, 2) := by decide +kernel
theorem dM_troubleOf_168 : decode bM_troubleOf 168 = .ok (.if_icmp .ne 12, 3) := by decide +kernel
theorem dM_troubleOf_171 : decode bM_troubleOf 171 = .ok (.iload_n 1, 1) := by decide +kernel
theorem dM_troubleOf_172 : decode bM_troubleOf 172 = .ok (.iconst 3, 1) := by decide +kernel
theorem dM_troubleOf_173 : decode bM_troubleOf 173 = .ok (.iand, 1) := by decide +kernel
theorem dM_troubleOf_174 : decode bM_troubleOf 174 = .ok (.ifCond .eq 6, 3) := by decide +kernel
theorem dM_troubleOf_177 : decode bM_troubleOf 177 = .ok (.bipush 7, 2) := by decide +kernel
theorem dM_troubleOf_179 : decode bM_troubleOf 179 = .ok (.ireturn, 1) := by decide +kernel
theorem dM_troubleOf_180 : decode bM_troubleOf 180 = .ok (.aload_n 0, 1) := by decide +kernel
theorem dM_troubleOf_181 : decode bM_troubleOf 181 = .ok (.getfield 132, 3) := by decide +kernel
theorem dM_troubleOf_184 : decode bM_troubleOf 184 = .ok (.bipush 58, 2) := by decide +kernel
theorem dM_troubleOf_186 : decode bM_troubleOf 186 = .ok (.if_icmp .ne 31, 3) := by decide +kernel
theorem dM_troubleOf_189 : decode bM_troubleOf 189 = .ok (.aload_n 0, 1) := by decide +kernel
theorem dM_troubleOf_190 : decode bM_troubleOf 190 = .ok (.aload_n 0, 1) := by decide +kernel
theorem dM_troubleOf_191 : decode bM_troubleOf 191 = .ok (.getfield 150, 3) := by decide +kernel
theorem dM_troubleOf_194 : decode bM_troubleOf 194 = .ok (.bipush 25, 2) := by decide +kernel
theorem dM_troubleOf_196 : decode bM_troubleOf 196 = .ok (.ishr, 1) := by decide +kernel
theorem dM_troubleOf_197 : decode bM_troubleOf 197 = .ok (.bipush 15, 2) := by decide +kernel
theorem dM_troubleOf_199 : decode bM_troubleOf 199 = .ok (.iand, 1) := by decide +kernel
theorem dM_troubleOf_200 : decode bM_troubleOf 200 = .ok (.invokevirtual 153, 3) := by decide +kernel
theorem dM_troubleOf_203 : decode bM_troubleOf 203 = .ok (.ifCond .eq 14, 3) := by decide +kernel
theorem dM_troubleOf_206 : decode bM_troubleOf 206 = .ok (.sipush 128, 3) := by decide +kernel
theorem dM_troubleOf_209 : decode bM_troubleOf 209 = .ok (.iload_n 1, 1) := by decide +kernel
theorem dM_troubleOf_210 : decode bM_troubleOf 210 = .ok (.bipush 127, 2) := by decide +kernel
theorem dM_troubleOf_212 : decode bM_troubleOf 212 = .ok (.iand, 1) := by decide +kernel
theorem dM_troubleOf_213 : decode bM_troubleOf 213 = .ok (.iadd, 1) := by decide +kernel
theorem dM_troubleOf_214 : decode bM_troubleOf 214 = .ok (.goto 4, 3) := by decide +kernel
theorem dM_troubleOf_217 : decode bM_troubleOf 217 = .ok (.iconst 0, 1) := by decide +kernel
theorem dM_troubleOf_218 : decode bM_troubleOf 218 = .ok (.ireturn, 1) := by decide +kernel
