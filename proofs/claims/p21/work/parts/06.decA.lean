theorem dX0_init_0 : decode cX0_init 0 = .ok (.aload_n 0, 1) := by decide +kernel
theorem dX0_init_1 : decode cX0_init 1 = .ok (.invokespecial 3, 3) := by decide +kernel
theorem dX0_init_4 : decode cX0_init 4 = .ok (.aload_n 0, 1) := by decide +kernel
theorem dX0_init_5 : decode cX0_init 5 = .ok (.sipush 360, 3) := by decide +kernel
theorem dX0_init_8 : decode cX0_init 8 = .ok (.newarray .int, 2) := by decide +kernel
theorem dX0_init_10 : decode cX0_init 10 = .ok (.putfield 9, 3) := by decide +kernel
theorem dX0_init_13 : decode cX0_init 13 = .ok (.aload_n 0, 1) := by decide +kernel
theorem dX0_init_14 : decode cX0_init 14 = .ok (.getfield 9, 3) := by decide +kernel
theorem dX0_init_17 : decode cX0_init 17 = .ok (.bipush (-2), 2) := by decide +kernel
theorem dX0_init_19 : decode cX0_init 19 = .ok (.invokestatic 15, 3) := by decide +kernel
theorem dX0_init_22 : decode cX0_init 22 = .ok (.return_, 1) := by decide +kernel
theorem dX0_get_0 : decode cX0_get 0 = .ok (.iload_n 1, 1) := by decide +kernel
theorem dX0_get_1 : decode cX0_get 1 = .ok (.invokestatic 21, 3) := by decide +kernel
theorem dX0_get_4 : decode cX0_get 4 = .ok (.ifCond .eq 24, 3) := by decide +kernel
theorem dX0_get_7 : decode cX0_get 7 = .ok (.iload_n 2, 1) := by decide +kernel
theorem dX0_get_8 : decode cX0_get 8 = .ok (.invokestatic 25, 3) := by decide +kernel
theorem dX0_get_11 : decode cX0_get 11 = .ok (.ifCond .eq 17, 3) := by decide +kernel
theorem dX0_get_14 : decode cX0_get 14 = .ok (.aload_n 0, 1) := by decide +kernel
theorem dX0_get_15 : decode cX0_get 15 = .ok (.getfield 9, 3) := by decide +kernel
theorem dX0_get_18 : decode cX0_get 18 = .ok (.iload_n 1, 1) := by decide +kernel
theorem dX0_get_19 : decode cX0_get 19 = .ok (.bipush 120, 2) := by decide +kernel
theorem dX0_get_21 : decode cX0_get 21 = .ok (.imul, 1) := by decide +kernel
theorem dX0_get_22 : decode cX0_get 22 = .ok (.iload_n 2, 1) := by decide +kernel
theorem dX0_get_23 : decode cX0_get 23 = .ok (.iadd, 1) := by decide +kernel
theorem dX0_get_24 : decode cX0_get 24 = .ok (.iaload, 1) := by decide +kernel
theorem dX0_get_25 : decode cX0_get 25 = .ok (.goto 5, 3) := by decide +kernel
theorem dX0_get_28 : decode cX0_get 28 = .ok (.bipush (-2), 2) := by decide +kernel
theorem dX0_get_30 : decode cX0_get 30 = .ok (.ireturn, 1) := by decide +kernel
theorem dX0_put_0 : decode cX0_put 0 = .ok (.iload_n 1, 1) := by decide +kernel
theorem dX0_put_1 : decode cX0_put 1 = .ok (.invokestatic 21, 3) := by decide +kernel
theorem dX0_put_4 : decode cX0_put 4 = .ok (.ifCond .eq 33, 3) := by decide +kernel
theorem dX0_put_7 : decode cX0_put 7 = .ok (.iload_n 2, 1) := by decide +kernel
theorem dX0_put_8 : decode cX0_put 8 = .ok (.invokestatic 25, 3) := by decide +kernel
theorem dX0_put_11 : decode cX0_put 11 = .ok (.ifCond .eq 26, 3) := by decide +kernel
theorem dX0_put_14 : decode cX0_put 14 = .ok (.aload_n 0, 1) := by decide +kernel
theorem dX0_put_15 : decode cX0_put 15 = .ok (.iload_n 1, 1) := by decide +kernel
theorem dX0_put_16 : decode cX0_put 16 = .ok (.iload_n 2, 1) := by decide +kernel
theorem dX0_put_17 : decode cX0_put 17 = .ok (.invokevirtual 28, 3) := by decide +kernel
theorem dX0_put_20 : decode cX0_put 20 = .ok (.bipush (-2), 2) := by decide +kernel
theorem dX0_put_22 : decode cX0_put 22 = .ok (.if_icmp .ne 15, 3) := by decide +kernel
theorem dX0_put_25 : decode cX0_put 25 = .ok (.aload_n 0, 1) := by decide +kernel
theorem dX0_put_26 : decode cX0_put 26 = .ok (.getfield 9, 3) := by decide +kernel
theorem dX0_put_29 : decode cX0_put 29 = .ok (.iload_n 1, 1) := by decide +kernel
theorem dX0_put_30 : decode cX0_put 30 = .ok (.bipush 120, 2) := by decide +kernel
theorem dX0_put_32 : decode cX0_put 32 = .ok (.imul, 1) := by decide +kernel
theorem dX0_put_33 : decode cX0_put 33 = .ok (.iload_n 2, 1) := by decide +kernel
theorem dX0_put_34 : decode cX0_put 34 = .ok (.iadd, 1) := by decide +kernel
theorem dX0_put_35 : decode cX0_put 35 = .ok (.iload_n 3, 1) := by decide +kernel
theorem dX0_put_36 : decode cX0_put 36 = .ok (.iastore, 1) := by decide +kernel
theorem dX0_put_37 : decode cX0_put 37 = .ok (.return_, 1) := by decide +kernel
theorem dX0_countWritten_0 : decode cX0_countWritten 0 = .ok (.iconst 0, 1) := by decide +kernel
theorem dX0_countWritten_1 : decode cX0_countWritten 1 = .ok (.istore_n 2, 1) := by decide +kernel
theorem dX0_countWritten_2 : decode cX0_countWritten 2 = .ok (.iconst 0, 1) := by decide +kernel
theorem dX0_countWritten_3 : decode cX0_countWritten 3 = .ok (.istore_n 3, 1) := by decide +kernel
theorem dX0_countWritten_4 : decode cX0_countWritten 4 = .ok (.iload_n 3, 1) := by decide +kernel
theorem dX0_countWritten_5 : decode cX0_countWritten 5 = .ok (.iconst 3, 1) := by decide +kernel
theorem dX0_countWritten_6 : decode cX0_countWritten 6 = .ok (.if_icmp .ge 23, 3) := by decide +kernel
theorem dX0_countWritten_9 : decode cX0_countWritten 9 = .ok (.aload_n 0, 1) := by decide +kernel
theorem dX0_countWritten_10 : decode cX0_countWritten 10 = .ok (.iload_n 3, 1) := by decide +kernel
theorem dX0_countWritten_11 : decode cX0_countWritten 11 = .ok (.iload_n 1, 1) := by decide +kernel
theorem dX0_countWritten_12 : decode cX0_countWritten 12 = .ok (.invokevirtual 28, 3) := by decide +kernel
theorem dX0_countWritten_15 : decode cX0_countWritten 15 = .ok (.bipush (-2), 2) := by decide +kernel
theorem dX0_countWritten_17 : decode cX0_countWritten 17 = .ok (.if_icmp .eq 6, 3) := by decide +kernel
theorem dX0_countWritten_20 : decode cX0_countWritten 20 = .ok (.iinc 2 1, 3) := by decide +kernel
theorem dX0_countWritten_23 : decode cX0_countWritten 23 = .ok (.iinc 3 1, 3) := by decide +kernel
theorem dX0_countWritten_26 : decode cX0_countWritten 26 = .ok (.goto (-22), 3) := by decide +kernel
theorem dX0_countWritten_29 : decode cX0_countWritten 29 = .ok (.iload_n 2, 1) := by decide +kernel
theorem dX0_countWritten_30 : decode cX0_countWritten 30 = .ok (.ireturn, 1) := by decide +kernel
theorem dX0_isComplete_0 : decode cX0_isComplete 0 = .ok (.aload_n 0, 1) := by decide +kernel
theorem dX0_isComplete_1 : decode cX0_isComplete 1 = .ok (.iload_n 1, 1) := by decide +kernel
theorem dX0_isComplete_2 : decode cX0_isComplete 2 = .ok (.invokevirtual 32, 3) := by decide +kernel
theorem dX0_isComplete_5 : decode cX0_isComplete 5 = .ok (.iconst 3, 1) := by decide +kernel
theorem dX0_isComplete_6 : decode cX0_isComplete 6 = .ok (.if_icmp .ne 7, 3) := by decide +kernel
theorem dX0_isComplete_9 : decode cX0_isComplete 9 = .ok (.iconst 1, 1) := by decide +kernel
theorem dX0_isComplete_10 : decode cX0_isComplete 10 = .ok (.goto 4, 3) := by decide +kernel
theorem dX0_isComplete_13 : decode cX0_isComplete 13 = .ok (.iconst 0, 1) := by decide +kernel
theorem dX0_isComplete_14 : decode cX0_isComplete 14 = .ok (.ireturn, 1) := by decide +kernel
theorem dX0_completeFromStart_0 : decode cX0_completeFromStart 0 = .ok (.iconst 0, 1) := by decide +kernel
theorem dX0_completeFromStart_1 : decode cX0_completeFromStart 1 = .ok (.istore_n 1, 1) := by decide +kernel
theorem dX0_completeFromStart_2 : decode cX0_completeFromStart 2 = .ok (.iload_n 1, 1) := by decide +kernel
theorem dX0_completeFromStart_3 : decode cX0_completeFromStart 3 = .ok (.bipush 120, 2) := by decide +kernel
theorem dX0_completeFromStart_5 : decode cX0_completeFromStart 5 = .ok (.if_icmp .ge 19, 3) := by decide +kernel
theorem dX0_completeFromStart_8 : decode cX0_completeFromStart 8 = .ok (.aload_n 0, 1) := by decide +kernel
theorem dX0_completeFromStart_9 : decode cX0_completeFromStart 9 = .ok (.iload_n 1, 1) := by decide +kernel
theorem dX0_completeFromStart_10 : decode cX0_completeFromStart 10 = .ok (.invokevirtual 36, 3) := by decide +kernel
theorem dX0_completeFromStart_13 : decode cX0_completeFromStart 13 = .ok (.ifCond .ne 5, 3) := by decide +kernel
theorem dX0_completeFromStart_16 : decode cX0_completeFromStart 16 = .ok (.iload_n 1, 1) := by decide +kernel
theorem dX0_completeFromStart_17 : decode cX0_completeFromStart 17 = .ok (.ireturn, 1) := by decide +kernel
theorem dX0_completeFromStart_18 : decode cX0_completeFromStart 18 = .ok (.iinc 1 1, 3) := by decide +kernel
theorem dX0_completeFromStart_21 : decode cX0_completeFromStart 21 = .ok (.goto (-19), 3) := by decide +kernel
theorem dX0_completeFromStart_24 : decode cX0_completeFromStart 24 = .ok (.bipush 120, 2) := by decide +kernel
theorem dX0_completeFromStart_26 : decode cX0_completeFromStart 26 = .ok (.ireturn, 1) := by decide +kernel
theorem dX0_end_0 : decode cX0_end 0 = .ok (.bipush 119, 2) := by decide +kernel
theorem dX0_end_2 : decode cX0_end 2 = .ok (.istore_n 1, 1) := by decide +kernel
theorem dX0_end_3 : decode cX0_end 3 = .ok (.iload_n 1, 1) := by decide +kernel
theorem dX0_end_4 : decode cX0_end 4 = .ok (.ifCond .lt 21, 3) := by decide +kernel
theorem dX0_end_7 : decode cX0_end 7 = .ok (.aload_n 0, 1) := by decide +kernel
theorem dX0_end_8 : decode cX0_end 8 = .ok (.iload_n 1, 1) := by decide +kernel
theorem dX0_end_9 : decode cX0_end 9 = .ok (.invokevirtual 32, 3) := by decide +kernel
theorem dX0_end_12 : decode cX0_end 12 = .ok (.ifCond .le 7, 3) := by decide +kernel
theorem dX0_end_15 : decode cX0_end 15 = .ok (.iload_n 1, 1) := by decide +kernel
theorem dX0_end_16 : decode cX0_end 16 = .ok (.iconst 1, 1) := by decide +kernel
theorem dX0_end_17 : decode cX0_end 17 = .ok (.iadd, 1) := by decide +kernel
theorem dX0_end_18 : decode cX0_end 18 = .ok (.ireturn, 1) := by decide +kernel
theorem dX0_end_19 : decode cX0_end 19 = .ok (.iinc 1 (-1), 3) := by decide +kernel
theorem dX0_end_22 : decode cX0_end 22 = .ok (.goto (-19), 3) := by decide +kernel
theorem dX0_end_25 : decode cX0_end 25 = .ok (.iconst 0, 1) := by decide +kernel
theorem dX0_end_26 : decode cX0_end 26 = .ok (.ireturn, 1) := by decide +kernel
theorem dX1_init_0 : decode cX1_init 0 = .ok (.aload_n 0, 1) := by decide +kernel
theorem dX1_init_1 : decode cX1_init 1 = .ok (.invokespecial 1, 3) := by decide +kernel
theorem dX1_init_4 : decode cX1_init 4 = .ok (.aload_n 0, 1) := by decide +kernel
theorem dX1_init_5 : decode cX1_init 5 = .ok (.iconst 0, 1) := by decide +kernel
theorem dX1_init_6 : decode cX1_init 6 = .ok (.putfield 7, 3) := by decide +kernel
theorem dX1_init_9 : decode cX1_init 9 = .ok (.aload_n 0, 1) := by decide +kernel
theorem dX1_init_10 : decode cX1_init 10 = .ok (.iload_n 1, 1) := by decide +kernel
theorem dX1_init_11 : decode cX1_init 11 = .ok (.putfield 13, 3) := by decide +kernel
theorem dX1_init_14 : decode cX1_init 14 = .ok (.aload_n 0, 1) := by decide +kernel
theorem dX1_init_15 : decode cX1_init 15 = .ok (.iload_n 2, 1) := by decide +kernel
theorem dX1_init_16 : decode cX1_init 16 = .ok (.putfield 16, 3) := by decide +kernel
theorem dX1_init_19 : decode cX1_init 19 = .ok (.aload_n 0, 1) := by decide +kernel
theorem dX1_init_20 : decode cX1_init 20 = .ok (.iload_n 3, 1) := by decide +kernel
theorem dX1_init_21 : decode cX1_init 21 = .ok (.putfield 19, 3) := by decide +kernel
theorem dX1_init_24 : decode cX1_init 24 = .ok (.aload_n 0, 1) := by decide +kernel
theorem dX1_init_25 : decode cX1_init 25 = .ok (.iload 4, 2) := by decide +kernel
theorem dX1_init_27 : decode cX1_init 27 = .ok (.putfield 22, 3) := by decide +kernel
theorem dX1_init_30 : decode cX1_init 30 = .ok (.aload_n 0, 1) := by decide +kernel
theorem dX1_init_31 : decode cX1_init 31 = .ok (.iload 5, 2) := by decide +kernel
theorem dX1_init_33 : decode cX1_init 33 = .ok (.putfield 25, 3) := by decide +kernel
theorem dX1_init_36 : decode cX1_init 36 = .ok (.aload_n 0, 1) := by decide +kernel
theorem dX1_init_37 : decode cX1_init 37 = .ok (.iload 6, 2) := by decide +kernel
theorem dX1_init_39 : decode cX1_init 39 = .ok (.putfield 28, 3) := by decide +kernel
theorem dX1_init_42 : decode cX1_init 42 = .ok (.aload_n 0, 1) := by decide +kernel
theorem dX1_init_43 : decode cX1_init 43 = .ok (.aload 7, 2) := by decide +kernel
theorem dX1_init_45 : decode cX1_init 45 = .ok (.putfield 31, 3) := by decide +kernel
theorem dX1_init_48 : decode cX1_init 48 = .ok (.return_, 1) := by decide +kernel
theorem dX2_init_0 : decode cX2_init 0 = .ok (.aload_n 0, 1) := by decide +kernel
theorem dX2_init_1 : decode cX2_init 1 = .ok (.invokespecial 3, 3) := by decide +kernel
theorem dX2_init_4 : decode cX2_init 4 = .ok (.aload_n 0, 1) := by decide +kernel
theorem dX2_init_5 : decode cX2_init 5 = .ok (.bipush 120, 2) := by decide +kernel
theorem dX2_init_7 : decode cX2_init 7 = .ok (.newarray .boolean, 2) := by decide +kernel
theorem dX2_init_9 : decode cX2_init 9 = .ok (.putfield 9, 3) := by decide +kernel
theorem dX2_init_12 : decode cX2_init 12 = .ok (.aload_n 0, 1) := by decide +kernel
theorem dX2_init_13 : decode cX2_init 13 = .ok (.iconst 4, 1) := by decide +kernel
theorem dX2_init_14 : decode cX2_init 14 = .ok (.newarray .int, 2) := by decide +kernel
theorem dX2_init_16 : decode cX2_init 16 = .ok (.putfield 15, 3) := by decide +kernel
theorem dX2_init_19 : decode cX2_init 19 = .ok (.aload_n 0, 1) := by decide +kernel
theorem dX2_init_20 : decode cX2_init 20 = .ok (.iconst 0, 1) := by decide +kernel
theorem dX2_init_21 : decode cX2_init 21 = .ok (.putfield 19, 3) := by decide +kernel
theorem dX2_init_24 : decode cX2_init 24 = .ok (.return_, 1) := by decide +kernel
theorem dX2_restart_0 : decode cX2_restart 0 = .ok (.aload_n 0, 1) := by decide +kernel
theorem dX2_restart_1 : decode cX2_restart 1 = .ok (.iconst 0, 1) := by decide +kernel
theorem dX2_restart_2 : decode cX2_restart 2 = .ok (.putfield 19, 3) := by decide +kernel
theorem dX2_restart_5 : decode cX2_restart 5 = .ok (.aload_n 0, 1) := by decide +kernel
theorem dX2_restart_6 : decode cX2_restart 6 = .ok (.getfield 15, 3) := by decide +kernel
theorem dX2_restart_9 : decode cX2_restart 9 = .ok (.iconst (-1), 1) := by decide +kernel
theorem dX2_restart_10 : decode cX2_restart 10 = .ok (.invokestatic 23, 3) := by decide +kernel
theorem dX2_restart_13 : decode cX2_restart 13 = .ok (.return_, 1) := by decide +kernel
theorem dX2_add_0 : decode cX2_add 0 = .ok (.aload_n 0, 1) := by decide +kernel
theorem dX2_add_1 : decode cX2_add 1 = .ok (.getfield 19, 3) := by decide +kernel
theorem dX2_add_4 : decode cX2_add 4 = .ok (.ifCond .lt 15, 3) := by decide +kernel
theorem dX2_add_7 : decode cX2_add 7 = .ok (.aload_n 0, 1) := by decide +kernel
theorem dX2_add_8 : decode cX2_add 8 = .ok (.getfield 19, 3) := by decide +kernel
theorem dX2_add_11 : decode cX2_add 11 = .ok (.aload_n 0, 1) := by decide +kernel
theorem dX2_add_12 : decode cX2_add 12 = .ok (.getfield 9, 3) := by decide +kernel
theorem dX2_add_15 : decode cX2_add 15 = .ok (.arraylength, 1) := by decide +kernel
theorem dX2_add_16 : decode cX2_add 16 = .ok (.if_icmp .lt 4, 3) := by decide +kernel
theorem dX2_add_19 : decode cX2_add 19 = .ok (.return_, 1) := by decide +kernel
theorem dX2_add_20 : decode cX2_add 20 = .ok (.aload_n 1, 1) := by decide +kernel
theorem dX2_add_21 : decode cX2_add 21 = .ok (.ifnull 22, 3) := by decide +kernel
theorem dX2_add_24 : decode cX2_add 24 = .ok (.aload_n 0, 1) := by decide +kernel
theorem dX2_add_25 : decode cX2_add 25 = .ok (.aload_n 1, 1) := by decide +kernel
theorem dX2_add_26 : decode cX2_add 26 = .ok (.getfield 29, 3) := by decide +kernel
theorem dX2_add_29 : decode cX2_add 29 = .ok (.aload_n 1, 1) := by decide +kernel
theorem dX2_add_30 : decode cX2_add 30 = .ok (.getfield 34, 3) := by decide +kernel
theorem dX2_add_33 : decode cX2_add 33 = .ok (.invokevirtual 37, 3) := by decide +kernel
theorem dX2_add_36 : decode cX2_add 36 = .ok (.ifCond .eq 7, 3) := by decide +kernel
theorem dX2_add_39 : decode cX2_add 39 = .ok (.iconst 1, 1) := by decide +kernel
theorem dX2_add_40 : decode cX2_add 40 = .ok (.goto 4, 3) := by decide +kernel
theorem dX2_add_43 : decode cX2_add 43 = .ok (.iconst 0, 1) := by decide +kernel
theorem dX2_add_44 : decode cX2_add 44 = .ok (.istore_n 2, 1) := by decide +kernel
theorem dX2_add_45 : decode cX2_add 45 = .ok (.aload_n 0, 1) := by decide +kernel
theorem dX2_add_46 : decode cX2_add 46 = .ok (.getfield 9, 3) := by decide +kernel
theorem dX2_add_49 : decode cX2_add 49 = .ok (.aload_n 0, 1) := by decide +kernel
theorem dX2_add_50 : decode cX2_add 50 = .ok (.getfield 19, 3) := by decide +kernel
theorem dX2_add_53 : decode cX2_add 53 = .ok (.iload_n 2, 1) := by decide +kernel
theorem dX2_add_54 : decode cX2_add 54 = .ok (.bastore, 1) := by decide +kernel
theorem dX2_add_55 : decode cX2_add 55 = .ok (.iload_n 2, 1) := by decide +kernel
theorem dX2_add_56 : decode cX2_add 56 = .ok (.ifCond .eq 11, 3) := by decide +kernel
theorem dX2_add_59 : decode cX2_add 59 = .ok (.aload_n 0, 1) := by decide +kernel
theorem dX2_add_60 : decode cX2_add 60 = .ok (.aload_n 1, 1) := by decide +kernel
theorem dX2_add_61 : decode cX2_add 61 = .ok (.getfield 41, 3) := by decide +kernel
theorem dX2_add_64 : decode cX2_add 64 = .ok (.invokevirtual 44, 3) := by decide +kernel
theorem dX2_add_67 : decode cX2_add 67 = .ok (.aload_n 0, 1) := by decide +kernel
theorem dX2_add_68 : decode cX2_add 68 = .ok (.dup, 1) := by decide +kernel
theorem dX2_add_69 : decode cX2_add 69 = .ok (.getfield 19, 3) := by decide +kernel
theorem dX2_add_72 : decode cX2_add 72 = .ok (.iconst 1, 1) := by decide +kernel
theorem dX2_add_73 : decode cX2_add 73 = .ok (.iadd, 1) := by decide +kernel
theorem dX2_add_74 : decode cX2_add 74 = .ok (.putfield 19, 3) := by decide +kernel
theorem dX2_add_77 : decode cX2_add 77 = .ok (.return_, 1) := by decide +kernel
theorem dX2_hasEffect_0 : decode cX2_hasEffect 0 = .ok (.iload_n 1, 1) := by decide +kernel
theorem dX2_hasEffect_1 : decode cX2_hasEffect 1 = .ok (.ifCond .lt 33, 3) := by decide +kernel
theorem dX2_hasEffect_4 : decode cX2_hasEffect 4 = .ok (.iload_n 1, 1) := by decide +kernel
theorem dX2_hasEffect_5 : decode cX2_hasEffect 5 = .ok (.aload_n 0, 1) := by decide +kernel
theorem dX2_hasEffect_6 : decode cX2_hasEffect 6 = .ok (.getfield 19, 3) := by decide +kernel
theorem dX2_hasEffect_9 : decode cX2_hasEffect 9 = .ok (.if_icmp .ge 25, 3) := by decide +kernel
theorem dX2_hasEffect_12 : decode cX2_hasEffect 12 = .ok (.iload_n 1, 1) := by decide +kernel
theorem dX2_hasEffect_13 : decode cX2_hasEffect 13 = .ok (.aload_n 0, 1) := by decide +kernel
theorem dX2_hasEffect_14 : decode cX2_hasEffect 14 = .ok (.getfield 9, 3) := by decide +kernel
theorem dX2_hasEffect_17 : decode cX2_hasEffect 17 = .ok (.arraylength, 1) := by decide +kernel
theorem dX2_hasEffect_18 : decode cX2_hasEffect 18 = .ok (.if_icmp .ge 16, 3) := by decide +kernel
theorem dX2_hasEffect_21 : decode cX2_hasEffect 21 = .ok (.aload_n 0, 1) := by decide +kernel
theorem dX2_hasEffect_22 : decode cX2_hasEffect 22 = .ok (.getfield 9, 3) := by decide +kernel
theorem dX2_hasEffect_25 : decode cX2_hasEffect 25 = .ok (.iload_n 1, 1) := by decide +kernel
theorem dX2_hasEffect_26 : decode cX2_hasEffect 26 = .ok (.baload, 1) := by decide +kernel
theorem dX2_hasEffect_27 : decode cX2_hasEffect 27 = .ok (.ifCond .eq 7, 3) := by decide +kernel
theorem dX2_hasEffect_30 : decode cX2_hasEffect 30 = .ok (.iconst 1, 1) := by decide +kernel
theorem dX2_hasEffect_31 : decode cX2_hasEffect 31 = .ok (.goto 4, 3) := by decide +kernel
theorem dX2_hasEffect_34 : decode cX2_hasEffect 34 = .ok (.iconst 0, 1) := by decide +kernel
theorem dX2_hasEffect_35 : decode cX2_hasEffect 35 = .ok (.ireturn, 1) := by decide +kernel
theorem dX2_isUnchanged_0 : decode cX2_isUnchanged 0 = .ok (.iconst 0, 1) := by decide +kernel
theorem dX2_isUnchanged_1 : decode cX2_isUnchanged 1 = .ok (.istore_n 3, 1) := by decide +kernel
theorem dX2_isUnchanged_2 : decode cX2_isUnchanged 2 = .ok (.iload_n 3, 1) := by decide +kernel
theorem dX2_isUnchanged_3 : decode cX2_isUnchanged 3 = .ok (.aload_n 0, 1) := by decide +kernel
theorem dX2_isUnchanged_4 : decode cX2_isUnchanged 4 = .ok (.getfield 15, 3) := by decide +kernel
theorem dX2_isUnchanged_7 : decode cX2_isUnchanged 7 = .ok (.arraylength, 1) := by decide +kernel
theorem dX2_isUnchanged_8 : decode cX2_isUnchanged 8 = .ok (.if_icmp .ge 29, 3) := by decide +kernel
theorem dX2_isUnchanged_11 : decode cX2_isUnchanged 11 = .ok (.iload_n 3, 1) := by decide +kernel
theorem dX2_isUnchanged_12 : decode cX2_isUnchanged 12 = .ok (.iload_n 1, 1) := by decide +kernel
theorem dX2_isUnchanged_13 : decode cX2_isUnchanged 13 = .ok (.invokestatic 48, 3) := by decide +kernel
theorem dX2_isUnchanged_16 : decode cX2_isUnchanged 16 = .ok (.ifCond .eq 15, 3) := by decide +kernel
theorem dX2_isUnchanged_19 : decode cX2_isUnchanged 19 = .ok (.aload_n 0, 1) := by decide +kernel
theorem dX2_isUnchanged_20 : decode cX2_isUnchanged 20 = .ok (.getfield 15, 3) := by decide +kernel
theorem dX2_isUnchanged_23 : decode cX2_isUnchanged 23 = .ok (.iload_n 3, 1) := by decide +kernel
theorem dX2_isUnchanged_24 : decode cX2_isUnchanged 24 = .ok (.iaload, 1) := by decide +kernel
theorem dX2_isUnchanged_25 : decode cX2_isUnchanged 25 = .ok (.iload_n 2, 1) := by decide +kernel
theorem dX2_isUnchanged_26 : decode cX2_isUnchanged 26 = .ok (.if_icmp .lt 5, 3) := by decide +kernel
theorem dX2_isUnchanged_29 : decode cX2_isUnchanged 29 = .ok (.iconst 0, 1) := by decide +kernel
theorem dX2_isUnchanged_30 : decode cX2_isUnchanged 30 = .ok (.ireturn, 1) := by decide +kernel
theorem dX2_isUnchanged_31 : decode cX2_isUnchanged 31 = .ok (.iinc 3 1, 3) := by decide +kernel
theorem dX2_isUnchanged_34 : decode cX2_isUnchanged 34 = .ok (.goto (-32), 3) := by decide +kernel
theorem dX2_isUnchanged_37 : decode cX2_isUnchanged 37 = .ok (.iconst 1, 1) := by decide +kernel
theorem dX2_isUnchanged_38 : decode cX2_isUnchanged 38 = .ok (.ireturn, 1) := by decide +kernel
theorem dX2_noteChange_0 : decode cX2_noteChange 0 = .ok (.iconst 0, 1) := by decide +kernel
theorem dX2_noteChange_1 : decode cX2_noteChange 1 = .ok (.istore_n 2, 1) := by decide +kernel
theorem dX2_noteChange_2 : decode cX2_noteChange 2 = .ok (.iload_n 2, 1) := by decide +kernel
theorem dX2_noteChange_3 : decode cX2_noteChange 3 = .ok (.aload_n 0, 1) := by decide +kernel
theorem dX2_noteChange_4 : decode cX2_noteChange 4 = .ok (.getfield 15, 3) := by decide +kernel
theorem dX2_noteChange_7 : decode cX2_noteChange 7 = .ok (.arraylength, 1) := by decide +kernel
theorem dX2_noteChange_8 : decode cX2_noteChange 8 = .ok (.if_icmp .ge 27, 3) := by decide +kernel
theorem dX2_noteChange_11 : decode cX2_noteChange 11 = .ok (.iload_n 2, 1) := by decide +kernel
theorem dX2_noteChange_12 : decode cX2_noteChange 12 = .ok (.iload_n 1, 1) := by decide +kernel
theorem dX2_noteChange_13 : decode cX2_noteChange 13 = .ok (.invokestatic 48, 3) := by decide +kernel
theorem dX2_noteChange_16 : decode cX2_noteChange 16 = .ok (.ifCond .eq 13, 3) := by decide +kernel
theorem dX2_noteChange_19 : decode cX2_noteChange 19 = .ok (.aload_n 0, 1) := by decide +kernel
theorem dX2_noteChange_20 : decode cX2_noteChange 20 = .ok (.getfield 15, 3) := by decide +kernel
theorem dX2_noteChange_23 : decode cX2_noteChange 23 = .ok (.iload_n 2, 1) := by decide +kernel
theorem dX2_noteChange_24 : decode cX2_noteChange 24 = .ok (.aload_n 0, 1) := by decide +kernel
theorem dX2_noteChange_25 : decode cX2_noteChange 25 = .ok (.getfield 19, 3) := by decide +kernel
theorem dX2_noteChange_28 : decode cX2_noteChange 28 = .ok (.iastore, 1) := by decide +kernel
theorem dX2_noteChange_29 : decode cX2_noteChange 29 = .ok (.iinc 2 1, 3) := by decide +kernel
theorem dX2_noteChange_32 : decode cX2_noteChange 32 = .ok (.goto (-30), 3) := by decide +kernel
theorem dX2_noteChange_35 : decode cX2_noteChange 35 = .ok (.return_, 1) := by decide +kernel
theorem dX3_init_0 : decode cX3_init 0 = .ok (.aload_n 0, 1) := by decide +kernel
theorem dX3_init_1 : decode cX3_init 1 = .ok (.invokespecial 3, 3) := by decide +kernel
theorem dX3_init_4 : decode cX3_init 4 = .ok (.aload_n 0, 1) := by decide +kernel
theorem dX3_init_5 : decode cX3_init 5 = .ok (.bipush 16, 2) := by decide +kernel
theorem dX3_init_7 : decode cX3_init 7 = .ok (.newarray .int, 2) := by decide +kernel
theorem dX3_init_9 : decode cX3_init 9 = .ok (.putfield 9, 3) := by decide +kernel
theorem dX3_init_12 : decode cX3_init 12 = .ok (.aload_n 0, 1) := by decide +kernel
theorem dX3_init_13 : decode cX3_init 13 = .ok (.getfield 9, 3) := by decide +kernel
theorem dX3_init_16 : decode cX3_init 16 = .ok (.iconst (-1), 1) := by decide +kernel
theorem dX3_init_17 : decode cX3_init 17 = .ok (.invokestatic 15, 3) := by decide +kernel
theorem dX3_init_20 : decode cX3_init 20 = .ok (.return_, 1) := by decide +kernel
theorem dX3_clear_0 : decode cX3_clear 0 = .ok (.aload_n 0, 1) := by decide +kernel
theorem dX3_clear_1 : decode cX3_clear 1 = .ok (.getfield 9, 3) := by decide +kernel
theorem dX3_clear_4 : decode cX3_clear 4 = .ok (.iconst (-1), 1) := by decide +kernel
theorem dX3_clear_5 : decode cX3_clear 5 = .ok (.invokestatic 15, 3) := by decide +kernel
theorem dX3_clear_8 : decode cX3_clear 8 = .ok (.return_, 1) := by decide +kernel
theorem dX3_get_0 : decode cX3_get 0 = .ok (.iload_n 1, 1) := by decide +kernel
theorem dX3_get_1 : decode cX3_get 1 = .ok (.invokestatic 21, 3) := by decide +kernel
theorem dX3_get_4 : decode cX3_get 4 = .ok (.ifCond .eq 23, 3) := by decide +kernel
theorem dX3_get_7 : decode cX3_get 7 = .ok (.iload_n 2, 1) := by decide +kernel
theorem dX3_get_8 : decode cX3_get 8 = .ok (.invokestatic 25, 3) := by decide +kernel
theorem dX3_get_11 : decode cX3_get 11 = .ok (.ifCond .eq 16, 3) := by decide +kernel
theorem dX3_get_14 : decode cX3_get 14 = .ok (.aload_n 0, 1) := by decide +kernel
theorem dX3_get_15 : decode cX3_get 15 = .ok (.getfield 9, 3) := by decide +kernel
theorem dX3_get_18 : decode cX3_get 18 = .ok (.iload_n 1, 1) := by decide +kernel
theorem dX3_get_19 : decode cX3_get 19 = .ok (.iconst 4, 1) := by decide +kernel
theorem dX3_get_20 : decode cX3_get 20 = .ok (.imul, 1) := by decide +kernel
theorem dX3_get_21 : decode cX3_get 21 = .ok (.iload_n 2, 1) := by decide +kernel
theorem dX3_get_22 : decode cX3_get 22 = .ok (.iadd, 1) := by decide +kernel
theorem dX3_get_23 : decode cX3_get 23 = .ok (.iaload, 1) := by decide +kernel
theorem dX3_get_24 : decode cX3_get 24 = .ok (.goto 4, 3) := by decide +kernel
theorem dX3_get_27 : decode cX3_get 27 = .ok (.iconst (-1), 1) := by decide +kernel
theorem dX3_get_28 : decode cX3_get 28 = .ok (.ireturn, 1) := by decide +kernel
theorem dX3_set_0 : decode cX3_set 0 = .ok (.iload_n 1, 1) := by decide +kernel
theorem dX3_set_1 : decode cX3_set 1 = .ok (.invokestatic 21, 3) := by decide +kernel
theorem dX3_set_4 : decode cX3_set 4 = .ok (.ifCond .eq 21, 3) := by decide +kernel
theorem dX3_set_7 : decode cX3_set 7 = .ok (.iload_n 2, 1) := by decide +kernel
theorem dX3_set_8 : decode cX3_set 8 = .ok (.invokestatic 25, 3) := by decide +kernel
theorem dX3_set_11 : decode cX3_set 11 = .ok (.ifCond .eq 14, 3) := by decide +kernel
theorem dX3_set_14 : decode cX3_set 14 = .ok (.aload_n 0, 1) := by decide +kernel
theorem dX3_set_15 : decode cX3_set 15 = .ok (.getfield 9, 3) := by decide +kernel
theorem dX3_set_18 : decode cX3_set 18 = .ok (.iload_n 1, 1) := by decide +kernel
theorem dX3_set_19 : decode cX3_set 19 = .ok (.iconst 4, 1) := by decide +kernel
theorem dX3_set_20 : decode cX3_set 20 = .ok (.imul, 1) := by decide +kernel
theorem dX3_set_21 : decode cX3_set 21 = .ok (.iload_n 2, 1) := by decide +kernel
theorem dX3_set_22 : decode cX3_set 22 = .ok (.iadd, 1) := by decide +kernel
theorem dX3_set_23 : decode cX3_set 23 = .ok (.iload_n 3, 1) := by decide +kernel
theorem dX3_set_24 : decode cX3_set 24 = .ok (.iastore, 1) := by decide +kernel
theorem dX3_set_25 : decode cX3_set 25 = .ok (.return_, 1) := by decide +kernel
theorem dX3_push_0 : decode cX3_push 0 = .ok (.iconst 0, 1) := by decide +kernel
theorem dX3_push_1 : decode cX3_push 1 = .ok (.istore_n 3, 1) := by decide +kernel
theorem dX3_push_2 : decode cX3_push 2 = .ok (.iload_n 3, 1) := by decide +kernel
theorem dX3_push_3 : decode cX3_push 3 = .ok (.iconst 4, 1) := by decide +kernel
theorem dX3_push_4 : decode cX3_push 4 = .ok (.if_icmp .ge 54, 3) := by decide +kernel
theorem dX3_push_7 : decode cX3_push 7 = .ok (.iload_n 3, 1) := by decide +kernel
theorem dX3_push_8 : decode cX3_push 8 = .ok (.iload_n 1, 1) := by decide +kernel
theorem dX3_push_9 : decode cX3_push 9 = .ok (.invokestatic 28, 3) := by decide +kernel
theorem dX3_push_12 : decode cX3_push 12 = .ok (.ifCond .eq 40, 3) := by decide +kernel
theorem dX3_push_15 : decode cX3_push 15 = .ok (.iconst 3, 1) := by decide +kernel
theorem dX3_push_16 : decode cX3_push 16 = .ok (.istore 4, 2) := by decide +kernel
theorem dX3_push_18 : decode cX3_push 18 = .ok (.iload 4, 2) := by decide +kernel
theorem dX3_push_20 : decode cX3_push 20 = .ok (.ifCond .le 25, 3) := by decide +kernel
theorem dX3_push_23 : decode cX3_push 23 = .ok (.aload_n 0, 1) := by decide +kernel
theorem dX3_push_24 : decode cX3_push 24 = .ok (.iload_n 3, 1) := by decide +kernel
theorem dX3_push_25 : decode cX3_push 25 = .ok (.iload 4, 2) := by decide +kernel
theorem dX3_push_27 : decode cX3_push 27 = .ok (.aload_n 0, 1) := by decide +kernel
theorem dX3_push_28 : decode cX3_push 28 = .ok (.iload_n 3, 1) := by decide +kernel
theorem dX3_push_29 : decode cX3_push 29 = .ok (.iload 4, 2) := by decide +kernel
theorem dX3_push_31 : decode cX3_push 31 = .ok (.iconst 1, 1) := by decide +kernel
theorem dX3_push_32 : decode cX3_push 32 = .ok (.isub, 1) := by decide +kernel
theorem dX3_push_33 : decode cX3_push 33 = .ok (.invokevirtual 32, 3) := by decide +kernel
theorem dX3_push_36 : decode cX3_push 36 = .ok (.invokevirtual 36, 3) := by decide +kernel
theorem dX3_push_39 : decode cX3_push 39 = .ok (.iinc 4 (-1), 3) := by decide +kernel
theorem dX3_push_42 : decode cX3_push 42 = .ok (.goto (-24), 3) := by decide +kernel
theorem dX3_push_45 : decode cX3_push 45 = .ok (.aload_n 0, 1) := by decide +kernel
theorem dX3_push_46 : decode cX3_push 46 = .ok (.iload_n 3, 1) := by decide +kernel
theorem dX3_push_47 : decode cX3_push 47 = .ok (.iconst 0, 1) := by decide +kernel
theorem dX3_push_48 : decode cX3_push 48 = .ok (.iload_n 2, 1) := by decide +kernel
theorem dX3_push_49 : decode cX3_push 49 = .ok (.invokevirtual 36, 3) := by decide +kernel
theorem dX3_push_52 : decode cX3_push 52 = .ok (.iinc 3 1, 3) := by decide +kernel
theorem dX3_push_55 : decode cX3_push 55 = .ok (.goto (-53), 3) := by decide +kernel
theorem dX3_push_58 : decode cX3_push 58 = .ok (.return_, 1) := by decide +kernel
theorem dX3_copyFor_0 : decode cX3_copyFor 0 = .ok (.new 10, 3) := by decide +kernel
theorem dX3_copyFor_3 : decode cX3_copyFor 3 = .ok (.dup, 1) := by decide +kernel
theorem dX3_copyFor_4 : decode cX3_copyFor 4 = .ok (.invokespecial 40, 3) := by decide +kernel
theorem dX3_copyFor_7 : decode cX3_copyFor 7 = .ok (.astore_n 2, 1) := by decide +kernel
theorem dX3_copyFor_8 : decode cX3_copyFor 8 = .ok (.iconst 0, 1) := by decide +kernel
theorem dX3_copyFor_9 : decode cX3_copyFor 9 = .ok (.istore_n 3, 1) := by decide +kernel
theorem dX3_copyFor_10 : decode cX3_copyFor 10 = .ok (.iload_n 3, 1) := by decide +kernel
theorem dX3_copyFor_11 : decode cX3_copyFor 11 = .ok (.iconst 4, 1) := by decide +kernel
theorem dX3_copyFor_12 : decode cX3_copyFor 12 = .ok (.if_icmp .ge 46, 3) := by decide +kernel
theorem dX3_copyFor_15 : decode cX3_copyFor 15 = .ok (.iload_n 3, 1) := by decide +kernel
theorem dX3_copyFor_16 : decode cX3_copyFor 16 = .ok (.iload_n 1, 1) := by decide +kernel
theorem dX3_copyFor_17 : decode cX3_copyFor 17 = .ok (.invokestatic 28, 3) := by decide +kernel
theorem dX3_copyFor_20 : decode cX3_copyFor 20 = .ok (.ifCond .eq 32, 3) := by decide +kernel
theorem dX3_copyFor_23 : decode cX3_copyFor 23 = .ok (.iconst 0, 1) := by decide +kernel
theorem dX3_copyFor_24 : decode cX3_copyFor 24 = .ok (.istore 4, 2) := by decide +kernel
theorem dX3_copyFor_26 : decode cX3_copyFor 26 = .ok (.iload 4, 2) := by decide +kernel
theorem dX3_copyFor_28 : decode cX3_copyFor 28 = .ok (.iconst 4, 1) := by decide +kernel
theorem dX3_copyFor_29 : decode cX3_copyFor 29 = .ok (.if_icmp .ge 23, 3) := by decide +kernel
theorem dX3_copyFor_32 : decode cX3_copyFor 32 = .ok (.aload_n 2, 1) := by decide +kernel
theorem dX3_copyFor_33 : decode cX3_copyFor 33 = .ok (.iload_n 3, 1) := by decide +kernel
theorem dX3_copyFor_34 : decode cX3_copyFor 34 = .ok (.iload 4, 2) := by decide +kernel
theorem dX3_copyFor_36 : decode cX3_copyFor 36 = .ok (.aload_n 0, 1) := by decide +kernel
theorem dX3_copyFor_37 : decode cX3_copyFor 37 = .ok (.iload_n 3, 1) := by decide +kernel
theorem dX3_copyFor_38 : decode cX3_copyFor 38 = .ok (.iload 4, 2) := by decide +kernel
theorem dX3_copyFor_40 : decode cX3_copyFor 40 = .ok (.invokevirtual 32, 3) := by decide +kernel
theorem dX3_copyFor_43 : decode cX3_copyFor 43 = .ok (.invokevirtual 36, 3) := by decide +kernel
theorem dX3_copyFor_46 : decode cX3_copyFor 46 = .ok (.iinc 4 1, 3) := by decide +kernel
theorem dX3_copyFor_49 : decode cX3_copyFor 49 = .ok (.goto (-23), 3) := by decide +kernel
theorem dX3_copyFor_52 : decode cX3_copyFor 52 = .ok (.iinc 3 1, 3) := by decide +kernel
theorem dX3_copyFor_55 : decode cX3_copyFor 55 = .ok (.goto (-45), 3) := by decide +kernel
theorem dX3_copyFor_58 : decode cX3_copyFor 58 = .ok (.aload_n 2, 1) := by decide +kernel
theorem dX3_copyFor_59 : decode cX3_copyFor 59 = .ok (.areturn, 1) := by decide +kernel
theorem dJ7_fill_53178_0 : decode cJ7_fill_53178 0 = .ok (.iconst 0, 1) := by decide +kernel
theorem dJ7_fill_53178_1 : decode cJ7_fill_53178 1 = .ok (.istore_n 2, 1) := by decide +kernel
theorem dJ7_fill_53178_2 : decode cJ7_fill_53178 2 = .ok (.aload_n 0, 1) := by decide +kernel
theorem dJ7_fill_53178_3 : decode cJ7_fill_53178 3 = .ok (.arraylength, 1) := by decide +kernel
theorem dJ7_fill_53178_4 : decode cJ7_fill_53178 4 = .ok (.istore_n 3, 1) := by decide +kernel
theorem dJ7_fill_53178_5 : decode cJ7_fill_53178 5 = .ok (.iload_n 2, 1) := by decide +kernel
theorem dJ7_fill_53178_6 : decode cJ7_fill_53178 6 = .ok (.iload_n 3, 1) := by decide +kernel
theorem dJ7_fill_53178_7 : decode cJ7_fill_53178 7 = .ok (.if_icmp .ge 13, 3) := by decide +kernel
theorem dJ7_fill_53178_10 : decode cJ7_fill_53178 10 = .ok (.aload_n 0, 1) := by decide +kernel
theorem dJ7_fill_53178_11 : decode cJ7_fill_53178 11 = .ok (.iload_n 2, 1) := by decide +kernel
theorem dJ7_fill_53178_12 : decode cJ7_fill_53178 12 = .ok (.iload_n 1, 1) := by decide +kernel
theorem dJ7_fill_53178_13 : decode cJ7_fill_53178 13 = .ok (.iastore, 1) := by decide +kernel
theorem dJ7_fill_53178_14 : decode cJ7_fill_53178 14 = .ok (.iinc 2 1, 3) := by decide +kernel
theorem dJ7_fill_53178_17 : decode cJ7_fill_53178 17 = .ok (.goto (-12), 3) := by decide +kernel
theorem dJ7_fill_53178_20 : decode cJ7_fill_53178 20 = .ok (.return_, 1) := by decide +kernel
