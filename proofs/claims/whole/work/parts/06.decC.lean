theorem dX5_init_0 : decode cX5_init 0 = .ok (.aload_n 0, 1) := by decide +kernel
theorem dX5_init_1 : decode cX5_init 1 = .ok (.invokespecial 1, 3) := by decide +kernel
theorem dX5_init_4 : decode cX5_init 4 = .ok (.aload_n 0, 1) := by decide +kernel
theorem dX5_init_5 : decode cX5_init 5 = .ok (.bipush 16, 2) := by decide +kernel
theorem dX5_init_7 : decode cX5_init 7 = .ok (.newarray .int, 2) := by decide +kernel
theorem dX5_init_9 : decode cX5_init 9 = .ok (.putfield 7, 3) := by decide +kernel
theorem dX5_init_12 : decode cX5_init 12 = .ok (.aload_n 0, 1) := by decide +kernel
theorem dX5_init_13 : decode cX5_init 13 = .ok (.sipush 150, 3) := by decide +kernel
theorem dX5_init_16 : decode cX5_init 16 = .ok (.newarray .int, 2) := by decide +kernel
theorem dX5_init_18 : decode cX5_init 18 = .ok (.putfield 13, 3) := by decide +kernel
theorem dX5_init_21 : decode cX5_init 21 = .ok (.aload_n 0, 1) := by decide +kernel
theorem dX5_init_22 : decode cX5_init 22 = .ok (.sipush 150, 3) := by decide +kernel
theorem dX5_init_25 : decode cX5_init 25 = .ok (.newarray .int, 2) := by decide +kernel
theorem dX5_init_27 : decode cX5_init 27 = .ok (.putfield 16, 3) := by decide +kernel
theorem dX5_init_30 : decode cX5_init 30 = .ok (.aload_n 0, 1) := by decide +kernel
theorem dX5_init_31 : decode cX5_init 31 = .ok (.sipush 150, 3) := by decide +kernel
theorem dX5_init_34 : decode cX5_init 34 = .ok (.newarray .int, 2) := by decide +kernel
theorem dX5_init_36 : decode cX5_init 36 = .ok (.putfield 19, 3) := by decide +kernel
theorem dX5_init_39 : decode cX5_init 39 = .ok (.aload_n 0, 1) := by decide +kernel
theorem dX5_init_40 : decode cX5_init 40 = .ok (.sipush 150, 3) := by decide +kernel
theorem dX5_init_43 : decode cX5_init 43 = .ok (.newarray .int, 2) := by decide +kernel
theorem dX5_init_45 : decode cX5_init 45 = .ok (.putfield 22, 3) := by decide +kernel
theorem dX5_init_48 : decode cX5_init 48 = .ok (.aload_n 0, 1) := by decide +kernel
theorem dX5_init_49 : decode cX5_init 49 = .ok (.sipush 150, 3) := by decide +kernel
theorem dX5_init_52 : decode cX5_init 52 = .ok (.newarray .int, 2) := by decide +kernel
theorem dX5_init_54 : decode cX5_init 54 = .ok (.putfield 25, 3) := by decide +kernel
theorem dX5_init_57 : decode cX5_init 57 = .ok (.aload_n 0, 1) := by decide +kernel
theorem dX5_init_58 : decode cX5_init 58 = .ok (.sipush 150, 3) := by decide +kernel
theorem dX5_init_61 : decode cX5_init 61 = .ok (.newarray .int, 2) := by decide +kernel
theorem dX5_init_63 : decode cX5_init 63 = .ok (.putfield 28, 3) := by decide +kernel
theorem dX5_init_66 : decode cX5_init 66 = .ok (.aload_n 0, 1) := by decide +kernel
theorem dX5_init_67 : decode cX5_init 67 = .ok (.sipush 150, 3) := by decide +kernel
theorem dX5_init_70 : decode cX5_init 70 = .ok (.newarray .int, 2) := by decide +kernel
theorem dX5_init_72 : decode cX5_init 72 = .ok (.putfield 31, 3) := by decide +kernel
theorem dX5_init_75 : decode cX5_init 75 = .ok (.aload_n 0, 1) := by decide +kernel
theorem dX5_init_76 : decode cX5_init 76 = .ok (.sipush 2400, 3) := by decide +kernel
theorem dX5_init_79 : decode cX5_init 79 = .ok (.newarray .int, 2) := by decide +kernel
theorem dX5_init_81 : decode cX5_init 81 = .ok (.putfield 34, 3) := by decide +kernel
theorem dX5_init_84 : decode cX5_init 84 = .ok (.aload_n 0, 1) := by decide +kernel
theorem dX5_init_85 : decode cX5_init 85 = .ok (.sipush 360, 3) := by decide +kernel
theorem dX5_init_88 : decode cX5_init 88 = .ok (.newarray .int, 2) := by decide +kernel
theorem dX5_init_90 : decode cX5_init 90 = .ok (.putfield 37, 3) := by decide +kernel
theorem dX5_init_93 : decode cX5_init 93 = .ok (.aload_n 0, 1) := by decide +kernel
theorem dX5_init_94 : decode cX5_init 94 = .ok (.bipush 120, 2) := by decide +kernel
theorem dX5_init_96 : decode cX5_init 96 = .ok (.newarray .boolean, 2) := by decide +kernel
theorem dX5_init_98 : decode cX5_init 98 = .ok (.putfield 40, 3) := by decide +kernel
theorem dX5_init_101 : decode cX5_init 101 = .ok (.iconst 0, 1) := by decide +kernel
theorem dX5_init_102 : decode cX5_init 102 = .ok (.istore_n 1, 1) := by decide +kernel
theorem dX5_init_103 : decode cX5_init 103 = .ok (.iload_n 1, 1) := by decide +kernel
theorem dX5_init_104 : decode cX5_init 104 = .ok (.sipush 360, 3) := by decide +kernel
theorem dX5_init_107 : decode cX5_init 107 = .ok (.if_icmp .ge 17, 3) := by decide +kernel
theorem dX5_init_110 : decode cX5_init 110 = .ok (.aload_n 0, 1) := by decide +kernel
theorem dX5_init_111 : decode cX5_init 111 = .ok (.getfield 37, 3) := by decide +kernel
theorem dX5_init_114 : decode cX5_init 114 = .ok (.iload_n 1, 1) := by decide +kernel
theorem dX5_init_115 : decode cX5_init 115 = .ok (.bipush (-2), 2) := by decide +kernel
theorem dX5_init_117 : decode cX5_init 117 = .ok (.iastore, 1) := by decide +kernel
theorem dX5_init_118 : decode cX5_init 118 = .ok (.iinc 1 1, 3) := by decide +kernel
theorem dX5_init_121 : decode cX5_init 121 = .ok (.goto (-18), 3) := by decide +kernel
theorem dX5_init_124 : decode cX5_init 124 = .ok (.iconst 0, 1) := by decide +kernel
theorem dX5_init_125 : decode cX5_init 125 = .ok (.istore_n 1, 1) := by decide +kernel
theorem dX5_init_126 : decode cX5_init 126 = .ok (.iload_n 1, 1) := by decide +kernel
theorem dX5_init_127 : decode cX5_init 127 = .ok (.bipush 16, 2) := by decide +kernel
theorem dX5_init_129 : decode cX5_init 129 = .ok (.if_icmp .ge 16, 3) := by decide +kernel
theorem dX5_init_132 : decode cX5_init 132 = .ok (.aload_n 0, 1) := by decide +kernel
theorem dX5_init_133 : decode cX5_init 133 = .ok (.getfield 7, 3) := by decide +kernel
theorem dX5_init_136 : decode cX5_init 136 = .ok (.iload_n 1, 1) := by decide +kernel
theorem dX5_init_137 : decode cX5_init 137 = .ok (.iconst (-1), 1) := by decide +kernel
theorem dX5_init_138 : decode cX5_init 138 = .ok (.iastore, 1) := by decide +kernel
theorem dX5_init_139 : decode cX5_init 139 = .ok (.iinc 1 1, 3) := by decide +kernel
theorem dX5_init_142 : decode cX5_init 142 = .ok (.goto (-16), 3) := by decide +kernel
theorem dX5_init_145 : decode cX5_init 145 = .ok (.return_, 1) := by decide +kernel
theorem dX5_thrown_0 : decode cX5_thrown 0 = .ok (.aload_n 0, 1) := by decide +kernel
theorem dX5_thrown_1 : decode cX5_thrown 1 = .ok (.getfield 44, 3) := by decide +kernel
theorem dX5_thrown_4 : decode cX5_thrown 4 = .ok (.ireturn, 1) := by decide +kernel
theorem dX5_fails_0 : decode cX5_fails 0 = .ok (.aload_n 0, 1) := by decide +kernel
theorem dX5_fails_1 : decode cX5_fails 1 = .ok (.iload_n 1, 1) := by decide +kernel
theorem dX5_fails_2 : decode cX5_fails 2 = .ok (.putfield 44, 3) := by decide +kernel
theorem dX5_fails_5 : decode cX5_fails 5 = .ok (.iconst 0, 1) := by decide +kernel
theorem dX5_fails_6 : decode cX5_fails 6 = .ok (.ireturn, 1) := by decide +kernel
theorem dX5_in_0 : decode cX5_in 0 = .ok (.iload_n 0, 1) := by decide +kernel
theorem dX5_in_1 : decode cX5_in 1 = .ok (.iload_n 1, 1) := by decide +kernel
theorem dX5_in_2 : decode cX5_in 2 = .ok (.if_icmp .lt 12, 3) := by decide +kernel
theorem dX5_in_5 : decode cX5_in 5 = .ok (.iload_n 0, 1) := by decide +kernel
theorem dX5_in_6 : decode cX5_in 6 = .ok (.iload_n 2, 1) := by decide +kernel
theorem dX5_in_7 : decode cX5_in 7 = .ok (.if_icmp .gt 7, 3) := by decide +kernel
theorem dX5_in_10 : decode cX5_in 10 = .ok (.iconst 1, 1) := by decide +kernel
theorem dX5_in_11 : decode cX5_in 11 = .ok (.goto 4, 3) := by decide +kernel
theorem dX5_in_14 : decode cX5_in 14 = .ok (.iconst 0, 1) := by decide +kernel
theorem dX5_in_15 : decode cX5_in 15 = .ok (.ireturn, 1) := by decide +kernel
theorem dX5_isSet_0 : decode cX5_isSet 0 = .ok (.iload_n 0, 1) := by decide +kernel
theorem dX5_isSet_1 : decode cX5_isSet 1 = .ok (.iconst 1, 1) := by decide +kernel
theorem dX5_isSet_2 : decode cX5_isSet 2 = .ok (.bipush 15, 2) := by decide +kernel
theorem dX5_isSet_4 : decode cX5_isSet 4 = .ok (.invokestatic 48, 3) := by decide +kernel
theorem dX5_isSet_7 : decode cX5_isSet 7 = .ok (.ireturn, 1) := by decide +kernel
theorem dX5_isAmount_0 : decode cX5_isAmount 0 = .ok (.iload_n 0, 1) := by decide +kernel
theorem dX5_isAmount_1 : decode cX5_isAmount 1 = .ok (.sipush (-1000), 3) := by decide +kernel
theorem dX5_isAmount_4 : decode cX5_isAmount 4 = .ok (.sipush 1000, 3) := by decide +kernel
theorem dX5_isAmount_7 : decode cX5_isAmount 7 = .ok (.invokestatic 48, 3) := by decide +kernel
theorem dX5_isAmount_10 : decode cX5_isAmount 10 = .ok (.ireturn, 1) := by decide +kernel
theorem dX5_isToken_0 : decode cX5_isToken 0 = .ok (.iload_n 1, 1) := by decide +kernel
theorem dX5_isToken_1 : decode cX5_isToken 1 = .ok (.iconst 0, 1) := by decide +kernel
theorem dX5_isToken_2 : decode cX5_isToken 2 = .ok (.aload_n 0, 1) := by decide +kernel
theorem dX5_isToken_3 : decode cX5_isToken 3 = .ok (.getfield 52, 3) := by decide +kernel
theorem dX5_isToken_6 : decode cX5_isToken 6 = .ok (.iconst 1, 1) := by decide +kernel
theorem dX5_isToken_7 : decode cX5_isToken 7 = .ok (.isub, 1) := by decide +kernel
theorem dX5_isToken_8 : decode cX5_isToken 8 = .ok (.invokestatic 48, 3) := by decide +kernel
theorem dX5_isToken_11 : decode cX5_isToken 11 = .ok (.ireturn, 1) := by decide +kernel
theorem dX5_isPosition_0 : decode cX5_isPosition 0 = .ok (.iload_n 0, 1) := by decide +kernel
theorem dX5_isPosition_1 : decode cX5_isPosition 1 = .ok (.iconst 0, 1) := by decide +kernel
theorem dX5_isPosition_2 : decode cX5_isPosition 2 = .ok (.bipush 119, 2) := by decide +kernel
theorem dX5_isPosition_4 : decode cX5_isPosition 4 = .ok (.invokestatic 48, 3) := by decide +kernel
theorem dX5_isPosition_7 : decode cX5_isPosition 7 = .ok (.ireturn, 1) := by decide +kernel
theorem dX5_cannotHand_0 : decode cX5_cannotHand 0 = .ok (.aload_n 0, 1) := by decide +kernel
theorem dX5_cannotHand_1 : decode cX5_cannotHand 1 = .ok (.getfield 55, 3) := by decide +kernel
theorem dX5_cannotHand_4 : decode cX5_cannotHand 4 = .ok (.ifCond .ne 22, 3) := by decide +kernel
theorem dX5_cannotHand_7 : decode cX5_cannotHand 7 = .ok (.aload_n 0, 1) := by decide +kernel
theorem dX5_cannotHand_8 : decode cX5_cannotHand 8 = .ok (.getfield 59, 3) := by decide +kernel
theorem dX5_cannotHand_11 : decode cX5_cannotHand 11 = .ok (.bipush 120, 2) := by decide +kernel
theorem dX5_cannotHand_13 : decode cX5_cannotHand 13 = .ok (.if_icmp .eq 13, 3) := by decide +kernel
theorem dX5_cannotHand_16 : decode cX5_cannotHand 16 = .ok (.aload_n 0, 1) := by decide +kernel
theorem dX5_cannotHand_17 : decode cX5_cannotHand 17 = .ok (.getfield 52, 3) := by decide +kernel
theorem dX5_cannotHand_20 : decode cX5_cannotHand 20 = .ok (.sipush 150, 3) := by decide +kernel
theorem dX5_cannotHand_23 : decode cX5_cannotHand 23 = .ok (.if_icmp .ne 7, 3) := by decide +kernel
theorem dX5_cannotHand_26 : decode cX5_cannotHand 26 = .ok (.iconst 1, 1) := by decide +kernel
theorem dX5_cannotHand_27 : decode cX5_cannotHand 27 = .ok (.goto 4, 3) := by decide +kernel
theorem dX5_cannotHand_30 : decode cX5_cannotHand 30 = .ok (.iconst 0, 1) := by decide +kernel
theorem dX5_cannotHand_31 : decode cX5_cannotHand 31 = .ok (.ireturn, 1) := by decide +kernel
theorem dX5_learns_0 : decode cX5_learns 0 = .ok (.iconst 3, 1) := by decide +kernel
theorem dX5_learns_1 : decode cX5_learns 1 = .ok (.istore_n 3, 1) := by decide +kernel
theorem dX5_learns_2 : decode cX5_learns 2 = .ok (.iload_n 3, 1) := by decide +kernel
theorem dX5_learns_3 : decode cX5_learns 3 = .ok (.ifCond .le 31, 3) := by decide +kernel
theorem dX5_learns_6 : decode cX5_learns 6 = .ok (.aload_n 0, 1) := by decide +kernel
theorem dX5_learns_7 : decode cX5_learns 7 = .ok (.getfield 7, 3) := by decide +kernel
theorem dX5_learns_10 : decode cX5_learns 10 = .ok (.iconst 4, 1) := by decide +kernel
theorem dX5_learns_11 : decode cX5_learns 11 = .ok (.iload_n 1, 1) := by decide +kernel
theorem dX5_learns_12 : decode cX5_learns 12 = .ok (.imul, 1) := by decide +kernel
theorem dX5_learns_13 : decode cX5_learns 13 = .ok (.iload_n 3, 1) := by decide +kernel
theorem dX5_learns_14 : decode cX5_learns 14 = .ok (.iadd, 1) := by decide +kernel
theorem dX5_learns_15 : decode cX5_learns 15 = .ok (.aload_n 0, 1) := by decide +kernel
theorem dX5_learns_16 : decode cX5_learns 16 = .ok (.getfield 7, 3) := by decide +kernel
theorem dX5_learns_19 : decode cX5_learns 19 = .ok (.iconst 4, 1) := by decide +kernel
theorem dX5_learns_20 : decode cX5_learns 20 = .ok (.iload_n 1, 1) := by decide +kernel
theorem dX5_learns_21 : decode cX5_learns 21 = .ok (.imul, 1) := by decide +kernel
theorem dX5_learns_22 : decode cX5_learns 22 = .ok (.iload_n 3, 1) := by decide +kernel
theorem dX5_learns_23 : decode cX5_learns 23 = .ok (.iadd, 1) := by decide +kernel
theorem dX5_learns_24 : decode cX5_learns 24 = .ok (.iconst 1, 1) := by decide +kernel
theorem dX5_learns_25 : decode cX5_learns 25 = .ok (.isub, 1) := by decide +kernel
theorem dX5_learns_26 : decode cX5_learns 26 = .ok (.iaload, 1) := by decide +kernel
theorem dX5_learns_27 : decode cX5_learns 27 = .ok (.iastore, 1) := by decide +kernel
theorem dX5_learns_28 : decode cX5_learns 28 = .ok (.iinc 3 (-1), 3) := by decide +kernel
theorem dX5_learns_31 : decode cX5_learns 31 = .ok (.goto (-29), 3) := by decide +kernel
theorem dX5_learns_34 : decode cX5_learns 34 = .ok (.aload_n 0, 1) := by decide +kernel
theorem dX5_learns_35 : decode cX5_learns 35 = .ok (.getfield 7, 3) := by decide +kernel
theorem dX5_learns_38 : decode cX5_learns 38 = .ok (.iconst 4, 1) := by decide +kernel
theorem dX5_learns_39 : decode cX5_learns 39 = .ok (.iload_n 1, 1) := by decide +kernel
theorem dX5_learns_40 : decode cX5_learns 40 = .ok (.imul, 1) := by decide +kernel
theorem dX5_learns_41 : decode cX5_learns 41 = .ok (.iload_n 2, 1) := by decide +kernel
theorem dX5_learns_42 : decode cX5_learns 42 = .ok (.iastore, 1) := by decide +kernel
theorem dX5_learns_43 : decode cX5_learns 43 = .ok (.return_, 1) := by decide +kernel
theorem dX5_hands_0 : decode cX5_hands 0 = .ok (.aload_n 0, 1) := by decide +kernel
theorem dX5_hands_1 : decode cX5_hands 1 = .ok (.getfield 52, 3) := by decide +kernel
theorem dX5_hands_4 : decode cX5_hands 4 = .ok (.istore 5, 2) := by decide +kernel
theorem dX5_hands_6 : decode cX5_hands 6 = .ok (.aload_n 0, 1) := by decide +kernel
theorem dX5_hands_7 : decode cX5_hands 7 = .ok (.getfield 13, 3) := by decide +kernel
theorem dX5_hands_10 : decode cX5_hands 10 = .ok (.iload 5, 2) := by decide +kernel
theorem dX5_hands_12 : decode cX5_hands 12 = .ok (.aload_n 0, 1) := by decide +kernel
theorem dX5_hands_13 : decode cX5_hands 13 = .ok (.getfield 59, 3) := by decide +kernel
theorem dX5_hands_16 : decode cX5_hands 16 = .ok (.iastore, 1) := by decide +kernel
theorem dX5_hands_17 : decode cX5_hands 17 = .ok (.aload_n 0, 1) := by decide +kernel
theorem dX5_hands_18 : decode cX5_hands 18 = .ok (.getfield 16, 3) := by decide +kernel
theorem dX5_hands_21 : decode cX5_hands 21 = .ok (.iload 5, 2) := by decide +kernel
theorem dX5_hands_23 : decode cX5_hands 23 = .ok (.aload_n 0, 1) := by decide +kernel
theorem dX5_hands_24 : decode cX5_hands 24 = .ok (.getfield 62, 3) := by decide +kernel
theorem dX5_hands_27 : decode cX5_hands 27 = .ok (.iastore, 1) := by decide +kernel
theorem dX5_hands_28 : decode cX5_hands 28 = .ok (.aload_n 0, 1) := by decide +kernel
theorem dX5_hands_29 : decode cX5_hands 29 = .ok (.getfield 19, 3) := by decide +kernel
theorem dX5_hands_32 : decode cX5_hands 32 = .ok (.iload 5, 2) := by decide +kernel
theorem dX5_hands_34 : decode cX5_hands 34 = .ok (.iload_n 1, 1) := by decide +kernel
theorem dX5_hands_35 : decode cX5_hands 35 = .ok (.iastore, 1) := by decide +kernel
theorem dX5_hands_36 : decode cX5_hands 36 = .ok (.aload_n 0, 1) := by decide +kernel
theorem dX5_hands_37 : decode cX5_hands 37 = .ok (.getfield 22, 3) := by decide +kernel
theorem dX5_hands_40 : decode cX5_hands 40 = .ok (.iload 5, 2) := by decide +kernel
theorem dX5_hands_42 : decode cX5_hands 42 = .ok (.iload_n 2, 1) := by decide +kernel
theorem dX5_hands_43 : decode cX5_hands 43 = .ok (.iastore, 1) := by decide +kernel
theorem dX5_hands_44 : decode cX5_hands 44 = .ok (.aload_n 0, 1) := by decide +kernel
theorem dX5_hands_45 : decode cX5_hands 45 = .ok (.getfield 25, 3) := by decide +kernel
theorem dX5_hands_48 : decode cX5_hands 48 = .ok (.iload 5, 2) := by decide +kernel
theorem dX5_hands_50 : decode cX5_hands 50 = .ok (.iload_n 3, 1) := by decide +kernel
theorem dX5_hands_51 : decode cX5_hands 51 = .ok (.iastore, 1) := by decide +kernel
theorem dX5_hands_52 : decode cX5_hands 52 = .ok (.aload_n 0, 1) := by decide +kernel
theorem dX5_hands_53 : decode cX5_hands 53 = .ok (.getfield 28, 3) := by decide +kernel
theorem dX5_hands_56 : decode cX5_hands 56 = .ok (.iload 5, 2) := by decide +kernel
theorem dX5_hands_58 : decode cX5_hands 58 = .ok (.iload 4, 2) := by decide +kernel
theorem dX5_hands_60 : decode cX5_hands 60 = .ok (.iastore, 1) := by decide +kernel
theorem dX5_hands_61 : decode cX5_hands 61 = .ok (.iconst 0, 1) := by decide +kernel
theorem dX5_hands_62 : decode cX5_hands 62 = .ok (.istore 6, 2) := by decide +kernel
theorem dX5_hands_64 : decode cX5_hands 64 = .ok (.iload 6, 2) := by decide +kernel
theorem dX5_hands_66 : decode cX5_hands 66 = .ok (.iconst 4, 1) := by decide +kernel
theorem dX5_hands_67 : decode cX5_hands 67 = .ok (.if_icmp .ge 95, 3) := by decide +kernel
theorem dX5_hands_70 : decode cX5_hands 70 = .ok (.iload_n 1, 1) := by decide +kernel
theorem dX5_hands_71 : decode cX5_hands 71 = .ok (.iload 6, 2) := by decide +kernel
theorem dX5_hands_73 : decode cX5_hands 73 = .ok (.ishr, 1) := by decide +kernel
theorem dX5_hands_74 : decode cX5_hands 74 = .ok (.iconst 1, 1) := by decide +kernel
theorem dX5_hands_75 : decode cX5_hands 75 = .ok (.iand, 1) := by decide +kernel
theorem dX5_hands_76 : decode cX5_hands 76 = .ok (.iconst 1, 1) := by decide +kernel
theorem dX5_hands_77 : decode cX5_hands 77 = .ok (.if_icmp .ne 7, 3) := by decide +kernel
theorem dX5_hands_80 : decode cX5_hands 80 = .ok (.iconst 1, 1) := by decide +kernel
theorem dX5_hands_81 : decode cX5_hands 81 = .ok (.goto 4, 3) := by decide +kernel
theorem dX5_hands_84 : decode cX5_hands 84 = .ok (.iconst 0, 1) := by decide +kernel
theorem dX5_hands_85 : decode cX5_hands 85 = .ok (.istore 7, 2) := by decide +kernel
theorem dX5_hands_87 : decode cX5_hands 87 = .ok (.iconst 0, 1) := by decide +kernel
theorem dX5_hands_88 : decode cX5_hands 88 = .ok (.istore 8, 2) := by decide +kernel
theorem dX5_hands_90 : decode cX5_hands 90 = .ok (.iload 8, 2) := by decide +kernel
theorem dX5_hands_92 : decode cX5_hands 92 = .ok (.iconst 4, 1) := by decide +kernel
theorem dX5_hands_93 : decode cX5_hands 93 = .ok (.if_icmp .ge 48, 3) := by decide +kernel
theorem dX5_hands_96 : decode cX5_hands 96 = .ok (.aload_n 0, 1) := by decide +kernel
theorem dX5_hands_97 : decode cX5_hands 97 = .ok (.getfield 34, 3) := by decide +kernel
theorem dX5_hands_100 : decode cX5_hands 100 = .ok (.bipush 16, 2) := by decide +kernel
theorem dX5_hands_102 : decode cX5_hands 102 = .ok (.iload 5, 2) := by decide +kernel
theorem dX5_hands_104 : decode cX5_hands 104 = .ok (.imul, 1) := by decide +kernel
theorem dX5_hands_105 : decode cX5_hands 105 = .ok (.iconst 4, 1) := by decide +kernel
theorem dX5_hands_106 : decode cX5_hands 106 = .ok (.iload 6, 2) := by decide +kernel
theorem dX5_hands_108 : decode cX5_hands 108 = .ok (.imul, 1) := by decide +kernel
theorem dX5_hands_109 : decode cX5_hands 109 = .ok (.iadd, 1) := by decide +kernel
theorem dX5_hands_110 : decode cX5_hands 110 = .ok (.iload 8, 2) := by decide +kernel
theorem dX5_hands_112 : decode cX5_hands 112 = .ok (.iadd, 1) := by decide +kernel
theorem dX5_hands_113 : decode cX5_hands 113 = .ok (.iload 7, 2) := by decide +kernel
theorem dX5_hands_115 : decode cX5_hands 115 = .ok (.ifCond .eq 18, 3) := by decide +kernel
theorem dX5_hands_118 : decode cX5_hands 118 = .ok (.aload_n 0, 1) := by decide +kernel
theorem dX5_hands_119 : decode cX5_hands 119 = .ok (.getfield 7, 3) := by decide +kernel
theorem dX5_hands_122 : decode cX5_hands 122 = .ok (.iconst 4, 1) := by decide +kernel
theorem dX5_hands_123 : decode cX5_hands 123 = .ok (.iload 6, 2) := by decide +kernel
theorem dX5_hands_125 : decode cX5_hands 125 = .ok (.imul, 1) := by decide +kernel
theorem dX5_hands_126 : decode cX5_hands 126 = .ok (.iload 8, 2) := by decide +kernel
theorem dX5_hands_128 : decode cX5_hands 128 = .ok (.iadd, 1) := by decide +kernel
theorem dX5_hands_129 : decode cX5_hands 129 = .ok (.iaload, 1) := by decide +kernel
theorem dX5_hands_130 : decode cX5_hands 130 = .ok (.goto 4, 3) := by decide +kernel
theorem dX5_hands_133 : decode cX5_hands 133 = .ok (.iconst (-1), 1) := by decide +kernel
theorem dX5_hands_134 : decode cX5_hands 134 = .ok (.iastore, 1) := by decide +kernel
theorem dX5_hands_135 : decode cX5_hands 135 = .ok (.iinc 8 1, 3) := by decide +kernel
theorem dX5_hands_138 : decode cX5_hands 138 = .ok (.goto (-48), 3) := by decide +kernel
theorem dX5_hands_141 : decode cX5_hands 141 = .ok (.iload 7, 2) := by decide +kernel
theorem dX5_hands_143 : decode cX5_hands 143 = .ok (.ifCond .eq 13, 3) := by decide +kernel
theorem dX5_hands_146 : decode cX5_hands 146 = .ok (.aload_n 0, 1) := by decide +kernel
theorem dX5_hands_147 : decode cX5_hands 147 = .ok (.iload 6, 2) := by decide +kernel
theorem dX5_hands_149 : decode cX5_hands 149 = .ok (.aload_n 0, 1) := by decide +kernel
theorem dX5_hands_150 : decode cX5_hands 150 = .ok (.getfield 59, 3) := by decide +kernel
theorem dX5_hands_153 : decode cX5_hands 153 = .ok (.invokevirtual 65, 3) := by decide +kernel
theorem dX5_hands_156 : decode cX5_hands 156 = .ok (.iinc 6 1, 3) := by decide +kernel
theorem dX5_hands_159 : decode cX5_hands 159 = .ok (.goto (-95), 3) := by decide +kernel
theorem dX5_hands_162 : decode cX5_hands 162 = .ok (.aload_n 0, 1) := by decide +kernel
theorem dX5_hands_163 : decode cX5_hands 163 = .ok (.dup, 1) := by decide +kernel
theorem dX5_hands_164 : decode cX5_hands 164 = .ok (.getfield 59, 3) := by decide +kernel
theorem dX5_hands_167 : decode cX5_hands 167 = .ok (.iconst 1, 1) := by decide +kernel
theorem dX5_hands_168 : decode cX5_hands 168 = .ok (.iadd, 1) := by decide +kernel
theorem dX5_hands_169 : decode cX5_hands 169 = .ok (.putfield 59, 3) := by decide +kernel
theorem dX5_hands_172 : decode cX5_hands 172 = .ok (.aload_n 0, 1) := by decide +kernel
theorem dX5_hands_173 : decode cX5_hands 173 = .ok (.dup, 1) := by decide +kernel
theorem dX5_hands_174 : decode cX5_hands 174 = .ok (.getfield 52, 3) := by decide +kernel
theorem dX5_hands_177 : decode cX5_hands 177 = .ok (.iconst 1, 1) := by decide +kernel
theorem dX5_hands_178 : decode cX5_hands 178 = .ok (.iadd, 1) := by decide +kernel
theorem dX5_hands_179 : decode cX5_hands 179 = .ok (.putfield 52, 3) := by decide +kernel
theorem dX5_hands_182 : decode cX5_hands 182 = .ok (.iload 5, 2) := by decide +kernel
theorem dX5_hands_184 : decode cX5_hands 184 = .ok (.ireturn, 1) := by decide +kernel
theorem dX5_take_0 : decode cX5_take 0 = .ok (.aload_n 0, 1) := by decide +kernel
theorem dX5_take_1 : decode cX5_take 1 = .ok (.iload_n 1, 1) := by decide +kernel
theorem dX5_take_2 : decode cX5_take 2 = .ok (.invokestatic 69, 3) := by decide +kernel
theorem dX5_take_5 : decode cX5_take 5 = .ok (.ifCond .eq 10, 3) := by decide +kernel
theorem dX5_take_8 : decode cX5_take 8 = .ok (.iload_n 2, 1) := by decide +kernel
theorem dX5_take_9 : decode cX5_take 9 = .ok (.invokestatic 73, 3) := by decide +kernel
theorem dX5_take_12 : decode cX5_take 12 = .ok (.ifCond .ne 7, 3) := by decide +kernel
theorem dX5_take_15 : decode cX5_take 15 = .ok (.iconst 1, 1) := by decide +kernel
theorem dX5_take_16 : decode cX5_take 16 = .ok (.goto 15, 3) := by decide +kernel
theorem dX5_take_19 : decode cX5_take 19 = .ok (.aload_n 0, 1) := by decide +kernel
theorem dX5_take_20 : decode cX5_take 20 = .ok (.invokevirtual 76, 3) := by decide +kernel
theorem dX5_take_23 : decode cX5_take 23 = .ok (.ifCond .eq 7, 3) := by decide +kernel
theorem dX5_take_26 : decode cX5_take 26 = .ok (.iconst 2, 1) := by decide +kernel
theorem dX5_take_27 : decode cX5_take 27 = .ok (.goto 4, 3) := by decide +kernel
theorem dX5_take_30 : decode cX5_take 30 = .ok (.iconst 0, 1) := by decide +kernel
theorem dX5_take_31 : decode cX5_take 31 = .ok (.putfield 44, 3) := by decide +kernel
theorem dX5_take_34 : decode cX5_take 34 = .ok (.aload_n 0, 1) := by decide +kernel
theorem dX5_take_35 : decode cX5_take 35 = .ok (.getfield 44, 3) := by decide +kernel
theorem dX5_take_38 : decode cX5_take 38 = .ok (.ifCond .le 7, 3) := by decide +kernel
theorem dX5_take_41 : decode cX5_take 41 = .ok (.iconst 0, 1) := by decide +kernel
theorem dX5_take_42 : decode cX5_take 42 = .ok (.goto 11, 3) := by decide +kernel
theorem dX5_take_45 : decode cX5_take 45 = .ok (.aload_n 0, 1) := by decide +kernel
theorem dX5_take_46 : decode cX5_take 46 = .ok (.iload_n 1, 1) := by decide +kernel
theorem dX5_take_47 : decode cX5_take 47 = .ok (.iload_n 2, 1) := by decide +kernel
theorem dX5_take_48 : decode cX5_take 48 = .ok (.iconst 0, 1) := by decide +kernel
theorem dX5_take_49 : decode cX5_take 49 = .ok (.iconst 0, 1) := by decide +kernel
theorem dX5_take_50 : decode cX5_take 50 = .ok (.invokevirtual 80, 3) := by decide +kernel
theorem dX5_take_53 : decode cX5_take 53 = .ok (.ireturn, 1) := by decide +kernel
theorem dX5_takeIf_0 : decode cX5_takeIf 0 = .ok (.iload_n 1, 1) := by decide +kernel
theorem dX5_takeIf_1 : decode cX5_takeIf 1 = .ok (.invokestatic 69, 3) := by decide +kernel
theorem dX5_takeIf_4 : decode cX5_takeIf 4 = .ok (.ifCond .eq 41, 3) := by decide +kernel
theorem dX5_takeIf_7 : decode cX5_takeIf 7 = .ok (.iload_n 2, 1) := by decide +kernel
theorem dX5_takeIf_8 : decode cX5_takeIf 8 = .ok (.invokestatic 73, 3) := by decide +kernel
theorem dX5_takeIf_11 : decode cX5_takeIf 11 = .ok (.ifCond .eq 34, 3) := by decide +kernel
theorem dX5_takeIf_14 : decode cX5_takeIf 14 = .ok (.iload_n 3, 1) := by decide +kernel
theorem dX5_takeIf_15 : decode cX5_takeIf 15 = .ok (.invokestatic 69, 3) := by decide +kernel
theorem dX5_takeIf_18 : decode cX5_takeIf 18 = .ok (.ifCond .eq 27, 3) := by decide +kernel
theorem dX5_takeIf_21 : decode cX5_takeIf 21 = .ok (.aload_n 0, 1) := by decide +kernel
theorem dX5_takeIf_22 : decode cX5_takeIf 22 = .ok (.getfield 55, 3) := by decide +kernel
theorem dX5_takeIf_25 : decode cX5_takeIf 25 = .ok (.ifCond .ne 16, 3) := by decide +kernel
theorem dX5_takeIf_28 : decode cX5_takeIf 28 = .ok (.iload 4, 2) := by decide +kernel
theorem dX5_takeIf_30 : decode cX5_takeIf 30 = .ok (.iconst 0, 1) := by decide +kernel
theorem dX5_takeIf_31 : decode cX5_takeIf 31 = .ok (.aload_n 0, 1) := by decide +kernel
theorem dX5_takeIf_32 : decode cX5_takeIf 32 = .ok (.getfield 59, 3) := by decide +kernel
theorem dX5_takeIf_35 : decode cX5_takeIf 35 = .ok (.invokestatic 48, 3) := by decide +kernel
theorem dX5_takeIf_38 : decode cX5_takeIf 38 = .ok (.ifCond .eq 7, 3) := by decide +kernel
theorem dX5_takeIf_41 : decode cX5_takeIf 41 = .ok (.iconst 1, 1) := by decide +kernel
theorem dX5_takeIf_42 : decode cX5_takeIf 42 = .ok (.goto 4, 3) := by decide +kernel
theorem dX5_takeIf_45 : decode cX5_takeIf 45 = .ok (.iconst 0, 1) := by decide +kernel
theorem dX5_takeIf_46 : decode cX5_takeIf 46 = .ok (.istore 5, 2) := by decide +kernel
theorem dX5_takeIf_48 : decode cX5_takeIf 48 = .ok (.aload_n 0, 1) := by decide +kernel
theorem dX5_takeIf_49 : decode cX5_takeIf 49 = .ok (.iload 5, 2) := by decide +kernel
theorem dX5_takeIf_51 : decode cX5_takeIf 51 = .ok (.ifCond .ne 7, 3) := by decide +kernel
theorem dX5_takeIf_54 : decode cX5_takeIf 54 = .ok (.iconst 1, 1) := by decide +kernel
theorem dX5_takeIf_55 : decode cX5_takeIf 55 = .ok (.goto 15, 3) := by decide +kernel
theorem dX5_takeIf_58 : decode cX5_takeIf 58 = .ok (.aload_n 0, 1) := by decide +kernel
theorem dX5_takeIf_59 : decode cX5_takeIf 59 = .ok (.invokevirtual 76, 3) := by decide +kernel
theorem dX5_takeIf_62 : decode cX5_takeIf 62 = .ok (.ifCond .eq 7, 3) := by decide +kernel
theorem dX5_takeIf_65 : decode cX5_takeIf 65 = .ok (.iconst 2, 1) := by decide +kernel
theorem dX5_takeIf_66 : decode cX5_takeIf 66 = .ok (.goto 4, 3) := by decide +kernel
theorem dX5_takeIf_69 : decode cX5_takeIf 69 = .ok (.iconst 0, 1) := by decide +kernel
theorem dX5_takeIf_70 : decode cX5_takeIf 70 = .ok (.putfield 44, 3) := by decide +kernel
theorem dX5_takeIf_73 : decode cX5_takeIf 73 = .ok (.aload_n 0, 1) := by decide +kernel
theorem dX5_takeIf_74 : decode cX5_takeIf 74 = .ok (.getfield 44, 3) := by decide +kernel
theorem dX5_takeIf_77 : decode cX5_takeIf 77 = .ok (.ifCond .le 7, 3) := by decide +kernel
theorem dX5_takeIf_80 : decode cX5_takeIf 80 = .ok (.iconst 0, 1) := by decide +kernel
theorem dX5_takeIf_81 : decode cX5_takeIf 81 = .ok (.goto 12, 3) := by decide +kernel
theorem dX5_takeIf_84 : decode cX5_takeIf 84 = .ok (.aload_n 0, 1) := by decide +kernel
theorem dX5_takeIf_85 : decode cX5_takeIf 85 = .ok (.iload_n 1, 1) := by decide +kernel
theorem dX5_takeIf_86 : decode cX5_takeIf 86 = .ok (.iload_n 2, 1) := by decide +kernel
theorem dX5_takeIf_87 : decode cX5_takeIf 87 = .ok (.iload_n 3, 1) := by decide +kernel
theorem dX5_takeIf_88 : decode cX5_takeIf 88 = .ok (.iload 4, 2) := by decide +kernel
theorem dX5_takeIf_90 : decode cX5_takeIf 90 = .ok (.invokevirtual 80, 3) := by decide +kernel
theorem dX5_takeIf_93 : decode cX5_takeIf 93 = .ok (.ireturn, 1) := by decide +kernel
theorem dX5_lose_0 : decode cX5_lose 0 = .ok (.aload_n 0, 1) := by decide +kernel
theorem dX5_lose_1 : decode cX5_lose 1 = .ok (.aload_n 0, 1) := by decide +kernel
theorem dX5_lose_2 : decode cX5_lose 2 = .ok (.getfield 55, 3) := by decide +kernel
theorem dX5_lose_5 : decode cX5_lose 5 = .ok (.ifCond .eq 7, 3) := by decide +kernel
theorem dX5_lose_8 : decode cX5_lose 8 = .ok (.iconst 1, 1) := by decide +kernel
theorem dX5_lose_9 : decode cX5_lose 9 = .ok (.goto 4, 3) := by decide +kernel
theorem dX5_lose_12 : decode cX5_lose 12 = .ok (.iconst 0, 1) := by decide +kernel
theorem dX5_lose_13 : decode cX5_lose 13 = .ok (.putfield 44, 3) := by decide +kernel
theorem dX5_lose_16 : decode cX5_lose 16 = .ok (.aload_n 0, 1) := by decide +kernel
theorem dX5_lose_17 : decode cX5_lose 17 = .ok (.iconst 1, 1) := by decide +kernel
theorem dX5_lose_18 : decode cX5_lose 18 = .ok (.putfield 55, 3) := by decide +kernel
theorem dX5_lose_21 : decode cX5_lose 21 = .ok (.aload_n 0, 1) := by decide +kernel
theorem dX5_lose_22 : decode cX5_lose 22 = .ok (.getfield 44, 3) := by decide +kernel
theorem dX5_lose_25 : decode cX5_lose 25 = .ok (.ifCond .le 7, 3) := by decide +kernel
theorem dX5_lose_28 : decode cX5_lose 28 = .ok (.iconst 0, 1) := by decide +kernel
theorem dX5_lose_29 : decode cX5_lose 29 = .ok (.goto 7, 3) := by decide +kernel
theorem dX5_lose_32 : decode cX5_lose 32 = .ok (.aload_n 0, 1) := by decide +kernel
theorem dX5_lose_33 : decode cX5_lose 33 = .ok (.getfield 59, 3) := by decide +kernel
theorem dX5_lose_36 : decode cX5_lose 36 = .ok (.ireturn, 1) := by decide +kernel
theorem dX5_seal_0 : decode cX5_seal 0 = .ok (.aload_n 0, 1) := by decide +kernel
theorem dX5_seal_1 : decode cX5_seal 1 = .ok (.iconst 0, 1) := by decide +kernel
theorem dX5_seal_2 : decode cX5_seal 2 = .ok (.putfield 44, 3) := by decide +kernel
theorem dX5_seal_5 : decode cX5_seal 5 = .ok (.aload_n 0, 1) := by decide +kernel
theorem dX5_seal_6 : decode cX5_seal 6 = .ok (.dup, 1) := by decide +kernel
theorem dX5_seal_7 : decode cX5_seal 7 = .ok (.getfield 62, 3) := by decide +kernel
theorem dX5_seal_10 : decode cX5_seal 10 = .ok (.iconst 1, 1) := by decide +kernel
theorem dX5_seal_11 : decode cX5_seal 11 = .ok (.iadd, 1) := by decide +kernel
theorem dX5_seal_12 : decode cX5_seal 12 = .ok (.putfield 62, 3) := by decide +kernel
theorem dX5_seal_15 : decode cX5_seal 15 = .ok (.aload_n 0, 1) := by decide +kernel
theorem dX5_seal_16 : decode cX5_seal 16 = .ok (.iconst 0, 1) := by decide +kernel
theorem dX5_seal_17 : decode cX5_seal 17 = .ok (.putfield 55, 3) := by decide +kernel
theorem dX5_seal_20 : decode cX5_seal 20 = .ok (.aload_n 0, 1) := by decide +kernel
theorem dX5_seal_21 : decode cX5_seal 21 = .ok (.iconst 0, 1) := by decide +kernel
theorem dX5_seal_22 : decode cX5_seal 22 = .ok (.putfield 59, 3) := by decide +kernel
theorem dX5_seal_25 : decode cX5_seal 25 = .ok (.iconst 0, 1) := by decide +kernel
theorem dX5_seal_26 : decode cX5_seal 26 = .ok (.istore_n 1, 1) := by decide +kernel
theorem dX5_seal_27 : decode cX5_seal 27 = .ok (.iload_n 1, 1) := by decide +kernel
theorem dX5_seal_28 : decode cX5_seal 28 = .ok (.bipush 16, 2) := by decide +kernel
theorem dX5_seal_30 : decode cX5_seal 30 = .ok (.if_icmp .ge 16, 3) := by decide +kernel
theorem dX5_seal_33 : decode cX5_seal 33 = .ok (.aload_n 0, 1) := by decide +kernel
theorem dX5_seal_34 : decode cX5_seal 34 = .ok (.getfield 7, 3) := by decide +kernel
theorem dX5_seal_37 : decode cX5_seal 37 = .ok (.iload_n 1, 1) := by decide +kernel
theorem dX5_seal_38 : decode cX5_seal 38 = .ok (.iconst (-1), 1) := by decide +kernel
theorem dX5_seal_39 : decode cX5_seal 39 = .ok (.iastore, 1) := by decide +kernel
theorem dX5_seal_40 : decode cX5_seal 40 = .ok (.iinc 1 1, 3) := by decide +kernel
theorem dX5_seal_43 : decode cX5_seal 43 = .ok (.goto (-16), 3) := by decide +kernel
theorem dX5_seal_46 : decode cX5_seal 46 = .ok (.iconst 0, 1) := by decide +kernel
theorem dX5_seal_47 : decode cX5_seal 47 = .ok (.istore_n 1, 1) := by decide +kernel
theorem dX5_seal_48 : decode cX5_seal 48 = .ok (.iload_n 1, 1) := by decide +kernel
theorem dX5_seal_49 : decode cX5_seal 49 = .ok (.bipush 120, 2) := by decide +kernel
theorem dX5_seal_51 : decode cX5_seal 51 = .ok (.if_icmp .ge 106, 3) := by decide +kernel
theorem dX5_seal_54 : decode cX5_seal 54 = .ok (.aload_n 0, 1) := by decide +kernel
theorem dX5_seal_55 : decode cX5_seal 55 = .ok (.getfield 37, 3) := by decide +kernel
theorem dX5_seal_58 : decode cX5_seal 58 = .ok (.iload_n 1, 1) := by decide +kernel
theorem dX5_seal_59 : decode cX5_seal 59 = .ok (.iaload, 1) := by decide +kernel
theorem dX5_seal_60 : decode cX5_seal 60 = .ok (.bipush (-2), 2) := by decide +kernel
theorem dX5_seal_62 : decode cX5_seal 62 = .ok (.if_icmp .ne 36, 3) := by decide +kernel
theorem dX5_seal_65 : decode cX5_seal 65 = .ok (.aload_n 0, 1) := by decide +kernel
theorem dX5_seal_66 : decode cX5_seal 66 = .ok (.getfield 37, 3) := by decide +kernel
theorem dX5_seal_69 : decode cX5_seal 69 = .ok (.bipush 120, 2) := by decide +kernel
theorem dX5_seal_71 : decode cX5_seal 71 = .ok (.iload_n 1, 1) := by decide +kernel
theorem dX5_seal_72 : decode cX5_seal 72 = .ok (.iadd, 1) := by decide +kernel
theorem dX5_seal_73 : decode cX5_seal 73 = .ok (.iaload, 1) := by decide +kernel
theorem dX5_seal_74 : decode cX5_seal 74 = .ok (.bipush (-2), 2) := by decide +kernel
theorem dX5_seal_76 : decode cX5_seal 76 = .ok (.if_icmp .ne 22, 3) := by decide +kernel
theorem dX5_seal_79 : decode cX5_seal 79 = .ok (.aload_n 0, 1) := by decide +kernel
theorem dX5_seal_80 : decode cX5_seal 80 = .ok (.getfield 37, 3) := by decide +kernel
theorem dX5_seal_83 : decode cX5_seal 83 = .ok (.sipush 240, 3) := by decide +kernel
theorem dX5_seal_86 : decode cX5_seal 86 = .ok (.iload_n 1, 1) := by decide +kernel
theorem dX5_seal_87 : decode cX5_seal 87 = .ok (.iadd, 1) := by decide +kernel
theorem dX5_seal_88 : decode cX5_seal 88 = .ok (.iaload, 1) := by decide +kernel
theorem dX5_seal_89 : decode cX5_seal 89 = .ok (.bipush (-2), 2) := by decide +kernel
theorem dX5_seal_91 : decode cX5_seal 91 = .ok (.if_icmp .ne 7, 3) := by decide +kernel
theorem dX5_seal_94 : decode cX5_seal 94 = .ok (.iconst 1, 1) := by decide +kernel
theorem dX5_seal_95 : decode cX5_seal 95 = .ok (.goto 4, 3) := by decide +kernel
theorem dX5_seal_98 : decode cX5_seal 98 = .ok (.iconst 0, 1) := by decide +kernel
theorem dX5_seal_99 : decode cX5_seal 99 = .ok (.istore_n 2, 1) := by decide +kernel
theorem dX5_seal_100 : decode cX5_seal 100 = .ok (.aload_n 0, 1) := by decide +kernel
theorem dX5_seal_101 : decode cX5_seal 101 = .ok (.iload_n 2, 1) := by decide +kernel
theorem dX5_seal_102 : decode cX5_seal 102 = .ok (.ifCond .eq 10, 3) := by decide +kernel
theorem dX5_seal_105 : decode cX5_seal 105 = .ok (.aload_n 0, 1) := by decide +kernel
theorem dX5_seal_106 : decode cX5_seal 106 = .ok (.getfield 59, 3) := by decide +kernel
theorem dX5_seal_109 : decode cX5_seal 109 = .ok (.goto 6, 3) := by decide +kernel
theorem dX5_seal_112 : decode cX5_seal 112 = .ok (.iload_n 1, 1) := by decide +kernel
theorem dX5_seal_113 : decode cX5_seal 113 = .ok (.iconst 1, 1) := by decide +kernel
theorem dX5_seal_114 : decode cX5_seal 114 = .ok (.iadd, 1) := by decide +kernel
theorem dX5_seal_115 : decode cX5_seal 115 = .ok (.putfield 59, 3) := by decide +kernel
theorem dX5_seal_118 : decode cX5_seal 118 = .ok (.iconst 0, 1) := by decide +kernel
theorem dX5_seal_119 : decode cX5_seal 119 = .ok (.istore_n 3, 1) := by decide +kernel
theorem dX5_seal_120 : decode cX5_seal 120 = .ok (.iload_n 3, 1) := by decide +kernel
theorem dX5_seal_121 : decode cX5_seal 121 = .ok (.iconst 4, 1) := by decide +kernel
theorem dX5_seal_122 : decode cX5_seal 122 = .ok (.if_icmp .ge 29, 3) := by decide +kernel
theorem dX5_seal_125 : decode cX5_seal 125 = .ok (.aload_n 0, 1) := by decide +kernel
theorem dX5_seal_126 : decode cX5_seal 126 = .ok (.aload_n 0, 1) := by decide +kernel
theorem dX5_seal_127 : decode cX5_seal 127 = .ok (.getfield 37, 3) := by decide +kernel
theorem dX5_seal_130 : decode cX5_seal 130 = .ok (.iload_n 1, 1) := by decide +kernel
theorem dX5_seal_131 : decode cX5_seal 131 = .ok (.iaload, 1) := by decide +kernel
theorem dX5_seal_132 : decode cX5_seal 132 = .ok (.iload_n 3, 1) := by decide +kernel
theorem dX5_seal_133 : decode cX5_seal 133 = .ok (.invokevirtual 84, 3) := by decide +kernel
theorem dX5_seal_136 : decode cX5_seal 136 = .ok (.ifCond .eq 9, 3) := by decide +kernel
theorem dX5_seal_139 : decode cX5_seal 139 = .ok (.aload_n 0, 1) := by decide +kernel
theorem dX5_seal_140 : decode cX5_seal 140 = .ok (.iload_n 3, 1) := by decide +kernel
theorem dX5_seal_141 : decode cX5_seal 141 = .ok (.iload_n 1, 1) := by decide +kernel
theorem dX5_seal_142 : decode cX5_seal 142 = .ok (.invokevirtual 65, 3) := by decide +kernel
theorem dX5_seal_145 : decode cX5_seal 145 = .ok (.iinc 3 1, 3) := by decide +kernel
theorem dX5_seal_148 : decode cX5_seal 148 = .ok (.goto (-28), 3) := by decide +kernel
theorem dX5_seal_151 : decode cX5_seal 151 = .ok (.iinc 1 1, 3) := by decide +kernel
theorem dX5_seal_154 : decode cX5_seal 154 = .ok (.goto (-106), 3) := by decide +kernel
theorem dX5_seal_157 : decode cX5_seal 157 = .ok (.aload_n 0, 1) := by decide +kernel
theorem dX5_seal_158 : decode cX5_seal 158 = .ok (.getfield 59, 3) := by decide +kernel
theorem dX5_seal_161 : decode cX5_seal 161 = .ok (.ireturn, 1) := by decide +kernel
theorem dX5_hasStream_0 : decode cX5_hasStream 0 = .ok (.iload_n 1, 1) := by decide +kernel
theorem dX5_hasStream_1 : decode cX5_hasStream 1 = .ok (.ifCond .lt 21, 3) := by decide +kernel
theorem dX5_hasStream_4 : decode cX5_hasStream 4 = .ok (.aload_n 0, 1) := by decide +kernel
theorem dX5_hasStream_5 : decode cX5_hasStream 5 = .ok (.getfield 19, 3) := by decide +kernel
theorem dX5_hasStream_8 : decode cX5_hasStream 8 = .ok (.iload_n 1, 1) := by decide +kernel
theorem dX5_hasStream_9 : decode cX5_hasStream 9 = .ok (.iaload, 1) := by decide +kernel
theorem dX5_hasStream_10 : decode cX5_hasStream 10 = .ok (.iload_n 2, 1) := by decide +kernel
theorem dX5_hasStream_11 : decode cX5_hasStream 11 = .ok (.ishr, 1) := by decide +kernel
theorem dX5_hasStream_12 : decode cX5_hasStream 12 = .ok (.iconst 1, 1) := by decide +kernel
theorem dX5_hasStream_13 : decode cX5_hasStream 13 = .ok (.iand, 1) := by decide +kernel
theorem dX5_hasStream_14 : decode cX5_hasStream 14 = .ok (.iconst 1, 1) := by decide +kernel
theorem dX5_hasStream_15 : decode cX5_hasStream 15 = .ok (.if_icmp .ne 7, 3) := by decide +kernel
theorem dX5_hasStream_18 : decode cX5_hasStream 18 = .ok (.iconst 1, 1) := by decide +kernel
theorem dX5_hasStream_19 : decode cX5_hasStream 19 = .ok (.goto 4, 3) := by decide +kernel
theorem dX5_hasStream_22 : decode cX5_hasStream 22 = .ok (.iconst 0, 1) := by decide +kernel
theorem dX5_hasStream_23 : decode cX5_hasStream 23 = .ok (.ireturn, 1) := by decide +kernel
theorem dX5_write_0 : decode cX5_write 0 = .ok (.aload_n 0, 1) := by decide +kernel
theorem dX5_write_1 : decode cX5_write 1 = .ok (.aload_n 0, 1) := by decide +kernel
theorem dX5_write_2 : decode cX5_write 2 = .ok (.iload_n 1, 1) := by decide +kernel
theorem dX5_write_3 : decode cX5_write 3 = .ok (.invokevirtual 88, 3) := by decide +kernel
theorem dX5_write_6 : decode cX5_write 6 = .ok (.ifCond .eq 7, 3) := by decide +kernel
theorem dX5_write_9 : decode cX5_write 9 = .ok (.iconst 0, 1) := by decide +kernel
theorem dX5_write_10 : decode cX5_write 10 = .ok (.goto 4, 3) := by decide +kernel
theorem dX5_write_13 : decode cX5_write 13 = .ok (.iconst 1, 1) := by decide +kernel
theorem dX5_write_14 : decode cX5_write 14 = .ok (.putfield 44, 3) := by decide +kernel
theorem dX5_write_17 : decode cX5_write 17 = .ok (.aload_n 0, 1) := by decide +kernel
theorem dX5_write_18 : decode cX5_write 18 = .ok (.getfield 44, 3) := by decide +kernel
theorem dX5_write_21 : decode cX5_write 21 = .ok (.ifCond .le 5, 3) := by decide +kernel
theorem dX5_write_24 : decode cX5_write 24 = .ok (.iconst 0, 1) := by decide +kernel
theorem dX5_write_25 : decode cX5_write 25 = .ok (.ireturn, 1) := by decide +kernel
theorem dX5_write_26 : decode cX5_write 26 = .ok (.aload_n 0, 1) := by decide +kernel
theorem dX5_write_27 : decode cX5_write 27 = .ok (.getfield 31, 3) := by decide +kernel
theorem dX5_write_30 : decode cX5_write 30 = .ok (.iload_n 1, 1) := by decide +kernel
theorem dX5_write_31 : decode cX5_write 31 = .ok (.iaload, 1) := by decide +kernel
theorem dX5_write_32 : decode cX5_write 32 = .ok (.istore_n 2, 1) := by decide +kernel
theorem dX5_write_33 : decode cX5_write 33 = .ok (.aload_n 0, 1) := by decide +kernel
theorem dX5_write_34 : decode cX5_write 34 = .ok (.iload_n 2, 1) := by decide +kernel
theorem dX5_write_35 : decode cX5_write 35 = .ok (.iconst (-1), 1) := by decide +kernel
theorem dX5_write_36 : decode cX5_write 36 = .ok (.if_icmp .eq 21, 3) := by decide +kernel
theorem dX5_write_39 : decode cX5_write 39 = .ok (.iload_n 2, 1) := by decide +kernel
theorem dX5_write_40 : decode cX5_write 40 = .ok (.iconst 3, 1) := by decide +kernel
theorem dX5_write_41 : decode cX5_write 41 = .ok (.if_icmp .eq 16, 3) := by decide +kernel
theorem dX5_write_44 : decode cX5_write 44 = .ok (.aload_n 0, 1) := by decide +kernel
theorem dX5_write_45 : decode cX5_write 45 = .ok (.getfield 16, 3) := by decide +kernel
theorem dX5_write_48 : decode cX5_write 48 = .ok (.iload_n 1, 1) := by decide +kernel
theorem dX5_write_49 : decode cX5_write 49 = .ok (.iaload, 1) := by decide +kernel
theorem dX5_write_50 : decode cX5_write 50 = .ok (.aload_n 0, 1) := by decide +kernel
theorem dX5_write_51 : decode cX5_write 51 = .ok (.getfield 62, 3) := by decide +kernel
theorem dX5_write_54 : decode cX5_write 54 = .ok (.if_icmp .eq 7, 3) := by decide +kernel
theorem dX5_write_57 : decode cX5_write 57 = .ok (.iconst 2, 1) := by decide +kernel
theorem dX5_write_58 : decode cX5_write 58 = .ok (.goto 4, 3) := by decide +kernel
theorem dX5_write_61 : decode cX5_write 61 = .ok (.iconst 0, 1) := by decide +kernel
theorem dX5_write_62 : decode cX5_write 62 = .ok (.putfield 44, 3) := by decide +kernel
theorem dX5_write_65 : decode cX5_write 65 = .ok (.aload_n 0, 1) := by decide +kernel
theorem dX5_write_66 : decode cX5_write 66 = .ok (.getfield 44, 3) := by decide +kernel
theorem dX5_write_69 : decode cX5_write 69 = .ok (.ifCond .le 5, 3) := by decide +kernel
theorem dX5_write_72 : decode cX5_write 72 = .ok (.iconst 0, 1) := by decide +kernel
theorem dX5_write_73 : decode cX5_write 73 = .ok (.ireturn, 1) := by decide +kernel
theorem dX5_write_74 : decode cX5_write 74 = .ok (.bipush 120, 2) := by decide +kernel
theorem dX5_write_76 : decode cX5_write 76 = .ok (.iload_n 2, 1) := by decide +kernel
theorem dX5_write_77 : decode cX5_write 77 = .ok (.imul, 1) := by decide +kernel
theorem dX5_write_78 : decode cX5_write 78 = .ok (.aload_n 0, 1) := by decide +kernel
theorem dX5_write_79 : decode cX5_write 79 = .ok (.getfield 13, 3) := by decide +kernel
theorem dX5_write_82 : decode cX5_write 82 = .ok (.iload_n 1, 1) := by decide +kernel
theorem dX5_write_83 : decode cX5_write 83 = .ok (.iaload, 1) := by decide +kernel
theorem dX5_write_84 : decode cX5_write 84 = .ok (.iadd, 1) := by decide +kernel
theorem dX5_write_85 : decode cX5_write 85 = .ok (.istore_n 3, 1) := by decide +kernel
theorem dX5_write_86 : decode cX5_write 86 = .ok (.aload_n 0, 1) := by decide +kernel
theorem dX5_write_87 : decode cX5_write 87 = .ok (.getfield 31, 3) := by decide +kernel
theorem dX5_write_90 : decode cX5_write 90 = .ok (.iload_n 1, 1) := by decide +kernel
theorem dX5_write_91 : decode cX5_write 91 = .ok (.aload_n 0, 1) := by decide +kernel
theorem dX5_write_92 : decode cX5_write 92 = .ok (.getfield 37, 3) := by decide +kernel
theorem dX5_write_95 : decode cX5_write 95 = .ok (.iload_n 3, 1) := by decide +kernel
theorem dX5_write_96 : decode cX5_write 96 = .ok (.iaload, 1) := by decide +kernel
theorem dX5_write_97 : decode cX5_write 97 = .ok (.iconst (-1), 1) := by decide +kernel
theorem dX5_write_98 : decode cX5_write 98 = .ok (.if_icmp .ne 7, 3) := by decide +kernel
theorem dX5_write_101 : decode cX5_write 101 = .ok (.iconst (-1), 1) := by decide +kernel
theorem dX5_write_102 : decode cX5_write 102 = .ok (.goto 6, 3) := by decide +kernel
theorem dX5_write_105 : decode cX5_write 105 = .ok (.iload_n 2, 1) := by decide +kernel
theorem dX5_write_106 : decode cX5_write 106 = .ok (.iconst 1, 1) := by decide +kernel
theorem dX5_write_107 : decode cX5_write 107 = .ok (.iadd, 1) := by decide +kernel
theorem dX5_write_108 : decode cX5_write 108 = .ok (.iastore, 1) := by decide +kernel
theorem dX5_write_109 : decode cX5_write 109 = .ok (.aload_n 0, 1) := by decide +kernel
theorem dX5_write_110 : decode cX5_write 110 = .ok (.getfield 37, 3) := by decide +kernel
theorem dX5_write_113 : decode cX5_write 113 = .ok (.iload_n 3, 1) := by decide +kernel
theorem dX5_write_114 : decode cX5_write 114 = .ok (.aload_n 0, 1) := by decide +kernel
theorem dX5_write_115 : decode cX5_write 115 = .ok (.getfield 37, 3) := by decide +kernel
theorem dX5_write_118 : decode cX5_write 118 = .ok (.iload_n 3, 1) := by decide +kernel
theorem dX5_write_119 : decode cX5_write 119 = .ok (.iaload, 1) := by decide +kernel
theorem dX5_write_120 : decode cX5_write 120 = .ok (.bipush (-2), 2) := by decide +kernel
theorem dX5_write_122 : decode cX5_write 122 = .ok (.if_icmp .ne 7, 3) := by decide +kernel
theorem dX5_write_125 : decode cX5_write 125 = .ok (.iload_n 1, 1) := by decide +kernel
theorem dX5_write_126 : decode cX5_write 126 = .ok (.goto 9, 3) := by decide +kernel
theorem dX5_write_129 : decode cX5_write 129 = .ok (.aload_n 0, 1) := by decide +kernel
theorem dX5_write_130 : decode cX5_write 130 = .ok (.getfield 37, 3) := by decide +kernel
theorem dX5_write_133 : decode cX5_write 133 = .ok (.iload_n 3, 1) := by decide +kernel
theorem dX5_write_134 : decode cX5_write 134 = .ok (.iaload, 1) := by decide +kernel
theorem dX5_write_135 : decode cX5_write 135 = .ok (.iastore, 1) := by decide +kernel
theorem dX5_write_136 : decode cX5_write 136 = .ok (.aload_n 0, 1) := by decide +kernel
theorem dX5_write_137 : decode cX5_write 137 = .ok (.getfield 31, 3) := by decide +kernel
theorem dX5_write_140 : decode cX5_write 140 = .ok (.iload_n 1, 1) := by decide +kernel
theorem dX5_write_141 : decode cX5_write 141 = .ok (.iaload, 1) := by decide +kernel
theorem dX5_write_142 : decode cX5_write 142 = .ok (.ireturn, 1) := by decide +kernel
theorem dX5_isWhole_0 : decode cX5_isWhole 0 = .ok (.aload_n 0, 1) := by decide +kernel
theorem dX5_isWhole_1 : decode cX5_isWhole 1 = .ok (.getfield 37, 3) := by decide +kernel
theorem dX5_isWhole_4 : decode cX5_isWhole 4 = .ok (.iload_n 1, 1) := by decide +kernel
theorem dX5_isWhole_5 : decode cX5_isWhole 5 = .ok (.iaload, 1) := by decide +kernel
theorem dX5_isWhole_6 : decode cX5_isWhole 6 = .ok (.bipush (-2), 2) := by decide +kernel
theorem dX5_isWhole_8 : decode cX5_isWhole 8 = .ok (.if_icmp .eq 36, 3) := by decide +kernel
theorem dX5_isWhole_11 : decode cX5_isWhole 11 = .ok (.aload_n 0, 1) := by decide +kernel
theorem dX5_isWhole_12 : decode cX5_isWhole 12 = .ok (.getfield 37, 3) := by decide +kernel
theorem dX5_isWhole_15 : decode cX5_isWhole 15 = .ok (.bipush 120, 2) := by decide +kernel
theorem dX5_isWhole_17 : decode cX5_isWhole 17 = .ok (.iload_n 1, 1) := by decide +kernel
theorem dX5_isWhole_18 : decode cX5_isWhole 18 = .ok (.iadd, 1) := by decide +kernel
theorem dX5_isWhole_19 : decode cX5_isWhole 19 = .ok (.iaload, 1) := by decide +kernel
theorem dX5_isWhole_20 : decode cX5_isWhole 20 = .ok (.bipush (-2), 2) := by decide +kernel
theorem dX5_isWhole_22 : decode cX5_isWhole 22 = .ok (.if_icmp .eq 22, 3) := by decide +kernel
theorem dX5_isWhole_25 : decode cX5_isWhole 25 = .ok (.aload_n 0, 1) := by decide +kernel
theorem dX5_isWhole_26 : decode cX5_isWhole 26 = .ok (.getfield 37, 3) := by decide +kernel
theorem dX5_isWhole_29 : decode cX5_isWhole 29 = .ok (.sipush 240, 3) := by decide +kernel
theorem dX5_isWhole_32 : decode cX5_isWhole 32 = .ok (.iload_n 1, 1) := by decide +kernel
theorem dX5_isWhole_33 : decode cX5_isWhole 33 = .ok (.iadd, 1) := by decide +kernel
theorem dX5_isWhole_34 : decode cX5_isWhole 34 = .ok (.iaload, 1) := by decide +kernel
theorem dX5_isWhole_35 : decode cX5_isWhole 35 = .ok (.bipush (-2), 2) := by decide +kernel
theorem dX5_isWhole_37 : decode cX5_isWhole 37 = .ok (.if_icmp .eq 7, 3) := by decide +kernel
theorem dX5_isWhole_40 : decode cX5_isWhole 40 = .ok (.iconst 1, 1) := by decide +kernel
theorem dX5_isWhole_41 : decode cX5_isWhole 41 = .ok (.goto 4, 3) := by decide +kernel
theorem dX5_isWhole_44 : decode cX5_isWhole 44 = .ok (.iconst 0, 1) := by decide +kernel
theorem dX5_isWhole_45 : decode cX5_isWhole 45 = .ok (.ireturn, 1) := by decide +kernel
theorem dX5_fill_0 : decode cX5_fill 0 = .ok (.aload_n 0, 1) := by decide +kernel
theorem dX5_fill_1 : decode cX5_fill 1 = .ok (.iload_n 1, 1) := by decide +kernel
theorem dX5_fill_2 : decode cX5_fill 2 = .ok (.invokestatic 91, 3) := by decide +kernel
theorem dX5_fill_5 : decode cX5_fill 5 = .ok (.ifCond .ne 7, 3) := by decide +kernel
theorem dX5_fill_8 : decode cX5_fill 8 = .ok (.iconst 1, 1) := by decide +kernel
theorem dX5_fill_9 : decode cX5_fill 9 = .ok (.goto 31, 3) := by decide +kernel
theorem dX5_fill_12 : decode cX5_fill 12 = .ok (.aload_n 0, 1) := by decide +kernel
theorem dX5_fill_13 : decode cX5_fill 13 = .ok (.getfield 55, 3) := by decide +kernel
theorem dX5_fill_16 : decode cX5_fill 16 = .ok (.ifCond .ne 19, 3) := by decide +kernel
theorem dX5_fill_19 : decode cX5_fill 19 = .ok (.iload_n 1, 1) := by decide +kernel
theorem dX5_fill_20 : decode cX5_fill 20 = .ok (.aload_n 0, 1) := by decide +kernel
theorem dX5_fill_21 : decode cX5_fill 21 = .ok (.getfield 59, 3) := by decide +kernel
theorem dX5_fill_24 : decode cX5_fill 24 = .ok (.if_icmp .ge 11, 3) := by decide +kernel
theorem dX5_fill_27 : decode cX5_fill 27 = .ok (.aload_n 0, 1) := by decide +kernel
theorem dX5_fill_28 : decode cX5_fill 28 = .ok (.iload_n 1, 1) := by decide +kernel
theorem dX5_fill_29 : decode cX5_fill 29 = .ok (.invokevirtual 94, 3) := by decide +kernel
theorem dX5_fill_32 : decode cX5_fill 32 = .ok (.ifCond .eq 7, 3) := by decide +kernel
theorem dX5_fill_35 : decode cX5_fill 35 = .ok (.iconst 2, 1) := by decide +kernel
theorem dX5_fill_36 : decode cX5_fill 36 = .ok (.goto 4, 3) := by decide +kernel
theorem dX5_fill_39 : decode cX5_fill 39 = .ok (.iconst 0, 1) := by decide +kernel
theorem dX5_fill_40 : decode cX5_fill 40 = .ok (.putfield 44, 3) := by decide +kernel
theorem dX5_fill_43 : decode cX5_fill 43 = .ok (.aload_n 0, 1) := by decide +kernel
theorem dX5_fill_44 : decode cX5_fill 44 = .ok (.getfield 44, 3) := by decide +kernel
theorem dX5_fill_47 : decode cX5_fill 47 = .ok (.ifCond .le 5, 3) := by decide +kernel
theorem dX5_fill_50 : decode cX5_fill 50 = .ok (.iconst 0, 1) := by decide +kernel
theorem dX5_fill_51 : decode cX5_fill 51 = .ok (.ireturn, 1) := by decide +kernel
theorem dX5_fill_52 : decode cX5_fill 52 = .ok (.aload_n 0, 1) := by decide +kernel
theorem dX5_fill_53 : decode cX5_fill 53 = .ok (.getfield 37, 3) := by decide +kernel
theorem dX5_fill_56 : decode cX5_fill 56 = .ok (.iload_n 1, 1) := by decide +kernel
theorem dX5_fill_57 : decode cX5_fill 57 = .ok (.iaload, 1) := by decide +kernel
theorem dX5_fill_58 : decode cX5_fill 58 = .ok (.ifCond .lt 12, 3) := by decide +kernel
theorem dX5_fill_61 : decode cX5_fill 61 = .ok (.aload_n 0, 1) := by decide +kernel
theorem dX5_fill_62 : decode cX5_fill 62 = .ok (.getfield 37, 3) := by decide +kernel
theorem dX5_fill_65 : decode cX5_fill 65 = .ok (.iload_n 1, 1) := by decide +kernel
theorem dX5_fill_66 : decode cX5_fill 66 = .ok (.iaload, 1) := by decide +kernel
theorem dX5_fill_67 : decode cX5_fill 67 = .ok (.goto 4, 3) := by decide +kernel
theorem dX5_fill_70 : decode cX5_fill 70 = .ok (.iconst (-1), 1) := by decide +kernel
theorem dX5_fill_71 : decode cX5_fill 71 = .ok (.istore_n 2, 1) := by decide +kernel
theorem dX5_fill_72 : decode cX5_fill 72 = .ok (.iconst 0, 1) := by decide +kernel
theorem dX5_fill_73 : decode cX5_fill 73 = .ok (.istore_n 3, 1) := by decide +kernel
theorem dX5_fill_74 : decode cX5_fill 74 = .ok (.iload_n 3, 1) := by decide +kernel
theorem dX5_fill_75 : decode cX5_fill 75 = .ok (.iconst 3, 1) := by decide +kernel
theorem dX5_fill_76 : decode cX5_fill 76 = .ok (.if_icmp .ge 21, 3) := by decide +kernel
theorem dX5_fill_79 : decode cX5_fill 79 = .ok (.aload_n 0, 1) := by decide +kernel
theorem dX5_fill_80 : decode cX5_fill 80 = .ok (.getfield 37, 3) := by decide +kernel
theorem dX5_fill_83 : decode cX5_fill 83 = .ok (.bipush 120, 2) := by decide +kernel
theorem dX5_fill_85 : decode cX5_fill 85 = .ok (.iload_n 3, 1) := by decide +kernel
theorem dX5_fill_86 : decode cX5_fill 86 = .ok (.imul, 1) := by decide +kernel
theorem dX5_fill_87 : decode cX5_fill 87 = .ok (.iload_n 1, 1) := by decide +kernel
theorem dX5_fill_88 : decode cX5_fill 88 = .ok (.iadd, 1) := by decide +kernel
theorem dX5_fill_89 : decode cX5_fill 89 = .ok (.iload_n 2, 1) := by decide +kernel
theorem dX5_fill_90 : decode cX5_fill 90 = .ok (.iastore, 1) := by decide +kernel
theorem dX5_fill_91 : decode cX5_fill 91 = .ok (.iinc 3 1, 3) := by decide +kernel
theorem dX5_fill_94 : decode cX5_fill 94 = .ok (.goto (-20), 3) := by decide +kernel
theorem dX5_fill_97 : decode cX5_fill 97 = .ok (.iload_n 2, 1) := by decide +kernel
theorem dX5_fill_98 : decode cX5_fill 98 = .ok (.ifCond .lt 7, 3) := by decide +kernel
theorem dX5_fill_101 : decode cX5_fill 101 = .ok (.iconst 1, 1) := by decide +kernel
theorem dX5_fill_102 : decode cX5_fill 102 = .ok (.goto 4, 3) := by decide +kernel
theorem dX5_fill_105 : decode cX5_fill 105 = .ok (.iconst 0, 1) := by decide +kernel
theorem dX5_fill_106 : decode cX5_fill 106 = .ok (.ireturn, 1) := by decide +kernel
theorem dX5_epoch_0 : decode cX5_epoch 0 = .ok (.aload_n 0, 1) := by decide +kernel
theorem dX5_epoch_1 : decode cX5_epoch 1 = .ok (.iconst 0, 1) := by decide +kernel
theorem dX5_epoch_2 : decode cX5_epoch 2 = .ok (.putfield 44, 3) := by decide +kernel
theorem dX5_epoch_5 : decode cX5_epoch 5 = .ok (.aload_n 0, 1) := by decide +kernel
theorem dX5_epoch_6 : decode cX5_epoch 6 = .ok (.getfield 62, 3) := by decide +kernel
theorem dX5_epoch_9 : decode cX5_epoch 9 = .ok (.ireturn, 1) := by decide +kernel
theorem dX5_tail_0 : decode cX5_tail 0 = .ok (.aload_n 0, 1) := by decide +kernel
theorem dX5_tail_1 : decode cX5_tail 1 = .ok (.iconst 0, 1) := by decide +kernel
theorem dX5_tail_2 : decode cX5_tail 2 = .ok (.putfield 44, 3) := by decide +kernel
theorem dX5_tail_5 : decode cX5_tail 5 = .ok (.aload_n 0, 1) := by decide +kernel
theorem dX5_tail_6 : decode cX5_tail 6 = .ok (.getfield 55, 3) := by decide +kernel
theorem dX5_tail_9 : decode cX5_tail 9 = .ok (.ifCond .eq 7, 3) := by decide +kernel
theorem dX5_tail_12 : decode cX5_tail 12 = .ok (.iconst (-1), 1) := by decide +kernel
theorem dX5_tail_13 : decode cX5_tail 13 = .ok (.goto 7, 3) := by decide +kernel
theorem dX5_tail_16 : decode cX5_tail 16 = .ok (.aload_n 0, 1) := by decide +kernel
theorem dX5_tail_17 : decode cX5_tail 17 = .ok (.getfield 59, 3) := by decide +kernel
theorem dX5_tail_20 : decode cX5_tail 20 = .ok (.ireturn, 1) := by decide +kernel
theorem dX5_tokens_0 : decode cX5_tokens 0 = .ok (.aload_n 0, 1) := by decide +kernel
theorem dX5_tokens_1 : decode cX5_tokens 1 = .ok (.iconst 0, 1) := by decide +kernel
theorem dX5_tokens_2 : decode cX5_tokens 2 = .ok (.putfield 44, 3) := by decide +kernel
theorem dX5_tokens_5 : decode cX5_tokens 5 = .ok (.aload_n 0, 1) := by decide +kernel
theorem dX5_tokens_6 : decode cX5_tokens 6 = .ok (.getfield 52, 3) := by decide +kernel
theorem dX5_tokens_9 : decode cX5_tokens 9 = .ok (.ireturn, 1) := by decide +kernel
theorem dX5_positionOf_0 : decode cX5_positionOf 0 = .ok (.aload_n 0, 1) := by decide +kernel
theorem dX5_positionOf_1 : decode cX5_positionOf 1 = .ok (.iconst 0, 1) := by decide +kernel
theorem dX5_positionOf_2 : decode cX5_positionOf 2 = .ok (.putfield 44, 3) := by decide +kernel
theorem dX5_positionOf_5 : decode cX5_positionOf 5 = .ok (.aload_n 0, 1) := by decide +kernel
theorem dX5_positionOf_6 : decode cX5_positionOf 6 = .ok (.iload_n 1, 1) := by decide +kernel
theorem dX5_positionOf_7 : decode cX5_positionOf 7 = .ok (.invokevirtual 88, 3) := by decide +kernel
theorem dX5_positionOf_10 : decode cX5_positionOf 10 = .ok (.ifCond .eq 12, 3) := by decide +kernel
theorem dX5_positionOf_13 : decode cX5_positionOf 13 = .ok (.aload_n 0, 1) := by decide +kernel
theorem dX5_positionOf_14 : decode cX5_positionOf 14 = .ok (.getfield 13, 3) := by decide +kernel
theorem dX5_positionOf_17 : decode cX5_positionOf 17 = .ok (.iload_n 1, 1) := by decide +kernel
theorem dX5_positionOf_18 : decode cX5_positionOf 18 = .ok (.iaload, 1) := by decide +kernel
theorem dX5_positionOf_19 : decode cX5_positionOf 19 = .ok (.goto 8, 3) := by decide +kernel
theorem dX5_positionOf_22 : decode cX5_positionOf 22 = .ok (.aload_n 0, 1) := by decide +kernel
theorem dX5_positionOf_23 : decode cX5_positionOf 23 = .ok (.iconst 1, 1) := by decide +kernel
theorem dX5_positionOf_24 : decode cX5_positionOf 24 = .ok (.invokevirtual 97, 3) := by decide +kernel
theorem dX5_positionOf_27 : decode cX5_positionOf 27 = .ok (.ireturn, 1) := by decide +kernel
theorem dX5_stateOf_0 : decode cX5_stateOf 0 = .ok (.aload_n 0, 1) := by decide +kernel
theorem dX5_stateOf_1 : decode cX5_stateOf 1 = .ok (.iconst 0, 1) := by decide +kernel
theorem dX5_stateOf_2 : decode cX5_stateOf 2 = .ok (.putfield 44, 3) := by decide +kernel
theorem dX5_stateOf_5 : decode cX5_stateOf 5 = .ok (.aload_n 0, 1) := by decide +kernel
theorem dX5_stateOf_6 : decode cX5_stateOf 6 = .ok (.iload_n 1, 1) := by decide +kernel
theorem dX5_stateOf_7 : decode cX5_stateOf 7 = .ok (.invokevirtual 88, 3) := by decide +kernel
theorem dX5_stateOf_10 : decode cX5_stateOf 10 = .ok (.ifCond .eq 12, 3) := by decide +kernel
theorem dX5_stateOf_13 : decode cX5_stateOf 13 = .ok (.aload_n 0, 1) := by decide +kernel
theorem dX5_stateOf_14 : decode cX5_stateOf 14 = .ok (.getfield 31, 3) := by decide +kernel
theorem dX5_stateOf_17 : decode cX5_stateOf 17 = .ok (.iload_n 1, 1) := by decide +kernel
theorem dX5_stateOf_18 : decode cX5_stateOf 18 = .ok (.iaload, 1) := by decide +kernel
theorem dX5_stateOf_19 : decode cX5_stateOf 19 = .ok (.goto 8, 3) := by decide +kernel
theorem dX5_stateOf_22 : decode cX5_stateOf 22 = .ok (.aload_n 0, 1) := by decide +kernel
theorem dX5_stateOf_23 : decode cX5_stateOf 23 = .ok (.iconst 1, 1) := by decide +kernel
theorem dX5_stateOf_24 : decode cX5_stateOf 24 = .ok (.invokevirtual 97, 3) := by decide +kernel
theorem dX5_stateOf_27 : decode cX5_stateOf 27 = .ok (.ireturn, 1) := by decide +kernel
theorem dX5_pointer_0 : decode cX5_pointer 0 = .ok (.aload_n 0, 1) := by decide +kernel
theorem dX5_pointer_1 : decode cX5_pointer 1 = .ok (.iconst 0, 1) := by decide +kernel
theorem dX5_pointer_2 : decode cX5_pointer 2 = .ok (.putfield 44, 3) := by decide +kernel
theorem dX5_pointer_5 : decode cX5_pointer 5 = .ok (.aload_n 0, 1) := by decide +kernel
theorem dX5_pointer_6 : decode cX5_pointer 6 = .ok (.iload_n 1, 1) := by decide +kernel
theorem dX5_pointer_7 : decode cX5_pointer 7 = .ok (.invokevirtual 88, 3) := by decide +kernel
theorem dX5_pointer_10 : decode cX5_pointer 10 = .ok (.ifCond .eq 39, 3) := by decide +kernel
theorem dX5_pointer_13 : decode cX5_pointer 13 = .ok (.iload_n 2, 1) := by decide +kernel
theorem dX5_pointer_14 : decode cX5_pointer 14 = .ok (.iconst 0, 1) := by decide +kernel
theorem dX5_pointer_15 : decode cX5_pointer 15 = .ok (.iconst 3, 1) := by decide +kernel
theorem dX5_pointer_16 : decode cX5_pointer 16 = .ok (.invokestatic 48, 3) := by decide +kernel
theorem dX5_pointer_19 : decode cX5_pointer 19 = .ok (.ifCond .eq 30, 3) := by decide +kernel
theorem dX5_pointer_22 : decode cX5_pointer 22 = .ok (.iload_n 3, 1) := by decide +kernel
theorem dX5_pointer_23 : decode cX5_pointer 23 = .ok (.iconst 0, 1) := by decide +kernel
theorem dX5_pointer_24 : decode cX5_pointer 24 = .ok (.iconst 3, 1) := by decide +kernel
theorem dX5_pointer_25 : decode cX5_pointer 25 = .ok (.invokestatic 48, 3) := by decide +kernel
theorem dX5_pointer_28 : decode cX5_pointer 28 = .ok (.ifCond .eq 21, 3) := by decide +kernel
theorem dX5_pointer_31 : decode cX5_pointer 31 = .ok (.aload_n 0, 1) := by decide +kernel
theorem dX5_pointer_32 : decode cX5_pointer 32 = .ok (.getfield 34, 3) := by decide +kernel
theorem dX5_pointer_35 : decode cX5_pointer 35 = .ok (.bipush 16, 2) := by decide +kernel
theorem dX5_pointer_37 : decode cX5_pointer 37 = .ok (.iload_n 1, 1) := by decide +kernel
theorem dX5_pointer_38 : decode cX5_pointer 38 = .ok (.imul, 1) := by decide +kernel
theorem dX5_pointer_39 : decode cX5_pointer 39 = .ok (.iconst 4, 1) := by decide +kernel
theorem dX5_pointer_40 : decode cX5_pointer 40 = .ok (.iload_n 2, 1) := by decide +kernel
theorem dX5_pointer_41 : decode cX5_pointer 41 = .ok (.imul, 1) := by decide +kernel
theorem dX5_pointer_42 : decode cX5_pointer 42 = .ok (.iadd, 1) := by decide +kernel
theorem dX5_pointer_43 : decode cX5_pointer 43 = .ok (.iload_n 3, 1) := by decide +kernel
theorem dX5_pointer_44 : decode cX5_pointer 44 = .ok (.iadd, 1) := by decide +kernel
theorem dX5_pointer_45 : decode cX5_pointer 45 = .ok (.iaload, 1) := by decide +kernel
theorem dX5_pointer_46 : decode cX5_pointer 46 = .ok (.goto 8, 3) := by decide +kernel
theorem dX5_pointer_49 : decode cX5_pointer 49 = .ok (.aload_n 0, 1) := by decide +kernel
theorem dX5_pointer_50 : decode cX5_pointer 50 = .ok (.iconst 1, 1) := by decide +kernel
theorem dX5_pointer_51 : decode cX5_pointer 51 = .ok (.invokevirtual 97, 3) := by decide +kernel
theorem dX5_pointer_54 : decode cX5_pointer 54 = .ok (.ireturn, 1) := by decide +kernel
theorem dX5_cellAt_0 : decode cX5_cellAt 0 = .ok (.aload_n 0, 1) := by decide +kernel
theorem dX5_cellAt_1 : decode cX5_cellAt 1 = .ok (.iconst 0, 1) := by decide +kernel
theorem dX5_cellAt_2 : decode cX5_cellAt 2 = .ok (.putfield 44, 3) := by decide +kernel
theorem dX5_cellAt_5 : decode cX5_cellAt 5 = .ok (.iload_n 1, 1) := by decide +kernel
theorem dX5_cellAt_6 : decode cX5_cellAt 6 = .ok (.iconst 0, 1) := by decide +kernel
theorem dX5_cellAt_7 : decode cX5_cellAt 7 = .ok (.iconst 2, 1) := by decide +kernel
theorem dX5_cellAt_8 : decode cX5_cellAt 8 = .ok (.invokestatic 48, 3) := by decide +kernel
theorem dX5_cellAt_11 : decode cX5_cellAt 11 = .ok (.ifCond .eq 24, 3) := by decide +kernel
theorem dX5_cellAt_14 : decode cX5_cellAt 14 = .ok (.iload_n 2, 1) := by decide +kernel
theorem dX5_cellAt_15 : decode cX5_cellAt 15 = .ok (.invokestatic 91, 3) := by decide +kernel
theorem dX5_cellAt_18 : decode cX5_cellAt 18 = .ok (.ifCond .eq 17, 3) := by decide +kernel
theorem dX5_cellAt_21 : decode cX5_cellAt 21 = .ok (.aload_n 0, 1) := by decide +kernel
theorem dX5_cellAt_22 : decode cX5_cellAt 22 = .ok (.getfield 37, 3) := by decide +kernel
theorem dX5_cellAt_25 : decode cX5_cellAt 25 = .ok (.bipush 120, 2) := by decide +kernel
theorem dX5_cellAt_27 : decode cX5_cellAt 27 = .ok (.iload_n 1, 1) := by decide +kernel
theorem dX5_cellAt_28 : decode cX5_cellAt 28 = .ok (.imul, 1) := by decide +kernel
theorem dX5_cellAt_29 : decode cX5_cellAt 29 = .ok (.iload_n 2, 1) := by decide +kernel
theorem dX5_cellAt_30 : decode cX5_cellAt 30 = .ok (.iadd, 1) := by decide +kernel
theorem dX5_cellAt_31 : decode cX5_cellAt 31 = .ok (.iaload, 1) := by decide +kernel
theorem dX5_cellAt_32 : decode cX5_cellAt 32 = .ok (.goto 8, 3) := by decide +kernel
theorem dX5_cellAt_35 : decode cX5_cellAt 35 = .ok (.aload_n 0, 1) := by decide +kernel
theorem dX5_cellAt_36 : decode cX5_cellAt 36 = .ok (.iconst 1, 1) := by decide +kernel
theorem dX5_cellAt_37 : decode cX5_cellAt 37 = .ok (.invokevirtual 97, 3) := by decide +kernel
theorem dX5_cellAt_40 : decode cX5_cellAt 40 = .ok (.ireturn, 1) := by decide +kernel
theorem dX5_knownMany_0 : decode cX5_knownMany 0 = .ok (.iconst 0, 1) := by decide +kernel
theorem dX5_knownMany_1 : decode cX5_knownMany 1 = .ok (.istore_n 1, 1) := by decide +kernel
theorem dX5_knownMany_2 : decode cX5_knownMany 2 = .ok (.iload_n 1, 1) := by decide +kernel
theorem dX5_knownMany_3 : decode cX5_knownMany 3 = .ok (.bipush 120, 2) := by decide +kernel
theorem dX5_knownMany_5 : decode cX5_knownMany 5 = .ok (.if_icmp .ge 17, 3) := by decide +kernel
theorem dX5_knownMany_8 : decode cX5_knownMany 8 = .ok (.aload_n 0, 1) := by decide +kernel
theorem dX5_knownMany_9 : decode cX5_knownMany 9 = .ok (.iload_n 1, 1) := by decide +kernel
theorem dX5_knownMany_10 : decode cX5_knownMany 10 = .ok (.invokevirtual 94, 3) := by decide +kernel
theorem dX5_knownMany_13 : decode cX5_knownMany 13 = .ok (.ifCond .eq 9, 3) := by decide +kernel
theorem dX5_knownMany_16 : decode cX5_knownMany 16 = .ok (.iinc 1 1, 3) := by decide +kernel
theorem dX5_knownMany_19 : decode cX5_knownMany 19 = .ok (.goto (-17), 3) := by decide +kernel
theorem dX5_knownMany_22 : decode cX5_knownMany 22 = .ok (.iload_n 1, 1) := by decide +kernel
theorem dX5_knownMany_23 : decode cX5_knownMany 23 = .ok (.ireturn, 1) := by decide +kernel
theorem dX5_known_0 : decode cX5_known 0 = .ok (.aload_n 0, 1) := by decide +kernel
theorem dX5_known_1 : decode cX5_known 1 = .ok (.iconst 0, 1) := by decide +kernel
theorem dX5_known_2 : decode cX5_known 2 = .ok (.putfield 44, 3) := by decide +kernel
theorem dX5_known_5 : decode cX5_known 5 = .ok (.aload_n 0, 1) := by decide +kernel
theorem dX5_known_6 : decode cX5_known 6 = .ok (.invokevirtual 101, 3) := by decide +kernel
theorem dX5_known_9 : decode cX5_known 9 = .ok (.ireturn, 1) := by decide +kernel
theorem dX5_folds_0 : decode cX5_folds 0 = .ok (.aload_n 0, 1) := by decide +kernel
theorem dX5_folds_1 : decode cX5_folds 1 = .ok (.invokevirtual 101, 3) := by decide +kernel
theorem dX5_folds_4 : decode cX5_folds 4 = .ok (.istore_n 1, 1) := by decide +kernel
theorem dX5_folds_5 : decode cX5_folds 5 = .ok (.iconst 0, 1) := by decide +kernel
theorem dX5_folds_6 : decode cX5_folds 6 = .ok (.istore_n 2, 1) := by decide +kernel
theorem dX5_folds_7 : decode cX5_folds 7 = .ok (.iload_n 2, 1) := by decide +kernel
theorem dX5_folds_8 : decode cX5_folds 8 = .ok (.iload_n 1, 1) := by decide +kernel
theorem dX5_folds_9 : decode cX5_folds 9 = .ok (.if_icmp .ge 116, 3) := by decide +kernel
theorem dX5_folds_12 : decode cX5_folds 12 = .ok (.aload_n 0, 1) := by decide +kernel
theorem dX5_folds_13 : decode cX5_folds 13 = .ok (.getfield 37, 3) := by decide +kernel
theorem dX5_folds_16 : decode cX5_folds 16 = .ok (.iload_n 2, 1) := by decide +kernel
theorem dX5_folds_17 : decode cX5_folds 17 = .ok (.iaload, 1) := by decide +kernel
theorem dX5_folds_18 : decode cX5_folds 18 = .ok (.istore_n 3, 1) := by decide +kernel
theorem dX5_folds_19 : decode cX5_folds 19 = .ok (.aload_n 0, 1) := by decide +kernel
theorem dX5_folds_20 : decode cX5_folds 20 = .ok (.getfield 40, 3) := by decide +kernel
theorem dX5_folds_23 : decode cX5_folds 23 = .ok (.iload_n 2, 1) := by decide +kernel
theorem dX5_folds_24 : decode cX5_folds 24 = .ok (.iload_n 3, 1) := by decide +kernel
theorem dX5_folds_25 : decode cX5_folds 25 = .ok (.ifCond .lt 7, 3) := by decide +kernel
theorem dX5_folds_28 : decode cX5_folds 28 = .ok (.iconst 1, 1) := by decide +kernel
theorem dX5_folds_29 : decode cX5_folds 29 = .ok (.goto 4, 3) := by decide +kernel
theorem dX5_folds_32 : decode cX5_folds 32 = .ok (.iconst 0, 1) := by decide +kernel
theorem dX5_folds_33 : decode cX5_folds 33 = .ok (.bastore, 1) := by decide +kernel
theorem dX5_folds_34 : decode cX5_folds 34 = .ok (.iload_n 3, 1) := by decide +kernel
theorem dX5_folds_35 : decode cX5_folds 35 = .ok (.ifCond .lt 84, 3) := by decide +kernel
theorem dX5_folds_38 : decode cX5_folds 38 = .ok (.aload_n 0, 1) := by decide +kernel
theorem dX5_folds_39 : decode cX5_folds 39 = .ok (.getfield 25, 3) := by decide +kernel
theorem dX5_folds_42 : decode cX5_folds 42 = .ok (.iload_n 3, 1) := by decide +kernel
theorem dX5_folds_43 : decode cX5_folds 43 = .ok (.iaload, 1) := by decide +kernel
theorem dX5_folds_44 : decode cX5_folds 44 = .ok (.ifCond .le 75, 3) := by decide +kernel
theorem dX5_folds_47 : decode cX5_folds 47 = .ok (.aload_n 0, 1) := by decide +kernel
theorem dX5_folds_48 : decode cX5_folds 48 = .ok (.getfield 28, 3) := by decide +kernel
theorem dX5_folds_51 : decode cX5_folds 51 = .ok (.iload_n 3, 1) := by decide +kernel
theorem dX5_folds_52 : decode cX5_folds 52 = .ok (.iaload, 1) := by decide +kernel
theorem dX5_folds_53 : decode cX5_folds 53 = .ok (.istore 4, 2) := by decide +kernel
theorem dX5_folds_55 : decode cX5_folds 55 = .ok (.iload 4, 2) := by decide +kernel
theorem dX5_folds_57 : decode cX5_folds 57 = .ok (.iload_n 2, 1) := by decide +kernel
theorem dX5_folds_58 : decode cX5_folds 58 = .ok (.if_icmp .ge 61, 3) := by decide +kernel
theorem dX5_folds_61 : decode cX5_folds 61 = .ok (.aload_n 0, 1) := by decide +kernel
theorem dX5_folds_62 : decode cX5_folds 62 = .ok (.getfield 40, 3) := by decide +kernel
theorem dX5_folds_65 : decode cX5_folds 65 = .ok (.iload_n 2, 1) := by decide +kernel
theorem dX5_folds_66 : decode cX5_folds 66 = .ok (.aload_n 0, 1) := by decide +kernel
theorem dX5_folds_67 : decode cX5_folds 67 = .ok (.getfield 40, 3) := by decide +kernel
theorem dX5_folds_70 : decode cX5_folds 70 = .ok (.iload_n 2, 1) := by decide +kernel
theorem dX5_folds_71 : decode cX5_folds 71 = .ok (.baload, 1) := by decide +kernel
theorem dX5_folds_72 : decode cX5_folds 72 = .ok (.ifCond .eq 39, 3) := by decide +kernel
theorem dX5_folds_75 : decode cX5_folds 75 = .ok (.aload_n 0, 1) := by decide +kernel
theorem dX5_folds_76 : decode cX5_folds 76 = .ok (.getfield 40, 3) := by decide +kernel
theorem dX5_folds_79 : decode cX5_folds 79 = .ok (.iload 4, 2) := by decide +kernel
theorem dX5_folds_81 : decode cX5_folds 81 = .ok (.baload, 1) := by decide +kernel
theorem dX5_folds_82 : decode cX5_folds 82 = .ok (.ifCond .eq 25, 3) := by decide +kernel
theorem dX5_folds_85 : decode cX5_folds 85 = .ok (.aload_n 0, 1) := by decide +kernel
theorem dX5_folds_86 : decode cX5_folds 86 = .ok (.getfield 19, 3) := by decide +kernel
theorem dX5_folds_89 : decode cX5_folds 89 = .ok (.aload_n 0, 1) := by decide +kernel
theorem dX5_folds_90 : decode cX5_folds 90 = .ok (.getfield 37, 3) := by decide +kernel
theorem dX5_folds_93 : decode cX5_folds 93 = .ok (.iload 4, 2) := by decide +kernel
theorem dX5_folds_95 : decode cX5_folds 95 = .ok (.iaload, 1) := by decide +kernel
theorem dX5_folds_96 : decode cX5_folds 96 = .ok (.iaload, 1) := by decide +kernel
theorem dX5_folds_97 : decode cX5_folds 97 = .ok (.aload_n 0, 1) := by decide +kernel
theorem dX5_folds_98 : decode cX5_folds 98 = .ok (.getfield 25, 3) := by decide +kernel
theorem dX5_folds_101 : decode cX5_folds 101 = .ok (.iload_n 3, 1) := by decide +kernel
theorem dX5_folds_102 : decode cX5_folds 102 = .ok (.iaload, 1) := by decide +kernel
theorem dX5_folds_103 : decode cX5_folds 103 = .ok (.iand, 1) := by decide +kernel
theorem dX5_folds_104 : decode cX5_folds 104 = .ok (.ifCond .ne 7, 3) := by decide +kernel
theorem dX5_folds_107 : decode cX5_folds 107 = .ok (.iconst 1, 1) := by decide +kernel
theorem dX5_folds_108 : decode cX5_folds 108 = .ok (.goto 4, 3) := by decide +kernel
theorem dX5_folds_111 : decode cX5_folds 111 = .ok (.iconst 0, 1) := by decide +kernel
theorem dX5_folds_112 : decode cX5_folds 112 = .ok (.bastore, 1) := by decide +kernel
theorem dX5_folds_113 : decode cX5_folds 113 = .ok (.iinc 4 1, 3) := by decide +kernel
theorem dX5_folds_116 : decode cX5_folds 116 = .ok (.goto (-61), 3) := by decide +kernel
theorem dX5_folds_119 : decode cX5_folds 119 = .ok (.iinc 2 1, 3) := by decide +kernel
theorem dX5_folds_122 : decode cX5_folds 122 = .ok (.goto (-115), 3) := by decide +kernel
theorem dX5_folds_125 : decode cX5_folds 125 = .ok (.return_, 1) := by decide +kernel
theorem dX5_takesEffect_0 : decode cX5_takesEffect 0 = .ok (.aload_n 0, 1) := by decide +kernel
theorem dX5_takesEffect_1 : decode cX5_takesEffect 1 = .ok (.iload_n 1, 1) := by decide +kernel
theorem dX5_takesEffect_2 : decode cX5_takesEffect 2 = .ok (.iconst 0, 1) := by decide +kernel
theorem dX5_takesEffect_3 : decode cX5_takesEffect 3 = .ok (.aload_n 0, 1) := by decide +kernel
theorem dX5_takesEffect_4 : decode cX5_takesEffect 4 = .ok (.invokevirtual 101, 3) := by decide +kernel
theorem dX5_takesEffect_7 : decode cX5_takesEffect 7 = .ok (.iconst 1, 1) := by decide +kernel
theorem dX5_takesEffect_8 : decode cX5_takesEffect 8 = .ok (.isub, 1) := by decide +kernel
theorem dX5_takesEffect_9 : decode cX5_takesEffect 9 = .ok (.invokestatic 48, 3) := by decide +kernel
theorem dX5_takesEffect_12 : decode cX5_takesEffect 12 = .ok (.ifCond .eq 7, 3) := by decide +kernel
theorem dX5_takesEffect_15 : decode cX5_takesEffect 15 = .ok (.iconst 0, 1) := by decide +kernel
theorem dX5_takesEffect_16 : decode cX5_takesEffect 16 = .ok (.goto 4, 3) := by decide +kernel
theorem dX5_takesEffect_19 : decode cX5_takesEffect 19 = .ok (.iconst 1, 1) := by decide +kernel
theorem dX5_takesEffect_20 : decode cX5_takesEffect 20 = .ok (.putfield 44, 3) := by decide +kernel
theorem dX5_takesEffect_23 : decode cX5_takesEffect 23 = .ok (.aload_n 0, 1) := by decide +kernel
theorem dX5_takesEffect_24 : decode cX5_takesEffect 24 = .ok (.invokevirtual 105, 3) := by decide +kernel
theorem dX5_takesEffect_27 : decode cX5_takesEffect 27 = .ok (.aload_n 0, 1) := by decide +kernel
theorem dX5_takesEffect_28 : decode cX5_takesEffect 28 = .ok (.getfield 44, 3) := by decide +kernel
theorem dX5_takesEffect_31 : decode cX5_takesEffect 31 = .ok (.ifCond .ne 16, 3) := by decide +kernel
theorem dX5_takesEffect_34 : decode cX5_takesEffect 34 = .ok (.aload_n 0, 1) := by decide +kernel
theorem dX5_takesEffect_35 : decode cX5_takesEffect 35 = .ok (.getfield 40, 3) := by decide +kernel
theorem dX5_takesEffect_38 : decode cX5_takesEffect 38 = .ok (.iload_n 1, 1) := by decide +kernel
theorem dX5_takesEffect_39 : decode cX5_takesEffect 39 = .ok (.baload, 1) := by decide +kernel
theorem dX5_takesEffect_40 : decode cX5_takesEffect 40 = .ok (.ifCond .eq 7, 3) := by decide +kernel
theorem dX5_takesEffect_43 : decode cX5_takesEffect 43 = .ok (.iconst 1, 1) := by decide +kernel
theorem dX5_takesEffect_44 : decode cX5_takesEffect 44 = .ok (.goto 4, 3) := by decide +kernel
theorem dX5_takesEffect_47 : decode cX5_takesEffect 47 = .ok (.iconst 0, 1) := by decide +kernel
theorem dX5_takesEffect_48 : decode cX5_takesEffect 48 = .ok (.ireturn, 1) := by decide +kernel
theorem dX5_isAsked_0 : decode cX5_isAsked 0 = .ok (.aload_n 0, 1) := by decide +kernel
theorem dX5_isAsked_1 : decode cX5_isAsked 1 = .ok (.iload_n 1, 1) := by decide +kernel
theorem dX5_isAsked_2 : decode cX5_isAsked 2 = .ok (.iconst 0, 1) := by decide +kernel
theorem dX5_isAsked_3 : decode cX5_isAsked 3 = .ok (.iconst 3, 1) := by decide +kernel
theorem dX5_isAsked_4 : decode cX5_isAsked 4 = .ok (.invokestatic 48, 3) := by decide +kernel
theorem dX5_isAsked_7 : decode cX5_isAsked 7 = .ok (.ifCond .eq 19, 3) := by decide +kernel
theorem dX5_isAsked_10 : decode cX5_isAsked 10 = .ok (.iload_n 2, 1) := by decide +kernel
theorem dX5_isAsked_11 : decode cX5_isAsked 11 = .ok (.iconst 0, 1) := by decide +kernel
theorem dX5_isAsked_12 : decode cX5_isAsked 12 = .ok (.aload_n 0, 1) := by decide +kernel
theorem dX5_isAsked_13 : decode cX5_isAsked 13 = .ok (.invokevirtual 101, 3) := by decide +kernel
theorem dX5_isAsked_16 : decode cX5_isAsked 16 = .ok (.invokestatic 48, 3) := by decide +kernel
theorem dX5_isAsked_19 : decode cX5_isAsked 19 = .ok (.ifCond .eq 7, 3) := by decide +kernel
theorem dX5_isAsked_22 : decode cX5_isAsked 22 = .ok (.iconst 0, 1) := by decide +kernel
theorem dX5_isAsked_23 : decode cX5_isAsked 23 = .ok (.goto 4, 3) := by decide +kernel
theorem dX5_isAsked_26 : decode cX5_isAsked 26 = .ok (.iconst 1, 1) := by decide +kernel
theorem dX5_isAsked_27 : decode cX5_isAsked 27 = .ok (.putfield 44, 3) := by decide +kernel
theorem dX5_isAsked_30 : decode cX5_isAsked 30 = .ok (.aload_n 0, 1) := by decide +kernel
theorem dX5_isAsked_31 : decode cX5_isAsked 31 = .ok (.getfield 44, 3) := by decide +kernel
theorem dX5_isAsked_34 : decode cX5_isAsked 34 = .ok (.ifCond .ne 7, 3) := by decide +kernel
theorem dX5_isAsked_37 : decode cX5_isAsked 37 = .ok (.iconst 1, 1) := by decide +kernel
theorem dX5_isAsked_38 : decode cX5_isAsked 38 = .ok (.goto 4, 3) := by decide +kernel
theorem dX5_isAsked_41 : decode cX5_isAsked 41 = .ok (.iconst 0, 1) := by decide +kernel
theorem dX5_isAsked_42 : decode cX5_isAsked 42 = .ok (.ireturn, 1) := by decide +kernel
theorem dX5_folded_0 : decode cX5_folded 0 = .ok (.aload_n 0, 1) := by decide +kernel
theorem dX5_folded_1 : decode cX5_folded 1 = .ok (.invokevirtual 105, 3) := by decide +kernel
theorem dX5_folded_4 : decode cX5_folded 4 = .ok (.iconst 0, 1) := by decide +kernel
theorem dX5_folded_5 : decode cX5_folded 5 = .ok (.istore_n 3, 1) := by decide +kernel
theorem dX5_folded_6 : decode cX5_folded 6 = .ok (.iconst 0, 1) := by decide +kernel
theorem dX5_folded_7 : decode cX5_folded 7 = .ok (.istore 4, 2) := by decide +kernel
theorem dX5_folded_9 : decode cX5_folded 9 = .ok (.iload 4, 2) := by decide +kernel
theorem dX5_folded_11 : decode cX5_folded 11 = .ok (.iload_n 2, 1) := by decide +kernel
theorem dX5_folded_12 : decode cX5_folded 12 = .ok (.if_icmp .ge 53, 3) := by decide +kernel
theorem dX5_folded_15 : decode cX5_folded 15 = .ok (.iload_n 3, 1) := by decide +kernel
theorem dX5_folded_16 : decode cX5_folded 16 = .ok (.aload_n 0, 1) := by decide +kernel
theorem dX5_folded_17 : decode cX5_folded 17 = .ok (.getfield 40, 3) := by decide +kernel
theorem dX5_folded_20 : decode cX5_folded 20 = .ok (.iload 4, 2) := by decide +kernel
theorem dX5_folded_22 : decode cX5_folded 22 = .ok (.baload, 1) := by decide +kernel
theorem dX5_folded_23 : decode cX5_folded 23 = .ok (.ifCond .eq 33, 3) := by decide +kernel
theorem dX5_folded_26 : decode cX5_folded 26 = .ok (.aload_n 0, 1) := by decide +kernel
theorem dX5_folded_27 : decode cX5_folded 27 = .ok (.aload_n 0, 1) := by decide +kernel
theorem dX5_folded_28 : decode cX5_folded 28 = .ok (.getfield 37, 3) := by decide +kernel
theorem dX5_folded_31 : decode cX5_folded 31 = .ok (.iload 4, 2) := by decide +kernel
theorem dX5_folded_33 : decode cX5_folded 33 = .ok (.iaload, 1) := by decide +kernel
theorem dX5_folded_34 : decode cX5_folded 34 = .ok (.iload_n 1, 1) := by decide +kernel
theorem dX5_folded_35 : decode cX5_folded 35 = .ok (.invokevirtual 84, 3) := by decide +kernel
theorem dX5_folded_38 : decode cX5_folded 38 = .ok (.ifCond .eq 18, 3) := by decide +kernel
theorem dX5_folded_41 : decode cX5_folded 41 = .ok (.aload_n 0, 1) := by decide +kernel
theorem dX5_folded_42 : decode cX5_folded 42 = .ok (.getfield 22, 3) := by decide +kernel
theorem dX5_folded_45 : decode cX5_folded 45 = .ok (.aload_n 0, 1) := by decide +kernel
theorem dX5_folded_46 : decode cX5_folded 46 = .ok (.getfield 37, 3) := by decide +kernel
theorem dX5_folded_49 : decode cX5_folded 49 = .ok (.iload 4, 2) := by decide +kernel
theorem dX5_folded_51 : decode cX5_folded 51 = .ok (.iaload, 1) := by decide +kernel
theorem dX5_folded_52 : decode cX5_folded 52 = .ok (.iaload, 1) := by decide +kernel
theorem dX5_folded_53 : decode cX5_folded 53 = .ok (.goto 4, 3) := by decide +kernel
theorem dX5_folded_56 : decode cX5_folded 56 = .ok (.iconst 0, 1) := by decide +kernel
theorem dX5_folded_57 : decode cX5_folded 57 = .ok (.iadd, 1) := by decide +kernel
theorem dX5_folded_58 : decode cX5_folded 58 = .ok (.istore_n 3, 1) := by decide +kernel
theorem dX5_folded_59 : decode cX5_folded 59 = .ok (.iinc 4 1, 3) := by decide +kernel
theorem dX5_folded_62 : decode cX5_folded 62 = .ok (.goto (-53), 3) := by decide +kernel
theorem dX5_folded_65 : decode cX5_folded 65 = .ok (.iload_n 3, 1) := by decide +kernel
theorem dX5_folded_66 : decode cX5_folded 66 = .ok (.ireturn, 1) := by decide +kernel
theorem dX5_value_0 : decode cX5_value 0 = .ok (.aload_n 0, 1) := by decide +kernel
theorem dX5_value_1 : decode cX5_value 1 = .ok (.iload_n 1, 1) := by decide +kernel
theorem dX5_value_2 : decode cX5_value 2 = .ok (.iload_n 2, 1) := by decide +kernel
theorem dX5_value_3 : decode cX5_value 3 = .ok (.invokevirtual 108, 3) := by decide +kernel
theorem dX5_value_6 : decode cX5_value 6 = .ok (.ifCond .eq 12, 3) := by decide +kernel
theorem dX5_value_9 : decode cX5_value 9 = .ok (.aload_n 0, 1) := by decide +kernel
theorem dX5_value_10 : decode cX5_value 10 = .ok (.iload_n 1, 1) := by decide +kernel
theorem dX5_value_11 : decode cX5_value 11 = .ok (.iload_n 2, 1) := by decide +kernel
theorem dX5_value_12 : decode cX5_value 12 = .ok (.invokevirtual 111, 3) := by decide +kernel
theorem dX5_value_15 : decode cX5_value 15 = .ok (.goto 4, 3) := by decide +kernel
theorem dX5_value_18 : decode cX5_value 18 = .ok (.iconst 0, 1) := by decide +kernel
theorem dX5_value_19 : decode cX5_value 19 = .ok (.ireturn, 1) := by decide +kernel
theorem dX5_valueByPointers_0 : decode cX5_valueByPointers 0 = .ok (.aload_n 0, 1) := by decide +kernel
theorem dX5_valueByPointers_1 : decode cX5_valueByPointers 1 = .ok (.iload_n 1, 1) := by decide +kernel
theorem dX5_valueByPointers_2 : decode cX5_valueByPointers 2 = .ok (.iload_n 2, 1) := by decide +kernel
theorem dX5_valueByPointers_3 : decode cX5_valueByPointers 3 = .ok (.invokevirtual 108, 3) := by decide +kernel
theorem dX5_valueByPointers_6 : decode cX5_valueByPointers 6 = .ok (.ifCond .eq 12, 3) := by decide +kernel
theorem dX5_valueByPointers_9 : decode cX5_valueByPointers 9 = .ok (.aload_n 0, 1) := by decide +kernel
theorem dX5_valueByPointers_10 : decode cX5_valueByPointers 10 = .ok (.iload_n 1, 1) := by decide +kernel
theorem dX5_valueByPointers_11 : decode cX5_valueByPointers 11 = .ok (.iload_n 2, 1) := by decide +kernel
theorem dX5_valueByPointers_12 : decode cX5_valueByPointers 12 = .ok (.invokevirtual 111, 3) := by decide +kernel
theorem dX5_valueByPointers_15 : decode cX5_valueByPointers 15 = .ok (.goto 4, 3) := by decide +kernel
theorem dX5_valueByPointers_18 : decode cX5_valueByPointers 18 = .ok (.iconst 0, 1) := by decide +kernel
theorem dX5_valueByPointers_19 : decode cX5_valueByPointers 19 = .ok (.ireturn, 1) := by decide +kernel
theorem dX5_latest_0 : decode cX5_latest 0 = .ok (.iconst (-1), 1) := by decide +kernel
theorem dX5_latest_1 : decode cX5_latest 1 = .ok (.istore_n 3, 1) := by decide +kernel
theorem dX5_latest_2 : decode cX5_latest 2 = .ok (.aload_n 0, 1) := by decide +kernel
theorem dX5_latest_3 : decode cX5_latest 3 = .ok (.iload_n 1, 1) := by decide +kernel
theorem dX5_latest_4 : decode cX5_latest 4 = .ok (.iload_n 2, 1) := by decide +kernel
theorem dX5_latest_5 : decode cX5_latest 5 = .ok (.invokevirtual 108, 3) := by decide +kernel
theorem dX5_latest_8 : decode cX5_latest 8 = .ok (.istore 4, 2) := by decide +kernel
theorem dX5_latest_10 : decode cX5_latest 10 = .ok (.iconst 0, 1) := by decide +kernel
theorem dX5_latest_11 : decode cX5_latest 11 = .ok (.istore 5, 2) := by decide +kernel
theorem dX5_latest_13 : decode cX5_latest 13 = .ok (.iload 4, 2) := by decide +kernel
theorem dX5_latest_15 : decode cX5_latest 15 = .ok (.ifCond .eq 37, 3) := by decide +kernel
theorem dX5_latest_18 : decode cX5_latest 18 = .ok (.iload 5, 2) := by decide +kernel
theorem dX5_latest_20 : decode cX5_latest 20 = .ok (.iload_n 2, 1) := by decide +kernel
theorem dX5_latest_21 : decode cX5_latest 21 = .ok (.if_icmp .ge 31, 3) := by decide +kernel
theorem dX5_latest_24 : decode cX5_latest 24 = .ok (.aload_n 0, 1) := by decide +kernel
theorem dX5_latest_25 : decode cX5_latest 25 = .ok (.aload_n 0, 1) := by decide +kernel
theorem dX5_latest_26 : decode cX5_latest 26 = .ok (.getfield 37, 3) := by decide +kernel
theorem dX5_latest_29 : decode cX5_latest 29 = .ok (.iload 5, 2) := by decide +kernel
theorem dX5_latest_31 : decode cX5_latest 31 = .ok (.iaload, 1) := by decide +kernel
theorem dX5_latest_32 : decode cX5_latest 32 = .ok (.iload_n 1, 1) := by decide +kernel
theorem dX5_latest_33 : decode cX5_latest 33 = .ok (.invokevirtual 84, 3) := by decide +kernel
theorem dX5_latest_36 : decode cX5_latest 36 = .ok (.ifCond .eq 8, 3) := by decide +kernel
theorem dX5_latest_39 : decode cX5_latest 39 = .ok (.iload 5, 2) := by decide +kernel
theorem dX5_latest_41 : decode cX5_latest 41 = .ok (.goto 4, 3) := by decide +kernel
theorem dX5_latest_44 : decode cX5_latest 44 = .ok (.iload_n 3, 1) := by decide +kernel
theorem dX5_latest_45 : decode cX5_latest 45 = .ok (.istore_n 3, 1) := by decide +kernel
theorem dX5_latest_46 : decode cX5_latest 46 = .ok (.iinc 5 1, 3) := by decide +kernel
theorem dX5_latest_49 : decode cX5_latest 49 = .ok (.goto (-36), 3) := by decide +kernel
theorem dX5_latest_52 : decode cX5_latest 52 = .ok (.iload 4, 2) := by decide +kernel
theorem dX5_latest_54 : decode cX5_latest 54 = .ok (.ifCond .eq 7, 3) := by decide +kernel
theorem dX5_latest_57 : decode cX5_latest 57 = .ok (.iload_n 3, 1) := by decide +kernel
theorem dX5_latest_58 : decode cX5_latest 58 = .ok (.goto 4, 3) := by decide +kernel
theorem dX5_latest_61 : decode cX5_latest 61 = .ok (.iconst 0, 1) := by decide +kernel
theorem dX5_latest_62 : decode cX5_latest 62 = .ok (.ireturn, 1) := by decide +kernel
