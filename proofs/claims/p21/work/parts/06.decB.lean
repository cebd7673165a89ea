theorem dX4_init_0 : decode cX4_init 0 = .ok (.aload_n 0, 1) := by decide +kernel
theorem dX4_init_1 : decode cX4_init 1 = .ok (.invokespecial 1, 3) := by decide +kernel
theorem dX4_init_4 : decode cX4_init 4 = .ok (.aload_n 0, 1) := by decide +kernel
theorem dX4_init_5 : decode cX4_init 5 = .ok (.sipush 150, 3) := by decide +kernel
theorem dX4_init_8 : decode cX4_init 8 = .ok (.anewarray 9, 3) := by decide +kernel
theorem dX4_init_11 : decode cX4_init 11 = .ok (.putfield 11, 3) := by decide +kernel
theorem dX4_init_14 : decode cX4_init 14 = .ok (.aload_n 0, 1) := by decide +kernel
theorem dX4_init_15 : decode cX4_init 15 = .ok (.new 15, 3) := by decide +kernel
theorem dX4_init_18 : decode cX4_init 18 = .ok (.dup, 1) := by decide +kernel
theorem dX4_init_19 : decode cX4_init 19 = .ok (.invokespecial 17, 3) := by decide +kernel
theorem dX4_init_22 : decode cX4_init 22 = .ok (.putfield 18, 3) := by decide +kernel
theorem dX4_init_25 : decode cX4_init 25 = .ok (.aload_n 0, 1) := by decide +kernel
theorem dX4_init_26 : decode cX4_init 26 = .ok (.new 22, 3) := by decide +kernel
theorem dX4_init_29 : decode cX4_init 29 = .ok (.dup, 1) := by decide +kernel
theorem dX4_init_30 : decode cX4_init 30 = .ok (.invokespecial 24, 3) := by decide +kernel
theorem dX4_init_33 : decode cX4_init 33 = .ok (.putfield 25, 3) := by decide +kernel
theorem dX4_init_36 : decode cX4_init 36 = .ok (.aload_n 0, 1) := by decide +kernel
theorem dX4_init_37 : decode cX4_init 37 = .ok (.new 29, 3) := by decide +kernel
theorem dX4_init_40 : decode cX4_init 40 = .ok (.dup, 1) := by decide +kernel
theorem dX4_init_41 : decode cX4_init 41 = .ok (.invokespecial 31, 3) := by decide +kernel
theorem dX4_init_44 : decode cX4_init 44 = .ok (.putfield 32, 3) := by decide +kernel
theorem dX4_init_47 : decode cX4_init 47 = .ok (.aload_n 0, 1) := by decide +kernel
theorem dX4_init_48 : decode cX4_init 48 = .ok (.iconst 0, 1) := by decide +kernel
theorem dX4_init_49 : decode cX4_init 49 = .ok (.putfield 36, 3) := by decide +kernel
theorem dX4_init_52 : decode cX4_init 52 = .ok (.aload_n 0, 1) := by decide +kernel
theorem dX4_init_53 : decode cX4_init 53 = .ok (.iconst 0, 1) := by decide +kernel
theorem dX4_init_54 : decode cX4_init 54 = .ok (.putfield 40, 3) := by decide +kernel
theorem dX4_init_57 : decode cX4_init 57 = .ok (.aload_n 0, 1) := by decide +kernel
theorem dX4_init_58 : decode cX4_init 58 = .ok (.iconst 0, 1) := by decide +kernel
theorem dX4_init_59 : decode cX4_init 59 = .ok (.putfield 43, 3) := by decide +kernel
theorem dX4_init_62 : decode cX4_init 62 = .ok (.aload_n 0, 1) := by decide +kernel
theorem dX4_init_63 : decode cX4_init 63 = .ok (.iconst 0, 1) := by decide +kernel
theorem dX4_init_64 : decode cX4_init 64 = .ok (.putfield 46, 3) := by decide +kernel
theorem dX4_init_67 : decode cX4_init 67 = .ok (.return_, 1) := by decide +kernel
theorem dX4_take_0 : decode cX4_take 0 = .ok (.iload_n 1, 1) := by decide +kernel
theorem dX4_take_1 : decode cX4_take 1 = .ok (.invokestatic 50, 3) := by decide +kernel
theorem dX4_take_4 : decode cX4_take 4 = .ok (.ifCond .eq 10, 3) := by decide +kernel
theorem dX4_take_7 : decode cX4_take 7 = .ok (.iload_n 2, 1) := by decide +kernel
theorem dX4_take_8 : decode cX4_take 8 = .ok (.invokestatic 54, 3) := by decide +kernel
theorem dX4_take_11 : decode cX4_take 11 = .ok (.ifCond .ne 13, 3) := by decide +kernel
theorem dX4_take_14 : decode cX4_take 14 = .ok (.new 57, 3) := by decide +kernel
theorem dX4_take_17 : decode cX4_take 17 = .ok (.dup, 1) := by decide +kernel
theorem dX4_take_18 : decode cX4_take 18 = .ok (.ldc 59, 2) := by decide +kernel
theorem dX4_take_20 : decode cX4_take 20 = .ok (.invokespecial 61, 3) := by decide +kernel
theorem dX4_take_23 : decode cX4_take 23 = .ok (.athrow, 1) := by decide +kernel
theorem dX4_take_24 : decode cX4_take 24 = .ok (.aload_n 0, 1) := by decide +kernel
theorem dX4_take_25 : decode cX4_take 25 = .ok (.iload_n 1, 1) := by decide +kernel
theorem dX4_take_26 : decode cX4_take 26 = .ok (.iload_n 2, 1) := by decide +kernel
theorem dX4_take_27 : decode cX4_take 27 = .ok (.iconst 0, 1) := by decide +kernel
theorem dX4_take_28 : decode cX4_take 28 = .ok (.iconst 0, 1) := by decide +kernel
theorem dX4_take_29 : decode cX4_take 29 = .ok (.invokevirtual 64, 3) := by decide +kernel
theorem dX4_take_32 : decode cX4_take 32 = .ok (.ireturn, 1) := by decide +kernel
theorem dX4_takeIf_0 : decode cX4_takeIf 0 = .ok (.iload_n 1, 1) := by decide +kernel
theorem dX4_takeIf_1 : decode cX4_takeIf 1 = .ok (.invokestatic 50, 3) := by decide +kernel
theorem dX4_takeIf_4 : decode cX4_takeIf 4 = .ok (.ifCond .eq 17, 3) := by decide +kernel
theorem dX4_takeIf_7 : decode cX4_takeIf 7 = .ok (.iload_n 2, 1) := by decide +kernel
theorem dX4_takeIf_8 : decode cX4_takeIf 8 = .ok (.invokestatic 54, 3) := by decide +kernel
theorem dX4_takeIf_11 : decode cX4_takeIf 11 = .ok (.ifCond .eq 10, 3) := by decide +kernel
theorem dX4_takeIf_14 : decode cX4_takeIf 14 = .ok (.iload_n 3, 1) := by decide +kernel
theorem dX4_takeIf_15 : decode cX4_takeIf 15 = .ok (.invokestatic 50, 3) := by decide +kernel
theorem dX4_takeIf_18 : decode cX4_takeIf 18 = .ok (.ifCond .ne 13, 3) := by decide +kernel
theorem dX4_takeIf_21 : decode cX4_takeIf 21 = .ok (.new 57, 3) := by decide +kernel
theorem dX4_takeIf_24 : decode cX4_takeIf 24 = .ok (.dup, 1) := by decide +kernel
theorem dX4_takeIf_25 : decode cX4_takeIf 25 = .ok (.ldc 68, 2) := by decide +kernel
theorem dX4_takeIf_27 : decode cX4_takeIf 27 = .ok (.invokespecial 61, 3) := by decide +kernel
theorem dX4_takeIf_30 : decode cX4_takeIf 30 = .ok (.athrow, 1) := by decide +kernel
theorem dX4_takeIf_31 : decode cX4_takeIf 31 = .ok (.aload_n 0, 1) := by decide +kernel
theorem dX4_takeIf_32 : decode cX4_takeIf 32 = .ok (.getfield 46, 3) := by decide +kernel
theorem dX4_takeIf_35 : decode cX4_takeIf 35 = .ok (.ifCond .ne 27, 3) := by decide +kernel
theorem dX4_takeIf_38 : decode cX4_takeIf 38 = .ok (.iload 4, 2) := by decide +kernel
theorem dX4_takeIf_40 : decode cX4_takeIf 40 = .ok (.ifCond .lt 12, 3) := by decide +kernel
theorem dX4_takeIf_43 : decode cX4_takeIf 43 = .ok (.iload 4, 2) := by decide +kernel
theorem dX4_takeIf_45 : decode cX4_takeIf 45 = .ok (.aload_n 0, 1) := by decide +kernel
theorem dX4_takeIf_46 : decode cX4_takeIf 46 = .ok (.getfield 43, 3) := by decide +kernel
theorem dX4_takeIf_49 : decode cX4_takeIf 49 = .ok (.if_icmp .le 13, 3) := by decide +kernel
theorem dX4_takeIf_52 : decode cX4_takeIf 52 = .ok (.new 57, 3) := by decide +kernel
theorem dX4_takeIf_55 : decode cX4_takeIf 55 = .ok (.dup, 1) := by decide +kernel
theorem dX4_takeIf_56 : decode cX4_takeIf 56 = .ok (.ldc 70, 2) := by decide +kernel
theorem dX4_takeIf_58 : decode cX4_takeIf 58 = .ok (.invokespecial 61, 3) := by decide +kernel
theorem dX4_takeIf_61 : decode cX4_takeIf 61 = .ok (.athrow, 1) := by decide +kernel
theorem dX4_takeIf_62 : decode cX4_takeIf 62 = .ok (.aload_n 0, 1) := by decide +kernel
theorem dX4_takeIf_63 : decode cX4_takeIf 63 = .ok (.iload_n 1, 1) := by decide +kernel
theorem dX4_takeIf_64 : decode cX4_takeIf 64 = .ok (.iload_n 2, 1) := by decide +kernel
theorem dX4_takeIf_65 : decode cX4_takeIf 65 = .ok (.iload_n 3, 1) := by decide +kernel
theorem dX4_takeIf_66 : decode cX4_takeIf 66 = .ok (.iload 4, 2) := by decide +kernel
theorem dX4_takeIf_68 : decode cX4_takeIf 68 = .ok (.invokevirtual 64, 3) := by decide +kernel
theorem dX4_takeIf_71 : decode cX4_takeIf 71 = .ok (.ireturn, 1) := by decide +kernel
theorem dX4_lose_0 : decode cX4_lose 0 = .ok (.aload_n 0, 1) := by decide +kernel
theorem dX4_lose_1 : decode cX4_lose 1 = .ok (.getfield 46, 3) := by decide +kernel
theorem dX4_lose_4 : decode cX4_lose 4 = .ok (.ifCond .eq 13, 3) := by decide +kernel
theorem dX4_lose_7 : decode cX4_lose 7 = .ok (.new 72, 3) := by decide +kernel
theorem dX4_lose_10 : decode cX4_lose 10 = .ok (.dup, 1) := by decide +kernel
theorem dX4_lose_11 : decode cX4_lose 11 = .ok (.ldc 74, 2) := by decide +kernel
theorem dX4_lose_13 : decode cX4_lose 13 = .ok (.invokespecial 76, 3) := by decide +kernel
theorem dX4_lose_16 : decode cX4_lose 16 = .ok (.athrow, 1) := by decide +kernel
theorem dX4_lose_17 : decode cX4_lose 17 = .ok (.aload_n 0, 1) := by decide +kernel
theorem dX4_lose_18 : decode cX4_lose 18 = .ok (.iconst 1, 1) := by decide +kernel
theorem dX4_lose_19 : decode cX4_lose 19 = .ok (.putfield 46, 3) := by decide +kernel
theorem dX4_lose_22 : decode cX4_lose 22 = .ok (.aload_n 0, 1) := by decide +kernel
theorem dX4_lose_23 : decode cX4_lose 23 = .ok (.getfield 43, 3) := by decide +kernel
theorem dX4_lose_26 : decode cX4_lose 26 = .ok (.ireturn, 1) := by decide +kernel
theorem dX4_seal_0 : decode cX4_seal 0 = .ok (.aload_n 0, 1) := by decide +kernel
theorem dX4_seal_1 : decode cX4_seal 1 = .ok (.dup, 1) := by decide +kernel
theorem dX4_seal_2 : decode cX4_seal 2 = .ok (.getfield 40, 3) := by decide +kernel
theorem dX4_seal_5 : decode cX4_seal 5 = .ok (.iconst 1, 1) := by decide +kernel
theorem dX4_seal_6 : decode cX4_seal 6 = .ok (.iadd, 1) := by decide +kernel
theorem dX4_seal_7 : decode cX4_seal 7 = .ok (.putfield 40, 3) := by decide +kernel
theorem dX4_seal_10 : decode cX4_seal 10 = .ok (.aload_n 0, 1) := by decide +kernel
theorem dX4_seal_11 : decode cX4_seal 11 = .ok (.aload_n 0, 1) := by decide +kernel
theorem dX4_seal_12 : decode cX4_seal 12 = .ok (.getfield 18, 3) := by decide +kernel
theorem dX4_seal_15 : decode cX4_seal 15 = .ok (.invokevirtual 77, 3) := by decide +kernel
theorem dX4_seal_18 : decode cX4_seal 18 = .ok (.putfield 43, 3) := by decide +kernel
theorem dX4_seal_21 : decode cX4_seal 21 = .ok (.aload_n 0, 1) := by decide +kernel
theorem dX4_seal_22 : decode cX4_seal 22 = .ok (.iconst 0, 1) := by decide +kernel
theorem dX4_seal_23 : decode cX4_seal 23 = .ok (.putfield 46, 3) := by decide +kernel
theorem dX4_seal_26 : decode cX4_seal 26 = .ok (.aload_n 0, 1) := by decide +kernel
theorem dX4_seal_27 : decode cX4_seal 27 = .ok (.getfield 25, 3) := by decide +kernel
theorem dX4_seal_30 : decode cX4_seal 30 = .ok (.invokevirtual 81, 3) := by decide +kernel
theorem dX4_seal_33 : decode cX4_seal 33 = .ok (.iconst 0, 1) := by decide +kernel
theorem dX4_seal_34 : decode cX4_seal 34 = .ok (.istore_n 1, 1) := by decide +kernel
theorem dX4_seal_35 : decode cX4_seal 35 = .ok (.iload_n 1, 1) := by decide +kernel
theorem dX4_seal_36 : decode cX4_seal 36 = .ok (.aload_n 0, 1) := by decide +kernel
theorem dX4_seal_37 : decode cX4_seal 37 = .ok (.getfield 43, 3) := by decide +kernel
theorem dX4_seal_40 : decode cX4_seal 40 = .ok (.if_icmp .ge 31, 3) := by decide +kernel
theorem dX4_seal_43 : decode cX4_seal 43 = .ok (.aload_n 0, 1) := by decide +kernel
theorem dX4_seal_44 : decode cX4_seal 44 = .ok (.iload_n 1, 1) := by decide +kernel
theorem dX4_seal_45 : decode cX4_seal 45 = .ok (.invokevirtual 84, 3) := by decide +kernel
theorem dX4_seal_48 : decode cX4_seal 48 = .ok (.astore_n 2, 1) := by decide +kernel
theorem dX4_seal_49 : decode cX4_seal 49 = .ok (.aload_n 2, 1) := by decide +kernel
theorem dX4_seal_50 : decode cX4_seal 50 = .ok (.ifnull 15, 3) := by decide +kernel
theorem dX4_seal_53 : decode cX4_seal 53 = .ok (.aload_n 0, 1) := by decide +kernel
theorem dX4_seal_54 : decode cX4_seal 54 = .ok (.getfield 25, 3) := by decide +kernel
theorem dX4_seal_57 : decode cX4_seal 57 = .ok (.aload_n 2, 1) := by decide +kernel
theorem dX4_seal_58 : decode cX4_seal 58 = .ok (.getfield 88, 3) := by decide +kernel
theorem dX4_seal_61 : decode cX4_seal 61 = .ok (.iload_n 1, 1) := by decide +kernel
theorem dX4_seal_62 : decode cX4_seal 62 = .ok (.invokevirtual 91, 3) := by decide +kernel
theorem dX4_seal_65 : decode cX4_seal 65 = .ok (.iinc 1 1, 3) := by decide +kernel
theorem dX4_seal_68 : decode cX4_seal 68 = .ok (.goto (-33), 3) := by decide +kernel
theorem dX4_seal_71 : decode cX4_seal 71 = .ok (.aload_n 0, 1) := by decide +kernel
theorem dX4_seal_72 : decode cX4_seal 72 = .ok (.getfield 43, 3) := by decide +kernel
theorem dX4_seal_75 : decode cX4_seal 75 = .ok (.ireturn, 1) := by decide +kernel
theorem dX4_write_0 : decode cX4_write 0 = .ok (.aload_n 0, 1) := by decide +kernel
theorem dX4_write_1 : decode cX4_write 1 = .ok (.iload_n 1, 1) := by decide +kernel
theorem dX4_write_2 : decode cX4_write 2 = .ok (.invokevirtual 95, 3) := by decide +kernel
theorem dX4_write_5 : decode cX4_write 5 = .ok (.astore_n 2, 1) := by decide +kernel
theorem dX4_write_6 : decode cX4_write 6 = .ok (.aload_n 2, 1) := by decide +kernel
theorem dX4_write_7 : decode cX4_write 7 = .ok (.ifnonnull 13, 3) := by decide +kernel
theorem dX4_write_10 : decode cX4_write 10 = .ok (.new 98, 3) := by decide +kernel
theorem dX4_write_13 : decode cX4_write 13 = .ok (.dup, 1) := by decide +kernel
theorem dX4_write_14 : decode cX4_write 14 = .ok (.ldc 100, 2) := by decide +kernel
theorem dX4_write_16 : decode cX4_write 16 = .ok (.invokespecial 102, 3) := by decide +kernel
theorem dX4_write_19 : decode cX4_write 19 = .ok (.athrow, 1) := by decide +kernel
theorem dX4_write_20 : decode cX4_write 20 = .ok (.aload_n 2, 1) := by decide +kernel
theorem dX4_write_21 : decode cX4_write 21 = .ok (.getfield 103, 3) := by decide +kernel
theorem dX4_write_24 : decode cX4_write 24 = .ok (.iconst (-1), 1) := by decide +kernel
theorem dX4_write_25 : decode cX4_write 25 = .ok (.if_icmp .eq 22, 3) := by decide +kernel
theorem dX4_write_28 : decode cX4_write 28 = .ok (.aload_n 2, 1) := by decide +kernel
theorem dX4_write_29 : decode cX4_write 29 = .ok (.getfield 103, 3) := by decide +kernel
theorem dX4_write_32 : decode cX4_write 32 = .ok (.iconst 3, 1) := by decide +kernel
theorem dX4_write_33 : decode cX4_write 33 = .ok (.if_icmp .eq 14, 3) := by decide +kernel
theorem dX4_write_36 : decode cX4_write 36 = .ok (.aload_n 2, 1) := by decide +kernel
theorem dX4_write_37 : decode cX4_write 37 = .ok (.getfield 106, 3) := by decide +kernel
theorem dX4_write_40 : decode cX4_write 40 = .ok (.aload_n 0, 1) := by decide +kernel
theorem dX4_write_41 : decode cX4_write 41 = .ok (.getfield 40, 3) := by decide +kernel
theorem dX4_write_44 : decode cX4_write 44 = .ok (.if_icmp .eq 13, 3) := by decide +kernel
theorem dX4_write_47 : decode cX4_write 47 = .ok (.new 72, 3) := by decide +kernel
theorem dX4_write_50 : decode cX4_write 50 = .ok (.dup, 1) := by decide +kernel
theorem dX4_write_51 : decode cX4_write 51 = .ok (.ldc 107, 2) := by decide +kernel
theorem dX4_write_53 : decode cX4_write 53 = .ok (.invokespecial 76, 3) := by decide +kernel
theorem dX4_write_56 : decode cX4_write 56 = .ok (.athrow, 1) := by decide +kernel
theorem dX4_write_57 : decode cX4_write 57 = .ok (.aload_n 0, 1) := by decide +kernel
theorem dX4_write_58 : decode cX4_write 58 = .ok (.getfield 18, 3) := by decide +kernel
theorem dX4_write_61 : decode cX4_write 61 = .ok (.aload_n 2, 1) := by decide +kernel
theorem dX4_write_62 : decode cX4_write 62 = .ok (.getfield 103, 3) := by decide +kernel
theorem dX4_write_65 : decode cX4_write 65 = .ok (.aload_n 2, 1) := by decide +kernel
theorem dX4_write_66 : decode cX4_write 66 = .ok (.getfield 109, 3) := by decide +kernel
theorem dX4_write_69 : decode cX4_write 69 = .ok (.invokevirtual 112, 3) := by decide +kernel
theorem dX4_write_72 : decode cX4_write 72 = .ok (.iconst (-1), 1) := by decide +kernel
theorem dX4_write_73 : decode cX4_write 73 = .ok (.if_icmp .ne 11, 3) := by decide +kernel
theorem dX4_write_76 : decode cX4_write 76 = .ok (.aload_n 2, 1) := by decide +kernel
theorem dX4_write_77 : decode cX4_write 77 = .ok (.iconst (-1), 1) := by decide +kernel
theorem dX4_write_78 : decode cX4_write 78 = .ok (.putfield 103, 3) := by decide +kernel
theorem dX4_write_81 : decode cX4_write 81 = .ok (.goto 29, 3) := by decide +kernel
theorem dX4_write_84 : decode cX4_write 84 = .ok (.aload_n 0, 1) := by decide +kernel
theorem dX4_write_85 : decode cX4_write 85 = .ok (.getfield 18, 3) := by decide +kernel
theorem dX4_write_88 : decode cX4_write 88 = .ok (.aload_n 2, 1) := by decide +kernel
theorem dX4_write_89 : decode cX4_write 89 = .ok (.getfield 103, 3) := by decide +kernel
theorem dX4_write_92 : decode cX4_write 92 = .ok (.aload_n 2, 1) := by decide +kernel
theorem dX4_write_93 : decode cX4_write 93 = .ok (.getfield 109, 3) := by decide +kernel
theorem dX4_write_96 : decode cX4_write 96 = .ok (.iload_n 1, 1) := by decide +kernel
theorem dX4_write_97 : decode cX4_write 97 = .ok (.invokevirtual 116, 3) := by decide +kernel
theorem dX4_write_100 : decode cX4_write 100 = .ok (.aload_n 2, 1) := by decide +kernel
theorem dX4_write_101 : decode cX4_write 101 = .ok (.dup, 1) := by decide +kernel
theorem dX4_write_102 : decode cX4_write 102 = .ok (.getfield 103, 3) := by decide +kernel
theorem dX4_write_105 : decode cX4_write 105 = .ok (.iconst 1, 1) := by decide +kernel
theorem dX4_write_106 : decode cX4_write 106 = .ok (.iadd, 1) := by decide +kernel
theorem dX4_write_107 : decode cX4_write 107 = .ok (.putfield 103, 3) := by decide +kernel
theorem dX4_write_110 : decode cX4_write 110 = .ok (.aload_n 2, 1) := by decide +kernel
theorem dX4_write_111 : decode cX4_write 111 = .ok (.getfield 103, 3) := by decide +kernel
theorem dX4_write_114 : decode cX4_write 114 = .ok (.ireturn, 1) := by decide +kernel
theorem dX4_fill_0 : decode cX4_fill 0 = .ok (.iload_n 1, 1) := by decide +kernel
theorem dX4_fill_1 : decode cX4_fill 1 = .ok (.invokestatic 120, 3) := by decide +kernel
theorem dX4_fill_4 : decode cX4_fill 4 = .ok (.ifCond .ne 13, 3) := by decide +kernel
theorem dX4_fill_7 : decode cX4_fill 7 = .ok (.new 98, 3) := by decide +kernel
theorem dX4_fill_10 : decode cX4_fill 10 = .ok (.dup, 1) := by decide +kernel
theorem dX4_fill_11 : decode cX4_fill 11 = .ok (.ldc 123, 2) := by decide +kernel
theorem dX4_fill_13 : decode cX4_fill 13 = .ok (.invokespecial 102, 3) := by decide +kernel
theorem dX4_fill_16 : decode cX4_fill 16 = .ok (.athrow, 1) := by decide +kernel
theorem dX4_fill_17 : decode cX4_fill 17 = .ok (.aload_n 0, 1) := by decide +kernel
theorem dX4_fill_18 : decode cX4_fill 18 = .ok (.getfield 46, 3) := by decide +kernel
theorem dX4_fill_21 : decode cX4_fill 21 = .ok (.ifCond .ne 22, 3) := by decide +kernel
theorem dX4_fill_24 : decode cX4_fill 24 = .ok (.iload_n 1, 1) := by decide +kernel
theorem dX4_fill_25 : decode cX4_fill 25 = .ok (.aload_n 0, 1) := by decide +kernel
theorem dX4_fill_26 : decode cX4_fill 26 = .ok (.getfield 43, 3) := by decide +kernel
theorem dX4_fill_29 : decode cX4_fill 29 = .ok (.if_icmp .ge 14, 3) := by decide +kernel
theorem dX4_fill_32 : decode cX4_fill 32 = .ok (.aload_n 0, 1) := by decide +kernel
theorem dX4_fill_33 : decode cX4_fill 33 = .ok (.getfield 18, 3) := by decide +kernel
theorem dX4_fill_36 : decode cX4_fill 36 = .ok (.iload_n 1, 1) := by decide +kernel
theorem dX4_fill_37 : decode cX4_fill 37 = .ok (.invokevirtual 125, 3) := by decide +kernel
theorem dX4_fill_40 : decode cX4_fill 40 = .ok (.ifCond .eq 13, 3) := by decide +kernel
theorem dX4_fill_43 : decode cX4_fill 43 = .ok (.new 72, 3) := by decide +kernel
theorem dX4_fill_46 : decode cX4_fill 46 = .ok (.dup, 1) := by decide +kernel
theorem dX4_fill_47 : decode cX4_fill 47 = .ok (.ldc 128, 2) := by decide +kernel
theorem dX4_fill_49 : decode cX4_fill 49 = .ok (.invokespecial 76, 3) := by decide +kernel
theorem dX4_fill_52 : decode cX4_fill 52 = .ok (.athrow, 1) := by decide +kernel
theorem dX4_fill_53 : decode cX4_fill 53 = .ok (.aload_n 0, 1) := by decide +kernel
theorem dX4_fill_54 : decode cX4_fill 54 = .ok (.iload_n 1, 1) := by decide +kernel
theorem dX4_fill_55 : decode cX4_fill 55 = .ok (.invokevirtual 84, 3) := by decide +kernel
theorem dX4_fill_58 : decode cX4_fill 58 = .ok (.ifnull 7, 3) := by decide +kernel
theorem dX4_fill_61 : decode cX4_fill 61 = .ok (.iconst 1, 1) := by decide +kernel
theorem dX4_fill_62 : decode cX4_fill 62 = .ok (.goto 4, 3) := by decide +kernel
theorem dX4_fill_65 : decode cX4_fill 65 = .ok (.iconst 0, 1) := by decide +kernel
theorem dX4_fill_66 : decode cX4_fill 66 = .ok (.istore_n 2, 1) := by decide +kernel
theorem dX4_fill_67 : decode cX4_fill 67 = .ok (.iload_n 2, 1) := by decide +kernel
theorem dX4_fill_68 : decode cX4_fill 68 = .ok (.ifCond .eq 15, 3) := by decide +kernel
theorem dX4_fill_71 : decode cX4_fill 71 = .ok (.aload_n 0, 1) := by decide +kernel
theorem dX4_fill_72 : decode cX4_fill 72 = .ok (.getfield 18, 3) := by decide +kernel
theorem dX4_fill_75 : decode cX4_fill 75 = .ok (.iconst 0, 1) := by decide +kernel
theorem dX4_fill_76 : decode cX4_fill 76 = .ok (.iload_n 1, 1) := by decide +kernel
theorem dX4_fill_77 : decode cX4_fill 77 = .ok (.invokevirtual 112, 3) := by decide +kernel
theorem dX4_fill_80 : decode cX4_fill 80 = .ok (.goto 4, 3) := by decide +kernel
theorem dX4_fill_83 : decode cX4_fill 83 = .ok (.iconst (-1), 1) := by decide +kernel
theorem dX4_fill_84 : decode cX4_fill 84 = .ok (.istore_n 3, 1) := by decide +kernel
theorem dX4_fill_85 : decode cX4_fill 85 = .ok (.iconst 0, 1) := by decide +kernel
theorem dX4_fill_86 : decode cX4_fill 86 = .ok (.istore 4, 2) := by decide +kernel
theorem dX4_fill_88 : decode cX4_fill 88 = .ok (.iload 4, 2) := by decide +kernel
theorem dX4_fill_90 : decode cX4_fill 90 = .ok (.iconst 3, 1) := by decide +kernel
theorem dX4_fill_91 : decode cX4_fill 91 = .ok (.if_icmp .ge 20, 3) := by decide +kernel
theorem dX4_fill_94 : decode cX4_fill 94 = .ok (.aload_n 0, 1) := by decide +kernel
theorem dX4_fill_95 : decode cX4_fill 95 = .ok (.getfield 18, 3) := by decide +kernel
theorem dX4_fill_98 : decode cX4_fill 98 = .ok (.iload 4, 2) := by decide +kernel
theorem dX4_fill_100 : decode cX4_fill 100 = .ok (.iload_n 1, 1) := by decide +kernel
theorem dX4_fill_101 : decode cX4_fill 101 = .ok (.iload_n 3, 1) := by decide +kernel
theorem dX4_fill_102 : decode cX4_fill 102 = .ok (.invokevirtual 116, 3) := by decide +kernel
theorem dX4_fill_105 : decode cX4_fill 105 = .ok (.iinc 4 1, 3) := by decide +kernel
theorem dX4_fill_108 : decode cX4_fill 108 = .ok (.goto (-20), 3) := by decide +kernel
theorem dX4_fill_111 : decode cX4_fill 111 = .ok (.iload_n 2, 1) := by decide +kernel
theorem dX4_fill_112 : decode cX4_fill 112 = .ok (.ireturn, 1) := by decide +kernel
theorem dX4_epoch_0 : decode cX4_epoch 0 = .ok (.aload_n 0, 1) := by decide +kernel
theorem dX4_epoch_1 : decode cX4_epoch 1 = .ok (.getfield 40, 3) := by decide +kernel
theorem dX4_epoch_4 : decode cX4_epoch 4 = .ok (.ireturn, 1) := by decide +kernel
theorem dX4_tail_0 : decode cX4_tail 0 = .ok (.aload_n 0, 1) := by decide +kernel
theorem dX4_tail_1 : decode cX4_tail 1 = .ok (.getfield 46, 3) := by decide +kernel
theorem dX4_tail_4 : decode cX4_tail 4 = .ok (.ifCond .eq 7, 3) := by decide +kernel
theorem dX4_tail_7 : decode cX4_tail 7 = .ok (.iconst (-1), 1) := by decide +kernel
theorem dX4_tail_8 : decode cX4_tail 8 = .ok (.goto 7, 3) := by decide +kernel
theorem dX4_tail_11 : decode cX4_tail 11 = .ok (.aload_n 0, 1) := by decide +kernel
theorem dX4_tail_12 : decode cX4_tail 12 = .ok (.getfield 43, 3) := by decide +kernel
theorem dX4_tail_15 : decode cX4_tail 15 = .ok (.ireturn, 1) := by decide +kernel
theorem dX4_positionOf_0 : decode cX4_positionOf 0 = .ok (.aload_n 0, 1) := by decide +kernel
theorem dX4_positionOf_1 : decode cX4_positionOf 1 = .ok (.iload_n 1, 1) := by decide +kernel
theorem dX4_positionOf_2 : decode cX4_positionOf 2 = .ok (.invokevirtual 95, 3) := by decide +kernel
theorem dX4_positionOf_5 : decode cX4_positionOf 5 = .ok (.astore_n 2, 1) := by decide +kernel
theorem dX4_positionOf_6 : decode cX4_positionOf 6 = .ok (.aload_n 2, 1) := by decide +kernel
theorem dX4_positionOf_7 : decode cX4_positionOf 7 = .ok (.ifnonnull 13, 3) := by decide +kernel
theorem dX4_positionOf_10 : decode cX4_positionOf 10 = .ok (.new 98, 3) := by decide +kernel
theorem dX4_positionOf_13 : decode cX4_positionOf 13 = .ok (.dup, 1) := by decide +kernel
theorem dX4_positionOf_14 : decode cX4_positionOf 14 = .ok (.ldc 100, 2) := by decide +kernel
theorem dX4_positionOf_16 : decode cX4_positionOf 16 = .ok (.invokespecial 102, 3) := by decide +kernel
theorem dX4_positionOf_19 : decode cX4_positionOf 19 = .ok (.athrow, 1) := by decide +kernel
theorem dX4_positionOf_20 : decode cX4_positionOf 20 = .ok (.aload_n 2, 1) := by decide +kernel
theorem dX4_positionOf_21 : decode cX4_positionOf 21 = .ok (.getfield 109, 3) := by decide +kernel
theorem dX4_positionOf_24 : decode cX4_positionOf 24 = .ok (.ireturn, 1) := by decide +kernel
theorem dX4_stateOf_0 : decode cX4_stateOf 0 = .ok (.aload_n 0, 1) := by decide +kernel
theorem dX4_stateOf_1 : decode cX4_stateOf 1 = .ok (.iload_n 1, 1) := by decide +kernel
theorem dX4_stateOf_2 : decode cX4_stateOf 2 = .ok (.invokevirtual 95, 3) := by decide +kernel
theorem dX4_stateOf_5 : decode cX4_stateOf 5 = .ok (.astore_n 2, 1) := by decide +kernel
theorem dX4_stateOf_6 : decode cX4_stateOf 6 = .ok (.aload_n 2, 1) := by decide +kernel
theorem dX4_stateOf_7 : decode cX4_stateOf 7 = .ok (.ifnonnull 13, 3) := by decide +kernel
theorem dX4_stateOf_10 : decode cX4_stateOf 10 = .ok (.new 98, 3) := by decide +kernel
theorem dX4_stateOf_13 : decode cX4_stateOf 13 = .ok (.dup, 1) := by decide +kernel
theorem dX4_stateOf_14 : decode cX4_stateOf 14 = .ok (.ldc 100, 2) := by decide +kernel
theorem dX4_stateOf_16 : decode cX4_stateOf 16 = .ok (.invokespecial 102, 3) := by decide +kernel
theorem dX4_stateOf_19 : decode cX4_stateOf 19 = .ok (.athrow, 1) := by decide +kernel
theorem dX4_stateOf_20 : decode cX4_stateOf 20 = .ok (.aload_n 2, 1) := by decide +kernel
theorem dX4_stateOf_21 : decode cX4_stateOf 21 = .ok (.getfield 103, 3) := by decide +kernel
theorem dX4_stateOf_24 : decode cX4_stateOf 24 = .ok (.ireturn, 1) := by decide +kernel
theorem dX4_cellAt_0 : decode cX4_cellAt 0 = .ok (.iload_n 1, 1) := by decide +kernel
theorem dX4_cellAt_1 : decode cX4_cellAt 1 = .ok (.invokestatic 142, 3) := by decide +kernel
theorem dX4_cellAt_4 : decode cX4_cellAt 4 = .ok (.ifCond .eq 10, 3) := by decide +kernel
theorem dX4_cellAt_7 : decode cX4_cellAt 7 = .ok (.iload_n 2, 1) := by decide +kernel
theorem dX4_cellAt_8 : decode cX4_cellAt 8 = .ok (.invokestatic 120, 3) := by decide +kernel
theorem dX4_cellAt_11 : decode cX4_cellAt 11 = .ok (.ifCond .ne 13, 3) := by decide +kernel
theorem dX4_cellAt_14 : decode cX4_cellAt 14 = .ok (.new 98, 3) := by decide +kernel
theorem dX4_cellAt_17 : decode cX4_cellAt 17 = .ok (.dup, 1) := by decide +kernel
theorem dX4_cellAt_18 : decode cX4_cellAt 18 = .ok (.ldc 145, 2) := by decide +kernel
theorem dX4_cellAt_20 : decode cX4_cellAt 20 = .ok (.invokespecial 102, 3) := by decide +kernel
theorem dX4_cellAt_23 : decode cX4_cellAt 23 = .ok (.athrow, 1) := by decide +kernel
theorem dX4_cellAt_24 : decode cX4_cellAt 24 = .ok (.aload_n 0, 1) := by decide +kernel
theorem dX4_cellAt_25 : decode cX4_cellAt 25 = .ok (.getfield 18, 3) := by decide +kernel
theorem dX4_cellAt_28 : decode cX4_cellAt 28 = .ok (.iload_n 1, 1) := by decide +kernel
theorem dX4_cellAt_29 : decode cX4_cellAt 29 = .ok (.iload_n 2, 1) := by decide +kernel
theorem dX4_cellAt_30 : decode cX4_cellAt 30 = .ok (.invokevirtual 112, 3) := by decide +kernel
theorem dX4_cellAt_33 : decode cX4_cellAt 33 = .ok (.ireturn, 1) := by decide +kernel
theorem dX4_known_0 : decode cX4_known 0 = .ok (.aload_n 0, 1) := by decide +kernel
theorem dX4_known_1 : decode cX4_known 1 = .ok (.getfield 18, 3) := by decide +kernel
theorem dX4_known_4 : decode cX4_known 4 = .ok (.invokevirtual 147, 3) := by decide +kernel
theorem dX4_known_7 : decode cX4_known 7 = .ok (.ireturn, 1) := by decide +kernel
theorem dX4_takesEffect_0 : decode cX4_takesEffect 0 = .ok (.iload_n 1, 1) := by decide +kernel
theorem dX4_takesEffect_1 : decode cX4_takesEffect 1 = .ok (.ifCond .lt 14, 3) := by decide +kernel
theorem dX4_takesEffect_4 : decode cX4_takesEffect 4 = .ok (.iload_n 1, 1) := by decide +kernel
theorem dX4_takesEffect_5 : decode cX4_takesEffect 5 = .ok (.aload_n 0, 1) := by decide +kernel
theorem dX4_takesEffect_6 : decode cX4_takesEffect 6 = .ok (.getfield 18, 3) := by decide +kernel
theorem dX4_takesEffect_9 : decode cX4_takesEffect 9 = .ok (.invokevirtual 147, 3) := by decide +kernel
theorem dX4_takesEffect_12 : decode cX4_takesEffect 12 = .ok (.if_icmp .lt 13, 3) := by decide +kernel
theorem dX4_takesEffect_15 : decode cX4_takesEffect 15 = .ok (.new 98, 3) := by decide +kernel
theorem dX4_takesEffect_18 : decode cX4_takesEffect 18 = .ok (.dup, 1) := by decide +kernel
theorem dX4_takesEffect_19 : decode cX4_takesEffect 19 = .ok (.ldc 150, 2) := by decide +kernel
theorem dX4_takesEffect_21 : decode cX4_takesEffect 21 = .ok (.invokespecial 102, 3) := by decide +kernel
theorem dX4_takesEffect_24 : decode cX4_takesEffect 24 = .ok (.athrow, 1) := by decide +kernel
theorem dX4_takesEffect_25 : decode cX4_takesEffect 25 = .ok (.aload_n 0, 1) := by decide +kernel
theorem dX4_takesEffect_26 : decode cX4_takesEffect 26 = .ok (.iload_n 1, 1) := by decide +kernel
theorem dX4_takesEffect_27 : decode cX4_takesEffect 27 = .ok (.iconst 1, 1) := by decide +kernel
theorem dX4_takesEffect_28 : decode cX4_takesEffect 28 = .ok (.iadd, 1) := by decide +kernel
theorem dX4_takesEffect_29 : decode cX4_takesEffect 29 = .ok (.invokevirtual 152, 3) := by decide +kernel
theorem dX4_takesEffect_32 : decode cX4_takesEffect 32 = .ok (.aload_n 0, 1) := by decide +kernel
theorem dX4_takesEffect_33 : decode cX4_takesEffect 33 = .ok (.getfield 32, 3) := by decide +kernel
theorem dX4_takesEffect_36 : decode cX4_takesEffect 36 = .ok (.iload_n 1, 1) := by decide +kernel
theorem dX4_takesEffect_37 : decode cX4_takesEffect 37 = .ok (.invokevirtual 156, 3) := by decide +kernel
theorem dX4_takesEffect_40 : decode cX4_takesEffect 40 = .ok (.ireturn, 1) := by decide +kernel
theorem dX4_value_0 : decode cX4_value 0 = .ok (.iload_n 1, 1) := by decide +kernel
theorem dX4_value_1 : decode cX4_value 1 = .ok (.invokestatic 130, 3) := by decide +kernel
theorem dX4_value_4 : decode cX4_value 4 = .ok (.ifCond .eq 11, 3) := by decide +kernel
theorem dX4_value_7 : decode cX4_value 7 = .ok (.aload_n 0, 1) := by decide +kernel
theorem dX4_value_8 : decode cX4_value 8 = .ok (.iload_n 2, 1) := by decide +kernel
theorem dX4_value_9 : decode cX4_value 9 = .ok (.invokevirtual 159, 3) := by decide +kernel
theorem dX4_value_12 : decode cX4_value 12 = .ok (.ifCond .ne 13, 3) := by decide +kernel
theorem dX4_value_15 : decode cX4_value 15 = .ok (.new 98, 3) := by decide +kernel
theorem dX4_value_18 : decode cX4_value 18 = .ok (.dup, 1) := by decide +kernel
theorem dX4_value_19 : decode cX4_value 19 = .ok (.ldc 162, 2) := by decide +kernel
theorem dX4_value_21 : decode cX4_value 21 = .ok (.invokespecial 102, 3) := by decide +kernel
theorem dX4_value_24 : decode cX4_value 24 = .ok (.athrow, 1) := by decide +kernel
theorem dX4_value_25 : decode cX4_value 25 = .ok (.aload_n 0, 1) := by decide +kernel
theorem dX4_value_26 : decode cX4_value 26 = .ok (.iload_n 2, 1) := by decide +kernel
theorem dX4_value_27 : decode cX4_value 27 = .ok (.invokevirtual 152, 3) := by decide +kernel
theorem dX4_value_30 : decode cX4_value 30 = .ok (.iconst 0, 1) := by decide +kernel
theorem dX4_value_31 : decode cX4_value 31 = .ok (.istore_n 3, 1) := by decide +kernel
theorem dX4_value_32 : decode cX4_value 32 = .ok (.iconst 0, 1) := by decide +kernel
theorem dX4_value_33 : decode cX4_value 33 = .ok (.istore 4, 2) := by decide +kernel
theorem dX4_value_35 : decode cX4_value 35 = .ok (.iload 4, 2) := by decide +kernel
theorem dX4_value_37 : decode cX4_value 37 = .ok (.iload_n 2, 1) := by decide +kernel
theorem dX4_value_38 : decode cX4_value 38 = .ok (.if_icmp .ge 28, 3) := by decide +kernel
theorem dX4_value_41 : decode cX4_value 41 = .ok (.aload_n 0, 1) := by decide +kernel
theorem dX4_value_42 : decode cX4_value 42 = .ok (.iload 4, 2) := by decide +kernel
theorem dX4_value_44 : decode cX4_value 44 = .ok (.iload_n 1, 1) := by decide +kernel
theorem dX4_value_45 : decode cX4_value 45 = .ok (.invokevirtual 164, 3) := by decide +kernel
theorem dX4_value_48 : decode cX4_value 48 = .ok (.ifCond .eq 12, 3) := by decide +kernel
theorem dX4_value_51 : decode cX4_value 51 = .ok (.iload_n 3, 1) := by decide +kernel
theorem dX4_value_52 : decode cX4_value 52 = .ok (.aload_n 0, 1) := by decide +kernel
theorem dX4_value_53 : decode cX4_value 53 = .ok (.iload 4, 2) := by decide +kernel
theorem dX4_value_55 : decode cX4_value 55 = .ok (.invokevirtual 168, 3) := by decide +kernel
theorem dX4_value_58 : decode cX4_value 58 = .ok (.iadd, 1) := by decide +kernel
theorem dX4_value_59 : decode cX4_value 59 = .ok (.istore_n 3, 1) := by decide +kernel
theorem dX4_value_60 : decode cX4_value 60 = .ok (.iinc 4 1, 3) := by decide +kernel
theorem dX4_value_63 : decode cX4_value 63 = .ok (.goto (-28), 3) := by decide +kernel
theorem dX4_value_66 : decode cX4_value 66 = .ok (.iload_n 3, 1) := by decide +kernel
theorem dX4_value_67 : decode cX4_value 67 = .ok (.ireturn, 1) := by decide +kernel
theorem dX4_valueByPointers_0 : decode cX4_valueByPointers 0 = .ok (.iload_n 1, 1) := by decide +kernel
theorem dX4_valueByPointers_1 : decode cX4_valueByPointers 1 = .ok (.invokestatic 130, 3) := by decide +kernel
theorem dX4_valueByPointers_4 : decode cX4_valueByPointers 4 = .ok (.ifCond .eq 11, 3) := by decide +kernel
theorem dX4_valueByPointers_7 : decode cX4_valueByPointers 7 = .ok (.aload_n 0, 1) := by decide +kernel
theorem dX4_valueByPointers_8 : decode cX4_valueByPointers 8 = .ok (.iload_n 2, 1) := by decide +kernel
theorem dX4_valueByPointers_9 : decode cX4_valueByPointers 9 = .ok (.invokevirtual 159, 3) := by decide +kernel
theorem dX4_valueByPointers_12 : decode cX4_valueByPointers 12 = .ok (.ifCond .ne 13, 3) := by decide +kernel
theorem dX4_valueByPointers_15 : decode cX4_valueByPointers 15 = .ok (.new 98, 3) := by decide +kernel
theorem dX4_valueByPointers_18 : decode cX4_valueByPointers 18 = .ok (.dup, 1) := by decide +kernel
theorem dX4_valueByPointers_19 : decode cX4_valueByPointers 19 = .ok (.ldc 162, 2) := by decide +kernel
theorem dX4_valueByPointers_21 : decode cX4_valueByPointers 21 = .ok (.invokespecial 102, 3) := by decide +kernel
theorem dX4_valueByPointers_24 : decode cX4_valueByPointers 24 = .ok (.athrow, 1) := by decide +kernel
theorem dX4_valueByPointers_25 : decode cX4_valueByPointers 25 = .ok (.aload_n 0, 1) := by decide +kernel
theorem dX4_valueByPointers_26 : decode cX4_valueByPointers 26 = .ok (.iload_n 2, 1) := by decide +kernel
theorem dX4_valueByPointers_27 : decode cX4_valueByPointers 27 = .ok (.invokevirtual 152, 3) := by decide +kernel
theorem dX4_valueByPointers_30 : decode cX4_valueByPointers 30 = .ok (.iconst 0, 1) := by decide +kernel
theorem dX4_valueByPointers_31 : decode cX4_valueByPointers 31 = .ok (.istore_n 3, 1) := by decide +kernel
theorem dX4_valueByPointers_32 : decode cX4_valueByPointers 32 = .ok (.aload_n 0, 1) := by decide +kernel
theorem dX4_valueByPointers_33 : decode cX4_valueByPointers 33 = .ok (.iload_n 1, 1) := by decide +kernel
theorem dX4_valueByPointers_34 : decode cX4_valueByPointers 34 = .ok (.iload_n 2, 1) := by decide +kernel
theorem dX4_valueByPointers_35 : decode cX4_valueByPointers 35 = .ok (.invokevirtual 172, 3) := by decide +kernel
theorem dX4_valueByPointers_38 : decode cX4_valueByPointers 38 = .ok (.istore 4, 2) := by decide +kernel
theorem dX4_valueByPointers_40 : decode cX4_valueByPointers 40 = .ok (.iconst 0, 1) := by decide +kernel
theorem dX4_valueByPointers_41 : decode cX4_valueByPointers 41 = .ok (.istore 5, 2) := by decide +kernel
theorem dX4_valueByPointers_43 : decode cX4_valueByPointers 43 = .ok (.iload 5, 2) := by decide +kernel
theorem dX4_valueByPointers_45 : decode cX4_valueByPointers 45 = .ok (.bipush 120, 2) := by decide +kernel
theorem dX4_valueByPointers_47 : decode cX4_valueByPointers 47 = .ok (.if_icmp .ge 33, 3) := by decide +kernel
theorem dX4_valueByPointers_50 : decode cX4_valueByPointers 50 = .ok (.iload 4, 2) := by decide +kernel
theorem dX4_valueByPointers_52 : decode cX4_valueByPointers 52 = .ok (.iconst (-1), 1) := by decide +kernel
theorem dX4_valueByPointers_53 : decode cX4_valueByPointers 53 = .ok (.if_icmp .eq 27, 3) := by decide +kernel
theorem dX4_valueByPointers_56 : decode cX4_valueByPointers 56 = .ok (.iload_n 3, 1) := by decide +kernel
theorem dX4_valueByPointers_57 : decode cX4_valueByPointers 57 = .ok (.aload_n 0, 1) := by decide +kernel
theorem dX4_valueByPointers_58 : decode cX4_valueByPointers 58 = .ok (.iload 4, 2) := by decide +kernel
theorem dX4_valueByPointers_60 : decode cX4_valueByPointers 60 = .ok (.invokevirtual 168, 3) := by decide +kernel
theorem dX4_valueByPointers_63 : decode cX4_valueByPointers 63 = .ok (.iadd, 1) := by decide +kernel
theorem dX4_valueByPointers_64 : decode cX4_valueByPointers 64 = .ok (.istore_n 3, 1) := by decide +kernel
theorem dX4_valueByPointers_65 : decode cX4_valueByPointers 65 = .ok (.aload_n 0, 1) := by decide +kernel
theorem dX4_valueByPointers_66 : decode cX4_valueByPointers 66 = .ok (.iload_n 1, 1) := by decide +kernel
theorem dX4_valueByPointers_67 : decode cX4_valueByPointers 67 = .ok (.iload 4, 2) := by decide +kernel
theorem dX4_valueByPointers_69 : decode cX4_valueByPointers 69 = .ok (.invokevirtual 175, 3) := by decide +kernel
theorem dX4_valueByPointers_72 : decode cX4_valueByPointers 72 = .ok (.istore 4, 2) := by decide +kernel
theorem dX4_valueByPointers_74 : decode cX4_valueByPointers 74 = .ok (.iinc 5 1, 3) := by decide +kernel
theorem dX4_valueByPointers_77 : decode cX4_valueByPointers 77 = .ok (.goto (-34), 3) := by decide +kernel
theorem dX4_valueByPointers_80 : decode cX4_valueByPointers 80 = .ok (.iload_n 3, 1) := by decide +kernel
theorem dX4_valueByPointers_81 : decode cX4_valueByPointers 81 = .ok (.ireturn, 1) := by decide +kernel
theorem dX4_latest_0 : decode cX4_latest 0 = .ok (.iload_n 1, 1) := by decide +kernel
theorem dX4_latest_1 : decode cX4_latest 1 = .ok (.invokestatic 130, 3) := by decide +kernel
theorem dX4_latest_4 : decode cX4_latest 4 = .ok (.ifCond .eq 11, 3) := by decide +kernel
theorem dX4_latest_7 : decode cX4_latest 7 = .ok (.aload_n 0, 1) := by decide +kernel
theorem dX4_latest_8 : decode cX4_latest 8 = .ok (.iload_n 2, 1) := by decide +kernel
theorem dX4_latest_9 : decode cX4_latest 9 = .ok (.invokevirtual 159, 3) := by decide +kernel
theorem dX4_latest_12 : decode cX4_latest 12 = .ok (.ifCond .ne 13, 3) := by decide +kernel
theorem dX4_latest_15 : decode cX4_latest 15 = .ok (.new 98, 3) := by decide +kernel
theorem dX4_latest_18 : decode cX4_latest 18 = .ok (.dup, 1) := by decide +kernel
theorem dX4_latest_19 : decode cX4_latest 19 = .ok (.ldc 162, 2) := by decide +kernel
theorem dX4_latest_21 : decode cX4_latest 21 = .ok (.invokespecial 102, 3) := by decide +kernel
theorem dX4_latest_24 : decode cX4_latest 24 = .ok (.athrow, 1) := by decide +kernel
theorem dX4_latest_25 : decode cX4_latest 25 = .ok (.aload_n 0, 1) := by decide +kernel
theorem dX4_latest_26 : decode cX4_latest 26 = .ok (.iload_n 1, 1) := by decide +kernel
theorem dX4_latest_27 : decode cX4_latest 27 = .ok (.iload_n 2, 1) := by decide +kernel
theorem dX4_latest_28 : decode cX4_latest 28 = .ok (.invokevirtual 172, 3) := by decide +kernel
theorem dX4_latest_31 : decode cX4_latest 31 = .ok (.ireturn, 1) := by decide +kernel
theorem dX4_isStream_0 : decode cX4_isStream 0 = .ok (.iload_n 0, 1) := by decide +kernel
theorem dX4_isStream_1 : decode cX4_isStream 1 = .ok (.ifCond .lt 12, 3) := by decide +kernel
theorem dX4_isStream_4 : decode cX4_isStream 4 = .ok (.iload_n 0, 1) := by decide +kernel
theorem dX4_isStream_5 : decode cX4_isStream 5 = .ok (.iconst 4, 1) := by decide +kernel
theorem dX4_isStream_6 : decode cX4_isStream 6 = .ok (.if_icmp .ge 7, 3) := by decide +kernel
theorem dX4_isStream_9 : decode cX4_isStream 9 = .ok (.iconst 1, 1) := by decide +kernel
theorem dX4_isStream_10 : decode cX4_isStream 10 = .ok (.goto 4, 3) := by decide +kernel
theorem dX4_isStream_13 : decode cX4_isStream 13 = .ok (.iconst 0, 1) := by decide +kernel
theorem dX4_isStream_14 : decode cX4_isStream 14 = .ok (.ireturn, 1) := by decide +kernel
theorem dX4_isSetOfStreams_0 : decode cX4_isSetOfStreams 0 = .ok (.iload_n 0, 1) := by decide +kernel
theorem dX4_isSetOfStreams_1 : decode cX4_isSetOfStreams 1 = .ok (.iconst 1, 1) := by decide +kernel
theorem dX4_isSetOfStreams_2 : decode cX4_isSetOfStreams 2 = .ok (.if_icmp .lt 13, 3) := by decide +kernel
theorem dX4_isSetOfStreams_5 : decode cX4_isSetOfStreams 5 = .ok (.iload_n 0, 1) := by decide +kernel
theorem dX4_isSetOfStreams_6 : decode cX4_isSetOfStreams 6 = .ok (.bipush 15, 2) := by decide +kernel
theorem dX4_isSetOfStreams_8 : decode cX4_isSetOfStreams 8 = .ok (.if_icmp .gt 7, 3) := by decide +kernel
theorem dX4_isSetOfStreams_11 : decode cX4_isSetOfStreams 11 = .ok (.iconst 1, 1) := by decide +kernel
theorem dX4_isSetOfStreams_12 : decode cX4_isSetOfStreams 12 = .ok (.goto 4, 3) := by decide +kernel
theorem dX4_isSetOfStreams_15 : decode cX4_isSetOfStreams 15 = .ok (.iconst 0, 1) := by decide +kernel
theorem dX4_isSetOfStreams_16 : decode cX4_isSetOfStreams 16 = .ok (.ireturn, 1) := by decide +kernel
theorem dX4_isAmount_0 : decode cX4_isAmount 0 = .ok (.iload_n 0, 1) := by decide +kernel
theorem dX4_isAmount_1 : decode cX4_isAmount 1 = .ok (.sipush (-1000), 3) := by decide +kernel
theorem dX4_isAmount_4 : decode cX4_isAmount 4 = .ok (.if_icmp .lt 14, 3) := by decide +kernel
theorem dX4_isAmount_7 : decode cX4_isAmount 7 = .ok (.iload_n 0, 1) := by decide +kernel
theorem dX4_isAmount_8 : decode cX4_isAmount 8 = .ok (.sipush 1000, 3) := by decide +kernel
theorem dX4_isAmount_11 : decode cX4_isAmount 11 = .ok (.if_icmp .gt 7, 3) := by decide +kernel
theorem dX4_isAmount_14 : decode cX4_isAmount 14 = .ok (.iconst 1, 1) := by decide +kernel
theorem dX4_isAmount_15 : decode cX4_isAmount 15 = .ok (.goto 4, 3) := by decide +kernel
theorem dX4_isAmount_18 : decode cX4_isAmount 18 = .ok (.iconst 0, 1) := by decide +kernel
theorem dX4_isAmount_19 : decode cX4_isAmount 19 = .ok (.ireturn, 1) := by decide +kernel
theorem dX4_isPosition_0 : decode cX4_isPosition 0 = .ok (.iload_n 0, 1) := by decide +kernel
theorem dX4_isPosition_1 : decode cX4_isPosition 1 = .ok (.ifCond .lt 13, 3) := by decide +kernel
theorem dX4_isPosition_4 : decode cX4_isPosition 4 = .ok (.iload_n 0, 1) := by decide +kernel
theorem dX4_isPosition_5 : decode cX4_isPosition 5 = .ok (.bipush 120, 2) := by decide +kernel
theorem dX4_isPosition_7 : decode cX4_isPosition 7 = .ok (.if_icmp .ge 7, 3) := by decide +kernel
theorem dX4_isPosition_10 : decode cX4_isPosition 10 = .ok (.iconst 1, 1) := by decide +kernel
theorem dX4_isPosition_11 : decode cX4_isPosition 11 = .ok (.goto 4, 3) := by decide +kernel
theorem dX4_isPosition_14 : decode cX4_isPosition 14 = .ok (.iconst 0, 1) := by decide +kernel
theorem dX4_isPosition_15 : decode cX4_isPosition 15 = .ok (.ireturn, 1) := by decide +kernel
theorem dX4_isReplica_0 : decode cX4_isReplica 0 = .ok (.iload_n 0, 1) := by decide +kernel
theorem dX4_isReplica_1 : decode cX4_isReplica 1 = .ok (.ifCond .lt 12, 3) := by decide +kernel
theorem dX4_isReplica_4 : decode cX4_isReplica 4 = .ok (.iload_n 0, 1) := by decide +kernel
theorem dX4_isReplica_5 : decode cX4_isReplica 5 = .ok (.iconst 3, 1) := by decide +kernel
theorem dX4_isReplica_6 : decode cX4_isReplica 6 = .ok (.if_icmp .ge 7, 3) := by decide +kernel
theorem dX4_isReplica_9 : decode cX4_isReplica 9 = .ok (.iconst 1, 1) := by decide +kernel
theorem dX4_isReplica_10 : decode cX4_isReplica 10 = .ok (.goto 4, 3) := by decide +kernel
theorem dX4_isReplica_13 : decode cX4_isReplica 13 = .ok (.iconst 0, 1) := by decide +kernel
theorem dX4_isReplica_14 : decode cX4_isReplica 14 = .ok (.ireturn, 1) := by decide +kernel
theorem dX4_isPointerNumber_0 : decode cX4_isPointerNumber 0 = .ok (.iload_n 0, 1) := by decide +kernel
theorem dX4_isPointerNumber_1 : decode cX4_isPointerNumber 1 = .ok (.ifCond .lt 12, 3) := by decide +kernel
theorem dX4_isPointerNumber_4 : decode cX4_isPointerNumber 4 = .ok (.iload_n 0, 1) := by decide +kernel
theorem dX4_isPointerNumber_5 : decode cX4_isPointerNumber 5 = .ok (.iconst 4, 1) := by decide +kernel
theorem dX4_isPointerNumber_6 : decode cX4_isPointerNumber 6 = .ok (.if_icmp .ge 7, 3) := by decide +kernel
theorem dX4_isPointerNumber_9 : decode cX4_isPointerNumber 9 = .ok (.iconst 1, 1) := by decide +kernel
theorem dX4_isPointerNumber_10 : decode cX4_isPointerNumber 10 = .ok (.goto 4, 3) := by decide +kernel
theorem dX4_isPointerNumber_13 : decode cX4_isPointerNumber 13 = .ok (.iconst 0, 1) := by decide +kernel
theorem dX4_isPointerNumber_14 : decode cX4_isPointerNumber 14 = .ok (.ireturn, 1) := by decide +kernel
theorem dX4_isIn_0 : decode cX4_isIn 0 = .ok (.iload_n 1, 1) := by decide +kernel
theorem dX4_isIn_1 : decode cX4_isIn 1 = .ok (.iload_n 0, 1) := by decide +kernel
theorem dX4_isIn_2 : decode cX4_isIn 2 = .ok (.ishr, 1) := by decide +kernel
theorem dX4_isIn_3 : decode cX4_isIn 3 = .ok (.iconst 1, 1) := by decide +kernel
theorem dX4_isIn_4 : decode cX4_isIn 4 = .ok (.iand, 1) := by decide +kernel
theorem dX4_isIn_5 : decode cX4_isIn 5 = .ok (.iconst 1, 1) := by decide +kernel
theorem dX4_isIn_6 : decode cX4_isIn 6 = .ok (.if_icmp .ne 7, 3) := by decide +kernel
theorem dX4_isIn_9 : decode cX4_isIn 9 = .ok (.iconst 1, 1) := by decide +kernel
theorem dX4_isIn_10 : decode cX4_isIn 10 = .ok (.goto 4, 3) := by decide +kernel
theorem dX4_isIn_13 : decode cX4_isIn 13 = .ok (.iconst 0, 1) := by decide +kernel
theorem dX4_isIn_14 : decode cX4_isIn 14 = .ok (.ireturn, 1) := by decide +kernel
theorem dX4_isEndOfKnown_0 : decode cX4_isEndOfKnown 0 = .ok (.iload_n 1, 1) := by decide +kernel
theorem dX4_isEndOfKnown_1 : decode cX4_isEndOfKnown 1 = .ok (.ifCond .lt 18, 3) := by decide +kernel
theorem dX4_isEndOfKnown_4 : decode cX4_isEndOfKnown 4 = .ok (.iload_n 1, 1) := by decide +kernel
theorem dX4_isEndOfKnown_5 : decode cX4_isEndOfKnown 5 = .ok (.aload_n 0, 1) := by decide +kernel
theorem dX4_isEndOfKnown_6 : decode cX4_isEndOfKnown 6 = .ok (.getfield 18, 3) := by decide +kernel
theorem dX4_isEndOfKnown_9 : decode cX4_isEndOfKnown 9 = .ok (.invokevirtual 147, 3) := by decide +kernel
theorem dX4_isEndOfKnown_12 : decode cX4_isEndOfKnown 12 = .ok (.if_icmp .gt 7, 3) := by decide +kernel
theorem dX4_isEndOfKnown_15 : decode cX4_isEndOfKnown 15 = .ok (.iconst 1, 1) := by decide +kernel
theorem dX4_isEndOfKnown_16 : decode cX4_isEndOfKnown 16 = .ok (.goto 4, 3) := by decide +kernel
theorem dX4_isEndOfKnown_19 : decode cX4_isEndOfKnown 19 = .ok (.iconst 0, 1) := by decide +kernel
theorem dX4_isEndOfKnown_20 : decode cX4_isEndOfKnown 20 = .ok (.ireturn, 1) := by decide +kernel
theorem dX4_handOut_0 : decode cX4_handOut 0 = .ok (.aload_n 0, 1) := by decide +kernel
theorem dX4_handOut_1 : decode cX4_handOut 1 = .ok (.getfield 46, 3) := by decide +kernel
theorem dX4_handOut_4 : decode cX4_handOut 4 = .ok (.ifCond .ne 24, 3) := by decide +kernel
theorem dX4_handOut_7 : decode cX4_handOut 7 = .ok (.aload_n 0, 1) := by decide +kernel
theorem dX4_handOut_8 : decode cX4_handOut 8 = .ok (.getfield 43, 3) := by decide +kernel
theorem dX4_handOut_11 : decode cX4_handOut 11 = .ok (.bipush 120, 2) := by decide +kernel
theorem dX4_handOut_13 : decode cX4_handOut 13 = .ok (.if_icmp .ge 15, 3) := by decide +kernel
theorem dX4_handOut_16 : decode cX4_handOut 16 = .ok (.aload_n 0, 1) := by decide +kernel
theorem dX4_handOut_17 : decode cX4_handOut 17 = .ok (.getfield 36, 3) := by decide +kernel
theorem dX4_handOut_20 : decode cX4_handOut 20 = .ok (.aload_n 0, 1) := by decide +kernel
theorem dX4_handOut_21 : decode cX4_handOut 21 = .ok (.getfield 11, 3) := by decide +kernel
theorem dX4_handOut_24 : decode cX4_handOut 24 = .ok (.arraylength, 1) := by decide +kernel
theorem dX4_handOut_25 : decode cX4_handOut 25 = .ok (.if_icmp .lt 13, 3) := by decide +kernel
theorem dX4_handOut_28 : decode cX4_handOut 28 = .ok (.new 72, 3) := by decide +kernel
theorem dX4_handOut_31 : decode cX4_handOut 31 = .ok (.dup, 1) := by decide +kernel
theorem dX4_handOut_32 : decode cX4_handOut 32 = .ok (.ldc 178, 2) := by decide +kernel
theorem dX4_handOut_34 : decode cX4_handOut 34 = .ok (.invokespecial 76, 3) := by decide +kernel
theorem dX4_handOut_37 : decode cX4_handOut 37 = .ok (.athrow, 1) := by decide +kernel
theorem dX4_handOut_38 : decode cX4_handOut 38 = .ok (.aload_n 0, 1) := by decide +kernel
theorem dX4_handOut_39 : decode cX4_handOut 39 = .ok (.getfield 36, 3) := by decide +kernel
theorem dX4_handOut_42 : decode cX4_handOut 42 = .ok (.istore 5, 2) := by decide +kernel
theorem dX4_handOut_44 : decode cX4_handOut 44 = .ok (.aload_n 0, 1) := by decide +kernel
theorem dX4_handOut_45 : decode cX4_handOut 45 = .ok (.getfield 25, 3) := by decide +kernel
theorem dX4_handOut_48 : decode cX4_handOut 48 = .ok (.iload_n 1, 1) := by decide +kernel
theorem dX4_handOut_49 : decode cX4_handOut 49 = .ok (.invokevirtual 180, 3) := by decide +kernel
theorem dX4_handOut_52 : decode cX4_handOut 52 = .ok (.astore 6, 2) := by decide +kernel
theorem dX4_handOut_54 : decode cX4_handOut 54 = .ok (.aload_n 0, 1) := by decide +kernel
theorem dX4_handOut_55 : decode cX4_handOut 55 = .ok (.getfield 11, 3) := by decide +kernel
theorem dX4_handOut_58 : decode cX4_handOut 58 = .ok (.iload 5, 2) := by decide +kernel
theorem dX4_handOut_60 : decode cX4_handOut 60 = .ok (.new 9, 3) := by decide +kernel
theorem dX4_handOut_63 : decode cX4_handOut 63 = .ok (.dup, 1) := by decide +kernel
theorem dX4_handOut_64 : decode cX4_handOut 64 = .ok (.aload_n 0, 1) := by decide +kernel
theorem dX4_handOut_65 : decode cX4_handOut 65 = .ok (.getfield 43, 3) := by decide +kernel
theorem dX4_handOut_68 : decode cX4_handOut 68 = .ok (.aload_n 0, 1) := by decide +kernel
theorem dX4_handOut_69 : decode cX4_handOut 69 = .ok (.getfield 40, 3) := by decide +kernel
theorem dX4_handOut_72 : decode cX4_handOut 72 = .ok (.iload_n 1, 1) := by decide +kernel
theorem dX4_handOut_73 : decode cX4_handOut 73 = .ok (.iload_n 2, 1) := by decide +kernel
theorem dX4_handOut_74 : decode cX4_handOut 74 = .ok (.iload_n 3, 1) := by decide +kernel
theorem dX4_handOut_75 : decode cX4_handOut 75 = .ok (.iload 4, 2) := by decide +kernel
theorem dX4_handOut_77 : decode cX4_handOut 77 = .ok (.aload 6, 2) := by decide +kernel
theorem dX4_handOut_79 : decode cX4_handOut 79 = .ok (.invokespecial 184, 3) := by decide +kernel
theorem dX4_handOut_82 : decode cX4_handOut 82 = .ok (.aastore, 1) := by decide +kernel
theorem dX4_handOut_83 : decode cX4_handOut 83 = .ok (.aload_n 0, 1) := by decide +kernel
theorem dX4_handOut_84 : decode cX4_handOut 84 = .ok (.getfield 25, 3) := by decide +kernel
theorem dX4_handOut_87 : decode cX4_handOut 87 = .ok (.iload_n 1, 1) := by decide +kernel
theorem dX4_handOut_88 : decode cX4_handOut 88 = .ok (.aload_n 0, 1) := by decide +kernel
theorem dX4_handOut_89 : decode cX4_handOut 89 = .ok (.getfield 43, 3) := by decide +kernel
theorem dX4_handOut_92 : decode cX4_handOut 92 = .ok (.invokevirtual 91, 3) := by decide +kernel
theorem dX4_handOut_95 : decode cX4_handOut 95 = .ok (.aload_n 0, 1) := by decide +kernel
theorem dX4_handOut_96 : decode cX4_handOut 96 = .ok (.dup, 1) := by decide +kernel
theorem dX4_handOut_97 : decode cX4_handOut 97 = .ok (.getfield 36, 3) := by decide +kernel
theorem dX4_handOut_100 : decode cX4_handOut 100 = .ok (.iconst 1, 1) := by decide +kernel
theorem dX4_handOut_101 : decode cX4_handOut 101 = .ok (.iadd, 1) := by decide +kernel
theorem dX4_handOut_102 : decode cX4_handOut 102 = .ok (.putfield 36, 3) := by decide +kernel
theorem dX4_handOut_105 : decode cX4_handOut 105 = .ok (.aload_n 0, 1) := by decide +kernel
theorem dX4_handOut_106 : decode cX4_handOut 106 = .ok (.dup, 1) := by decide +kernel
theorem dX4_handOut_107 : decode cX4_handOut 107 = .ok (.getfield 43, 3) := by decide +kernel
theorem dX4_handOut_110 : decode cX4_handOut 110 = .ok (.iconst 1, 1) := by decide +kernel
theorem dX4_handOut_111 : decode cX4_handOut 111 = .ok (.iadd, 1) := by decide +kernel
theorem dX4_handOut_112 : decode cX4_handOut 112 = .ok (.putfield 43, 3) := by decide +kernel
theorem dX4_handOut_115 : decode cX4_handOut 115 = .ok (.iload 5, 2) := by decide +kernel
theorem dX4_handOut_117 : decode cX4_handOut 117 = .ok (.ireturn, 1) := by decide +kernel
theorem dX4_entryOf_0 : decode cX4_entryOf 0 = .ok (.iload_n 1, 1) := by decide +kernel
theorem dX4_entryOf_1 : decode cX4_entryOf 1 = .ok (.ifCond .lt 21, 3) := by decide +kernel
theorem dX4_entryOf_4 : decode cX4_entryOf 4 = .ok (.iload_n 1, 1) := by decide +kernel
theorem dX4_entryOf_5 : decode cX4_entryOf 5 = .ok (.aload_n 0, 1) := by decide +kernel
theorem dX4_entryOf_6 : decode cX4_entryOf 6 = .ok (.getfield 11, 3) := by decide +kernel
theorem dX4_entryOf_9 : decode cX4_entryOf 9 = .ok (.arraylength, 1) := by decide +kernel
theorem dX4_entryOf_10 : decode cX4_entryOf 10 = .ok (.if_icmp .ge 12, 3) := by decide +kernel
theorem dX4_entryOf_13 : decode cX4_entryOf 13 = .ok (.aload_n 0, 1) := by decide +kernel
theorem dX4_entryOf_14 : decode cX4_entryOf 14 = .ok (.getfield 11, 3) := by decide +kernel
theorem dX4_entryOf_17 : decode cX4_entryOf 17 = .ok (.iload_n 1, 1) := by decide +kernel
theorem dX4_entryOf_18 : decode cX4_entryOf 18 = .ok (.aaload, 1) := by decide +kernel
theorem dX4_entryOf_19 : decode cX4_entryOf 19 = .ok (.goto 4, 3) := by decide +kernel
theorem dX4_entryOf_22 : decode cX4_entryOf 22 = .ok (.aconst_null, 1) := by decide +kernel
theorem dX4_entryOf_23 : decode cX4_entryOf 23 = .ok (.areturn, 1) := by decide +kernel
theorem dX4_entryIn_0 : decode cX4_entryIn 0 = .ok (.aload_n 0, 1) := by decide +kernel
theorem dX4_entryIn_1 : decode cX4_entryIn 1 = .ok (.aload_n 0, 1) := by decide +kernel
theorem dX4_entryIn_2 : decode cX4_entryIn 2 = .ok (.getfield 18, 3) := by decide +kernel
theorem dX4_entryIn_5 : decode cX4_entryIn 5 = .ok (.iconst 0, 1) := by decide +kernel
theorem dX4_entryIn_6 : decode cX4_entryIn 6 = .ok (.iload_n 1, 1) := by decide +kernel
theorem dX4_entryIn_7 : decode cX4_entryIn 7 = .ok (.invokevirtual 112, 3) := by decide +kernel
theorem dX4_entryIn_10 : decode cX4_entryIn 10 = .ok (.invokevirtual 95, 3) := by decide +kernel
theorem dX4_entryIn_13 : decode cX4_entryIn 13 = .ok (.areturn, 1) := by decide +kernel
theorem dX4_holdsStream_0 : decode cX4_holdsStream 0 = .ok (.aload_n 0, 1) := by decide +kernel
theorem dX4_holdsStream_1 : decode cX4_holdsStream 1 = .ok (.iload_n 1, 1) := by decide +kernel
theorem dX4_holdsStream_2 : decode cX4_holdsStream 2 = .ok (.invokevirtual 84, 3) := by decide +kernel
theorem dX4_holdsStream_5 : decode cX4_holdsStream 5 = .ok (.astore_n 3, 1) := by decide +kernel
theorem dX4_holdsStream_6 : decode cX4_holdsStream 6 = .ok (.aload_n 3, 1) := by decide +kernel
theorem dX4_holdsStream_7 : decode cX4_holdsStream 7 = .ok (.ifnull 18, 3) := by decide +kernel
theorem dX4_holdsStream_10 : decode cX4_holdsStream 10 = .ok (.iload_n 2, 1) := by decide +kernel
theorem dX4_holdsStream_11 : decode cX4_holdsStream 11 = .ok (.aload_n 3, 1) := by decide +kernel
theorem dX4_holdsStream_12 : decode cX4_holdsStream 12 = .ok (.getfield 88, 3) := by decide +kernel
theorem dX4_holdsStream_15 : decode cX4_holdsStream 15 = .ok (.invokestatic 187, 3) := by decide +kernel
theorem dX4_holdsStream_18 : decode cX4_holdsStream 18 = .ok (.ifCond .eq 7, 3) := by decide +kernel
theorem dX4_holdsStream_21 : decode cX4_holdsStream 21 = .ok (.iconst 1, 1) := by decide +kernel
theorem dX4_holdsStream_22 : decode cX4_holdsStream 22 = .ok (.goto 4, 3) := by decide +kernel
theorem dX4_holdsStream_25 : decode cX4_holdsStream 25 = .ok (.iconst 0, 1) := by decide +kernel
theorem dX4_holdsStream_26 : decode cX4_holdsStream 26 = .ok (.ireturn, 1) := by decide +kernel
theorem dX4_latestAhead_0 : decode cX4_latestAhead 0 = .ok (.iload_n 2, 1) := by decide +kernel
theorem dX4_latestAhead_1 : decode cX4_latestAhead 1 = .ok (.iconst 1, 1) := by decide +kernel
theorem dX4_latestAhead_2 : decode cX4_latestAhead 2 = .ok (.isub, 1) := by decide +kernel
theorem dX4_latestAhead_3 : decode cX4_latestAhead 3 = .ok (.istore_n 3, 1) := by decide +kernel
theorem dX4_latestAhead_4 : decode cX4_latestAhead 4 = .ok (.iload_n 3, 1) := by decide +kernel
theorem dX4_latestAhead_5 : decode cX4_latestAhead 5 = .ok (.ifCond .lt 20, 3) := by decide +kernel
theorem dX4_latestAhead_8 : decode cX4_latestAhead 8 = .ok (.aload_n 0, 1) := by decide +kernel
theorem dX4_latestAhead_9 : decode cX4_latestAhead 9 = .ok (.iload_n 3, 1) := by decide +kernel
theorem dX4_latestAhead_10 : decode cX4_latestAhead 10 = .ok (.iload_n 1, 1) := by decide +kernel
theorem dX4_latestAhead_11 : decode cX4_latestAhead 11 = .ok (.invokevirtual 164, 3) := by decide +kernel
theorem dX4_latestAhead_14 : decode cX4_latestAhead 14 = .ok (.ifCond .eq 5, 3) := by decide +kernel
theorem dX4_latestAhead_17 : decode cX4_latestAhead 17 = .ok (.iload_n 3, 1) := by decide +kernel
theorem dX4_latestAhead_18 : decode cX4_latestAhead 18 = .ok (.ireturn, 1) := by decide +kernel
theorem dX4_latestAhead_19 : decode cX4_latestAhead 19 = .ok (.iinc 3 (-1), 3) := by decide +kernel
theorem dX4_latestAhead_22 : decode cX4_latestAhead 22 = .ok (.goto (-18), 3) := by decide +kernel
theorem dX4_latestAhead_25 : decode cX4_latestAhead 25 = .ok (.iconst (-1), 1) := by decide +kernel
theorem dX4_latestAhead_26 : decode cX4_latestAhead 26 = .ok (.ireturn, 1) := by decide +kernel
theorem dX4_previousByPointers_0 : decode cX4_previousByPointers 0 = .ok (.aload_n 0, 1) := by decide +kernel
theorem dX4_previousByPointers_1 : decode cX4_previousByPointers 1 = .ok (.iload_n 2, 1) := by decide +kernel
theorem dX4_previousByPointers_2 : decode cX4_previousByPointers 2 = .ok (.invokevirtual 84, 3) := by decide +kernel
theorem dX4_previousByPointers_5 : decode cX4_previousByPointers 5 = .ok (.astore_n 3, 1) := by decide +kernel
theorem dX4_previousByPointers_6 : decode cX4_previousByPointers 6 = .ok (.aload_n 3, 1) := by decide +kernel
theorem dX4_previousByPointers_7 : decode cX4_previousByPointers 7 = .ok (.ifnonnull 5, 3) := by decide +kernel
theorem dX4_previousByPointers_10 : decode cX4_previousByPointers 10 = .ok (.iconst (-1), 1) := by decide +kernel
theorem dX4_previousByPointers_11 : decode cX4_previousByPointers 11 = .ok (.ireturn, 1) := by decide +kernel
theorem dX4_previousByPointers_12 : decode cX4_previousByPointers 12 = .ok (.iconst (-1), 1) := by decide +kernel
theorem dX4_previousByPointers_13 : decode cX4_previousByPointers 13 = .ok (.istore 4, 2) := by decide +kernel
theorem dX4_previousByPointers_15 : decode cX4_previousByPointers 15 = .ok (.iconst 0, 1) := by decide +kernel
theorem dX4_previousByPointers_16 : decode cX4_previousByPointers 16 = .ok (.istore 5, 2) := by decide +kernel
theorem dX4_previousByPointers_18 : decode cX4_previousByPointers 18 = .ok (.iload 5, 2) := by decide +kernel
theorem dX4_previousByPointers_20 : decode cX4_previousByPointers 20 = .ok (.iconst 4, 1) := by decide +kernel
theorem dX4_previousByPointers_21 : decode cX4_previousByPointers 21 = .ok (.if_icmp .ge 45, 3) := by decide +kernel
theorem dX4_previousByPointers_24 : decode cX4_previousByPointers 24 = .ok (.aload_n 3, 1) := by decide +kernel
theorem dX4_previousByPointers_25 : decode cX4_previousByPointers 25 = .ok (.getfield 138, 3) := by decide +kernel
theorem dX4_previousByPointers_28 : decode cX4_previousByPointers 28 = .ok (.iload_n 1, 1) := by decide +kernel
theorem dX4_previousByPointers_29 : decode cX4_previousByPointers 29 = .ok (.iload 5, 2) := by decide +kernel
theorem dX4_previousByPointers_31 : decode cX4_previousByPointers 31 = .ok (.invokevirtual 141, 3) := by decide +kernel
theorem dX4_previousByPointers_34 : decode cX4_previousByPointers 34 = .ok (.istore 6, 2) := by decide +kernel
theorem dX4_previousByPointers_36 : decode cX4_previousByPointers 36 = .ok (.iload 6, 2) := by decide +kernel
theorem dX4_previousByPointers_38 : decode cX4_previousByPointers 38 = .ok (.iconst (-1), 1) := by decide +kernel
theorem dX4_previousByPointers_39 : decode cX4_previousByPointers 39 = .ok (.if_icmp .ne 5, 3) := by decide +kernel
theorem dX4_previousByPointers_42 : decode cX4_previousByPointers 42 = .ok (.iconst (-1), 1) := by decide +kernel
theorem dX4_previousByPointers_43 : decode cX4_previousByPointers 43 = .ok (.ireturn, 1) := by decide +kernel
theorem dX4_previousByPointers_44 : decode cX4_previousByPointers 44 = .ok (.aload_n 0, 1) := by decide +kernel
theorem dX4_previousByPointers_45 : decode cX4_previousByPointers 45 = .ok (.iload 6, 2) := by decide +kernel
theorem dX4_previousByPointers_47 : decode cX4_previousByPointers 47 = .ok (.invokevirtual 84, 3) := by decide +kernel
theorem dX4_previousByPointers_50 : decode cX4_previousByPointers 50 = .ok (.ifnull 6, 3) := by decide +kernel
theorem dX4_previousByPointers_53 : decode cX4_previousByPointers 53 = .ok (.iload 6, 2) := by decide +kernel
theorem dX4_previousByPointers_55 : decode cX4_previousByPointers 55 = .ok (.ireturn, 1) := by decide +kernel
theorem dX4_previousByPointers_56 : decode cX4_previousByPointers 56 = .ok (.iload 6, 2) := by decide +kernel
theorem dX4_previousByPointers_58 : decode cX4_previousByPointers 58 = .ok (.istore 4, 2) := by decide +kernel
theorem dX4_previousByPointers_60 : decode cX4_previousByPointers 60 = .ok (.iinc 5 1, 3) := by decide +kernel
theorem dX4_previousByPointers_63 : decode cX4_previousByPointers 63 = .ok (.goto (-45), 3) := by decide +kernel
theorem dX4_previousByPointers_66 : decode cX4_previousByPointers 66 = .ok (.aload_n 0, 1) := by decide +kernel
theorem dX4_previousByPointers_67 : decode cX4_previousByPointers 67 = .ok (.iload_n 1, 1) := by decide +kernel
theorem dX4_previousByPointers_68 : decode cX4_previousByPointers 68 = .ok (.iload 4, 2) := by decide +kernel
theorem dX4_previousByPointers_70 : decode cX4_previousByPointers 70 = .ok (.invokevirtual 172, 3) := by decide +kernel
theorem dX4_previousByPointers_73 : decode cX4_previousByPointers 73 = .ok (.ireturn, 1) := by decide +kernel
theorem dX4_foldUpTo_0 : decode cX4_foldUpTo 0 = .ok (.aload_n 0, 1) := by decide +kernel
theorem dX4_foldUpTo_1 : decode cX4_foldUpTo 1 = .ok (.getfield 32, 3) := by decide +kernel
theorem dX4_foldUpTo_4 : decode cX4_foldUpTo 4 = .ok (.invokevirtual 190, 3) := by decide +kernel
theorem dX4_foldUpTo_7 : decode cX4_foldUpTo 7 = .ok (.iconst 0, 1) := by decide +kernel
theorem dX4_foldUpTo_8 : decode cX4_foldUpTo 8 = .ok (.istore_n 2, 1) := by decide +kernel
theorem dX4_foldUpTo_9 : decode cX4_foldUpTo 9 = .ok (.iload_n 2, 1) := by decide +kernel
theorem dX4_foldUpTo_10 : decode cX4_foldUpTo 10 = .ok (.iload_n 1, 1) := by decide +kernel
theorem dX4_foldUpTo_11 : decode cX4_foldUpTo 11 = .ok (.if_icmp .ge 21, 3) := by decide +kernel
theorem dX4_foldUpTo_14 : decode cX4_foldUpTo 14 = .ok (.aload_n 0, 1) := by decide +kernel
theorem dX4_foldUpTo_15 : decode cX4_foldUpTo 15 = .ok (.getfield 32, 3) := by decide +kernel
theorem dX4_foldUpTo_18 : decode cX4_foldUpTo 18 = .ok (.aload_n 0, 1) := by decide +kernel
theorem dX4_foldUpTo_19 : decode cX4_foldUpTo 19 = .ok (.iload_n 2, 1) := by decide +kernel
theorem dX4_foldUpTo_20 : decode cX4_foldUpTo 20 = .ok (.invokevirtual 84, 3) := by decide +kernel
theorem dX4_foldUpTo_23 : decode cX4_foldUpTo 23 = .ok (.invokevirtual 193, 3) := by decide +kernel
theorem dX4_foldUpTo_26 : decode cX4_foldUpTo 26 = .ok (.iinc 2 1, 3) := by decide +kernel
theorem dX4_foldUpTo_29 : decode cX4_foldUpTo 29 = .ok (.goto (-20), 3) := by decide +kernel
theorem dX4_foldUpTo_32 : decode cX4_foldUpTo 32 = .ok (.return_, 1) := by decide +kernel
theorem dX4_effectOf_0 : decode cX4_effectOf 0 = .ok (.aload_n 0, 1) := by decide +kernel
theorem dX4_effectOf_1 : decode cX4_effectOf 1 = .ok (.iload_n 1, 1) := by decide +kernel
theorem dX4_effectOf_2 : decode cX4_effectOf 2 = .ok (.invokevirtual 84, 3) := by decide +kernel
theorem dX4_effectOf_5 : decode cX4_effectOf 5 = .ok (.astore_n 2, 1) := by decide +kernel
theorem dX4_effectOf_6 : decode cX4_effectOf 6 = .ok (.aload_n 2, 1) := by decide +kernel
theorem dX4_effectOf_7 : decode cX4_effectOf 7 = .ok (.ifnull 21, 3) := by decide +kernel
theorem dX4_effectOf_10 : decode cX4_effectOf 10 = .ok (.aload_n 0, 1) := by decide +kernel
theorem dX4_effectOf_11 : decode cX4_effectOf 11 = .ok (.getfield 32, 3) := by decide +kernel
theorem dX4_effectOf_14 : decode cX4_effectOf 14 = .ok (.iload_n 1, 1) := by decide +kernel
theorem dX4_effectOf_15 : decode cX4_effectOf 15 = .ok (.invokevirtual 156, 3) := by decide +kernel
theorem dX4_effectOf_18 : decode cX4_effectOf 18 = .ok (.ifCond .eq 10, 3) := by decide +kernel
theorem dX4_effectOf_21 : decode cX4_effectOf 21 = .ok (.aload_n 2, 1) := by decide +kernel
theorem dX4_effectOf_22 : decode cX4_effectOf 22 = .ok (.getfield 197, 3) := by decide +kernel
theorem dX4_effectOf_25 : decode cX4_effectOf 25 = .ok (.goto 4, 3) := by decide +kernel
theorem dX4_effectOf_28 : decode cX4_effectOf 28 = .ok (.iconst 0, 1) := by decide +kernel
theorem dX4_effectOf_29 : decode cX4_effectOf 29 = .ok (.ireturn, 1) := by decide +kernel
