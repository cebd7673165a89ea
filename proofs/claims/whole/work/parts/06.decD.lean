theorem dL_take_0 : decode cL_take 0 = .ok (.aload_n 3, 1) := by decide +kernel
theorem dL_take_1 : decode cL_take 1 = .ok (.iconst 0, 1) := by decide +kernel
theorem dL_take_2 : decode cL_take 2 = .ok (.aload_n 0, 1) := by decide +kernel
theorem dL_take_3 : decode cL_take 3 = .ok (.iload_n 1, 1) := by decide +kernel
theorem dL_take_4 : decode cL_take 4 = .ok (.iload_n 2, 1) := by decide +kernel
theorem dL_take_5 : decode cL_take 5 = .ok (.invokevirtual 7, 3) := by decide +kernel
theorem dL_take_8 : decode cL_take 8 = .ok (.i2l, 1) := by decide +kernel
theorem dL_take_9 : decode cL_take 9 = .ok (.lastore, 1) := by decide +kernel
theorem dL_take_10 : decode cL_take 10 = .ok (.goto 11, 3) := by decide +kernel
theorem dL_take_13 : decode cL_take 13 = .ok (.astore 4, 2) := by decide +kernel
theorem dL_take_15 : decode cL_take 15 = .ok (.iconst 1, 1) := by decide +kernel
theorem dL_take_16 : decode cL_take 16 = .ok (.ireturn, 1) := by decide +kernel
theorem dL_take_17 : decode cL_take 17 = .ok (.astore 4, 2) := by decide +kernel
theorem dL_take_19 : decode cL_take 19 = .ok (.iconst 2, 1) := by decide +kernel
theorem dL_take_20 : decode cL_take 20 = .ok (.ireturn, 1) := by decide +kernel
theorem dL_take_21 : decode cL_take 21 = .ok (.iconst 0, 1) := by decide +kernel
theorem dL_take_22 : decode cL_take 22 = .ok (.ireturn, 1) := by decide +kernel
theorem dL_takeIf_0 : decode cL_takeIf 0 = .ok (.aload 5, 2) := by decide +kernel
theorem dL_takeIf_2 : decode cL_takeIf 2 = .ok (.iconst 0, 1) := by decide +kernel
theorem dL_takeIf_3 : decode cL_takeIf 3 = .ok (.aload_n 0, 1) := by decide +kernel
theorem dL_takeIf_4 : decode cL_takeIf 4 = .ok (.iload_n 1, 1) := by decide +kernel
theorem dL_takeIf_5 : decode cL_takeIf 5 = .ok (.iload_n 2, 1) := by decide +kernel
theorem dL_takeIf_6 : decode cL_takeIf 6 = .ok (.iload_n 3, 1) := by decide +kernel
theorem dL_takeIf_7 : decode cL_takeIf 7 = .ok (.iload 4, 2) := by decide +kernel
theorem dL_takeIf_9 : decode cL_takeIf 9 = .ok (.invokevirtual 17, 3) := by decide +kernel
theorem dL_takeIf_12 : decode cL_takeIf 12 = .ok (.i2l, 1) := by decide +kernel
theorem dL_takeIf_13 : decode cL_takeIf 13 = .ok (.lastore, 1) := by decide +kernel
theorem dL_takeIf_14 : decode cL_takeIf 14 = .ok (.goto 11, 3) := by decide +kernel
theorem dL_takeIf_17 : decode cL_takeIf 17 = .ok (.astore 6, 2) := by decide +kernel
theorem dL_takeIf_19 : decode cL_takeIf 19 = .ok (.iconst 1, 1) := by decide +kernel
theorem dL_takeIf_20 : decode cL_takeIf 20 = .ok (.ireturn, 1) := by decide +kernel
theorem dL_takeIf_21 : decode cL_takeIf 21 = .ok (.astore 6, 2) := by decide +kernel
theorem dL_takeIf_23 : decode cL_takeIf 23 = .ok (.iconst 2, 1) := by decide +kernel
theorem dL_takeIf_24 : decode cL_takeIf 24 = .ok (.ireturn, 1) := by decide +kernel
theorem dL_takeIf_25 : decode cL_takeIf 25 = .ok (.iconst 0, 1) := by decide +kernel
theorem dL_takeIf_26 : decode cL_takeIf 26 = .ok (.ireturn, 1) := by decide +kernel
theorem dL_lose_0 : decode cL_lose 0 = .ok (.aload_n 1, 1) := by decide +kernel
theorem dL_lose_1 : decode cL_lose 1 = .ok (.iconst 0, 1) := by decide +kernel
theorem dL_lose_2 : decode cL_lose 2 = .ok (.aload_n 0, 1) := by decide +kernel
theorem dL_lose_3 : decode cL_lose 3 = .ok (.invokevirtual 21, 3) := by decide +kernel
theorem dL_lose_6 : decode cL_lose 6 = .ok (.i2l, 1) := by decide +kernel
theorem dL_lose_7 : decode cL_lose 7 = .ok (.lastore, 1) := by decide +kernel
theorem dL_lose_8 : decode cL_lose 8 = .ok (.goto 6, 3) := by decide +kernel
theorem dL_lose_11 : decode cL_lose 11 = .ok (.astore_n 2, 1) := by decide +kernel
theorem dL_lose_12 : decode cL_lose 12 = .ok (.iconst 1, 1) := by decide +kernel
theorem dL_lose_13 : decode cL_lose 13 = .ok (.ireturn, 1) := by decide +kernel
theorem dL_lose_14 : decode cL_lose 14 = .ok (.iconst 0, 1) := by decide +kernel
theorem dL_lose_15 : decode cL_lose 15 = .ok (.ireturn, 1) := by decide +kernel
theorem dL_write_0 : decode cL_write 0 = .ok (.aload_n 2, 1) := by decide +kernel
theorem dL_write_1 : decode cL_write 1 = .ok (.iconst 0, 1) := by decide +kernel
theorem dL_write_2 : decode cL_write 2 = .ok (.aload_n 0, 1) := by decide +kernel
theorem dL_write_3 : decode cL_write 3 = .ok (.iload_n 1, 1) := by decide +kernel
theorem dL_write_4 : decode cL_write 4 = .ok (.invokevirtual 25, 3) := by decide +kernel
theorem dL_write_7 : decode cL_write 7 = .ok (.i2l, 1) := by decide +kernel
theorem dL_write_8 : decode cL_write 8 = .ok (.lastore, 1) := by decide +kernel
theorem dL_write_9 : decode cL_write 9 = .ok (.goto 9, 3) := by decide +kernel
theorem dL_write_12 : decode cL_write 12 = .ok (.astore_n 3, 1) := by decide +kernel
theorem dL_write_13 : decode cL_write 13 = .ok (.iconst 1, 1) := by decide +kernel
theorem dL_write_14 : decode cL_write 14 = .ok (.ireturn, 1) := by decide +kernel
theorem dL_write_15 : decode cL_write 15 = .ok (.astore_n 3, 1) := by decide +kernel
theorem dL_write_16 : decode cL_write 16 = .ok (.iconst 2, 1) := by decide +kernel
theorem dL_write_17 : decode cL_write 17 = .ok (.ireturn, 1) := by decide +kernel
theorem dL_write_18 : decode cL_write 18 = .ok (.iconst 0, 1) := by decide +kernel
theorem dL_write_19 : decode cL_write 19 = .ok (.ireturn, 1) := by decide +kernel
theorem dL_fill_0 : decode cL_fill 0 = .ok (.aload_n 2, 1) := by decide +kernel
theorem dL_fill_1 : decode cL_fill 1 = .ok (.iconst 0, 1) := by decide +kernel
theorem dL_fill_2 : decode cL_fill 2 = .ok (.aload_n 0, 1) := by decide +kernel
theorem dL_fill_3 : decode cL_fill 3 = .ok (.iload_n 1, 1) := by decide +kernel
theorem dL_fill_4 : decode cL_fill 4 = .ok (.invokevirtual 31, 3) := by decide +kernel
theorem dL_fill_7 : decode cL_fill 7 = .ok (.ifCond .eq 7, 3) := by decide +kernel
theorem dL_fill_10 : decode cL_fill 10 = .ok (.lconst 1, 1) := by decide +kernel
theorem dL_fill_11 : decode cL_fill 11 = .ok (.goto 4, 3) := by decide +kernel
theorem dL_fill_14 : decode cL_fill 14 = .ok (.lconst 0, 1) := by decide +kernel
theorem dL_fill_15 : decode cL_fill 15 = .ok (.lastore, 1) := by decide +kernel
theorem dL_fill_16 : decode cL_fill 16 = .ok (.goto 9, 3) := by decide +kernel
theorem dL_fill_19 : decode cL_fill 19 = .ok (.astore_n 3, 1) := by decide +kernel
theorem dL_fill_20 : decode cL_fill 20 = .ok (.iconst 1, 1) := by decide +kernel
theorem dL_fill_21 : decode cL_fill 21 = .ok (.ireturn, 1) := by decide +kernel
theorem dL_fill_22 : decode cL_fill 22 = .ok (.astore_n 3, 1) := by decide +kernel
theorem dL_fill_23 : decode cL_fill 23 = .ok (.iconst 2, 1) := by decide +kernel
theorem dL_fill_24 : decode cL_fill 24 = .ok (.ireturn, 1) := by decide +kernel
theorem dL_fill_25 : decode cL_fill 25 = .ok (.iconst 0, 1) := by decide +kernel
theorem dL_fill_26 : decode cL_fill 26 = .ok (.ireturn, 1) := by decide +kernel
theorem dL_positionOf_0 : decode cL_positionOf 0 = .ok (.aload_n 2, 1) := by decide +kernel
theorem dL_positionOf_1 : decode cL_positionOf 1 = .ok (.iconst 0, 1) := by decide +kernel
theorem dL_positionOf_2 : decode cL_positionOf 2 = .ok (.aload_n 0, 1) := by decide +kernel
theorem dL_positionOf_3 : decode cL_positionOf 3 = .ok (.iload_n 1, 1) := by decide +kernel
theorem dL_positionOf_4 : decode cL_positionOf 4 = .ok (.invokevirtual 35, 3) := by decide +kernel
theorem dL_positionOf_7 : decode cL_positionOf 7 = .ok (.i2l, 1) := by decide +kernel
theorem dL_positionOf_8 : decode cL_positionOf 8 = .ok (.lastore, 1) := by decide +kernel
theorem dL_positionOf_9 : decode cL_positionOf 9 = .ok (.goto 6, 3) := by decide +kernel
theorem dL_positionOf_12 : decode cL_positionOf 12 = .ok (.astore_n 3, 1) := by decide +kernel
theorem dL_positionOf_13 : decode cL_positionOf 13 = .ok (.iconst 1, 1) := by decide +kernel
theorem dL_positionOf_14 : decode cL_positionOf 14 = .ok (.ireturn, 1) := by decide +kernel
theorem dL_positionOf_15 : decode cL_positionOf 15 = .ok (.iconst 0, 1) := by decide +kernel
theorem dL_positionOf_16 : decode cL_positionOf 16 = .ok (.ireturn, 1) := by decide +kernel
theorem dL_stateOf_0 : decode cL_stateOf 0 = .ok (.aload_n 2, 1) := by decide +kernel
theorem dL_stateOf_1 : decode cL_stateOf 1 = .ok (.iconst 0, 1) := by decide +kernel
theorem dL_stateOf_2 : decode cL_stateOf 2 = .ok (.aload_n 0, 1) := by decide +kernel
theorem dL_stateOf_3 : decode cL_stateOf 3 = .ok (.iload_n 1, 1) := by decide +kernel
theorem dL_stateOf_4 : decode cL_stateOf 4 = .ok (.invokevirtual 38, 3) := by decide +kernel
theorem dL_stateOf_7 : decode cL_stateOf 7 = .ok (.i2l, 1) := by decide +kernel
theorem dL_stateOf_8 : decode cL_stateOf 8 = .ok (.lastore, 1) := by decide +kernel
theorem dL_stateOf_9 : decode cL_stateOf 9 = .ok (.goto 6, 3) := by decide +kernel
theorem dL_stateOf_12 : decode cL_stateOf 12 = .ok (.astore_n 3, 1) := by decide +kernel
theorem dL_stateOf_13 : decode cL_stateOf 13 = .ok (.iconst 1, 1) := by decide +kernel
theorem dL_stateOf_14 : decode cL_stateOf 14 = .ok (.ireturn, 1) := by decide +kernel
theorem dL_stateOf_15 : decode cL_stateOf 15 = .ok (.iconst 0, 1) := by decide +kernel
theorem dL_stateOf_16 : decode cL_stateOf 16 = .ok (.ireturn, 1) := by decide +kernel
theorem dL_pointer_0 : decode cL_pointer 0 = .ok (.aload 4, 2) := by decide +kernel
theorem dL_pointer_2 : decode cL_pointer 2 = .ok (.iconst 0, 1) := by decide +kernel
theorem dL_pointer_3 : decode cL_pointer 3 = .ok (.aload_n 0, 1) := by decide +kernel
theorem dL_pointer_4 : decode cL_pointer 4 = .ok (.iload_n 1, 1) := by decide +kernel
theorem dL_pointer_5 : decode cL_pointer 5 = .ok (.iload_n 2, 1) := by decide +kernel
theorem dL_pointer_6 : decode cL_pointer 6 = .ok (.iload_n 3, 1) := by decide +kernel
theorem dL_pointer_7 : decode cL_pointer 7 = .ok (.invokevirtual 41, 3) := by decide +kernel
theorem dL_pointer_10 : decode cL_pointer 10 = .ok (.i2l, 1) := by decide +kernel
theorem dL_pointer_11 : decode cL_pointer 11 = .ok (.lastore, 1) := by decide +kernel
theorem dL_pointer_12 : decode cL_pointer 12 = .ok (.goto 7, 3) := by decide +kernel
theorem dL_pointer_15 : decode cL_pointer 15 = .ok (.astore 5, 2) := by decide +kernel
theorem dL_pointer_17 : decode cL_pointer 17 = .ok (.iconst 1, 1) := by decide +kernel
theorem dL_pointer_18 : decode cL_pointer 18 = .ok (.ireturn, 1) := by decide +kernel
theorem dL_pointer_19 : decode cL_pointer 19 = .ok (.iconst 0, 1) := by decide +kernel
theorem dL_pointer_20 : decode cL_pointer 20 = .ok (.ireturn, 1) := by decide +kernel
theorem dL_cellAt_0 : decode cL_cellAt 0 = .ok (.aload_n 3, 1) := by decide +kernel
theorem dL_cellAt_1 : decode cL_cellAt 1 = .ok (.iconst 0, 1) := by decide +kernel
theorem dL_cellAt_2 : decode cL_cellAt 2 = .ok (.aload_n 0, 1) := by decide +kernel
theorem dL_cellAt_3 : decode cL_cellAt 3 = .ok (.iload_n 1, 1) := by decide +kernel
theorem dL_cellAt_4 : decode cL_cellAt 4 = .ok (.iload_n 2, 1) := by decide +kernel
theorem dL_cellAt_5 : decode cL_cellAt 5 = .ok (.invokevirtual 45, 3) := by decide +kernel
theorem dL_cellAt_8 : decode cL_cellAt 8 = .ok (.i2l, 1) := by decide +kernel
theorem dL_cellAt_9 : decode cL_cellAt 9 = .ok (.lastore, 1) := by decide +kernel
theorem dL_cellAt_10 : decode cL_cellAt 10 = .ok (.goto 7, 3) := by decide +kernel
theorem dL_cellAt_13 : decode cL_cellAt 13 = .ok (.astore 4, 2) := by decide +kernel
theorem dL_cellAt_15 : decode cL_cellAt 15 = .ok (.iconst 1, 1) := by decide +kernel
theorem dL_cellAt_16 : decode cL_cellAt 16 = .ok (.ireturn, 1) := by decide +kernel
theorem dL_cellAt_17 : decode cL_cellAt 17 = .ok (.iconst 0, 1) := by decide +kernel
theorem dL_cellAt_18 : decode cL_cellAt 18 = .ok (.ireturn, 1) := by decide +kernel
theorem dL_takesEffect_0 : decode cL_takesEffect 0 = .ok (.aload_n 2, 1) := by decide +kernel
theorem dL_takesEffect_1 : decode cL_takesEffect 1 = .ok (.iconst 0, 1) := by decide +kernel
theorem dL_takesEffect_2 : decode cL_takesEffect 2 = .ok (.aload_n 0, 1) := by decide +kernel
theorem dL_takesEffect_3 : decode cL_takesEffect 3 = .ok (.iload_n 1, 1) := by decide +kernel
theorem dL_takesEffect_4 : decode cL_takesEffect 4 = .ok (.invokevirtual 48, 3) := by decide +kernel
theorem dL_takesEffect_7 : decode cL_takesEffect 7 = .ok (.ifCond .eq 7, 3) := by decide +kernel
theorem dL_takesEffect_10 : decode cL_takesEffect 10 = .ok (.lconst 1, 1) := by decide +kernel
theorem dL_takesEffect_11 : decode cL_takesEffect 11 = .ok (.goto 4, 3) := by decide +kernel
theorem dL_takesEffect_14 : decode cL_takesEffect 14 = .ok (.lconst 0, 1) := by decide +kernel
theorem dL_takesEffect_15 : decode cL_takesEffect 15 = .ok (.lastore, 1) := by decide +kernel
theorem dL_takesEffect_16 : decode cL_takesEffect 16 = .ok (.goto 6, 3) := by decide +kernel
theorem dL_takesEffect_19 : decode cL_takesEffect 19 = .ok (.astore_n 3, 1) := by decide +kernel
theorem dL_takesEffect_20 : decode cL_takesEffect 20 = .ok (.iconst 1, 1) := by decide +kernel
theorem dL_takesEffect_21 : decode cL_takesEffect 21 = .ok (.ireturn, 1) := by decide +kernel
theorem dL_takesEffect_22 : decode cL_takesEffect 22 = .ok (.iconst 0, 1) := by decide +kernel
theorem dL_takesEffect_23 : decode cL_takesEffect 23 = .ok (.ireturn, 1) := by decide +kernel
theorem dL_value_0 : decode cL_value 0 = .ok (.aload_n 3, 1) := by decide +kernel
theorem dL_value_1 : decode cL_value 1 = .ok (.iconst 0, 1) := by decide +kernel
theorem dL_value_2 : decode cL_value 2 = .ok (.aload_n 0, 1) := by decide +kernel
theorem dL_value_3 : decode cL_value 3 = .ok (.iload_n 1, 1) := by decide +kernel
theorem dL_value_4 : decode cL_value 4 = .ok (.iload_n 2, 1) := by decide +kernel
theorem dL_value_5 : decode cL_value 5 = .ok (.invokevirtual 51, 3) := by decide +kernel
theorem dL_value_8 : decode cL_value 8 = .ok (.i2l, 1) := by decide +kernel
theorem dL_value_9 : decode cL_value 9 = .ok (.lastore, 1) := by decide +kernel
theorem dL_value_10 : decode cL_value 10 = .ok (.goto 7, 3) := by decide +kernel
theorem dL_value_13 : decode cL_value 13 = .ok (.astore 4, 2) := by decide +kernel
theorem dL_value_15 : decode cL_value 15 = .ok (.iconst 1, 1) := by decide +kernel
theorem dL_value_16 : decode cL_value 16 = .ok (.ireturn, 1) := by decide +kernel
theorem dL_value_17 : decode cL_value 17 = .ok (.iconst 0, 1) := by decide +kernel
theorem dL_value_18 : decode cL_value 18 = .ok (.ireturn, 1) := by decide +kernel
theorem dL_valueByPointers_0 : decode cL_valueByPointers 0 = .ok (.aload_n 3, 1) := by decide +kernel
theorem dL_valueByPointers_1 : decode cL_valueByPointers 1 = .ok (.iconst 0, 1) := by decide +kernel
theorem dL_valueByPointers_2 : decode cL_valueByPointers 2 = .ok (.aload_n 0, 1) := by decide +kernel
theorem dL_valueByPointers_3 : decode cL_valueByPointers 3 = .ok (.iload_n 1, 1) := by decide +kernel
theorem dL_valueByPointers_4 : decode cL_valueByPointers 4 = .ok (.iload_n 2, 1) := by decide +kernel
theorem dL_valueByPointers_5 : decode cL_valueByPointers 5 = .ok (.invokevirtual 54, 3) := by decide +kernel
theorem dL_valueByPointers_8 : decode cL_valueByPointers 8 = .ok (.i2l, 1) := by decide +kernel
theorem dL_valueByPointers_9 : decode cL_valueByPointers 9 = .ok (.lastore, 1) := by decide +kernel
theorem dL_valueByPointers_10 : decode cL_valueByPointers 10 = .ok (.goto 7, 3) := by decide +kernel
theorem dL_valueByPointers_13 : decode cL_valueByPointers 13 = .ok (.astore 4, 2) := by decide +kernel
theorem dL_valueByPointers_15 : decode cL_valueByPointers 15 = .ok (.iconst 1, 1) := by decide +kernel
theorem dL_valueByPointers_16 : decode cL_valueByPointers 16 = .ok (.ireturn, 1) := by decide +kernel
theorem dL_valueByPointers_17 : decode cL_valueByPointers 17 = .ok (.iconst 0, 1) := by decide +kernel
theorem dL_valueByPointers_18 : decode cL_valueByPointers 18 = .ok (.ireturn, 1) := by decide +kernel
theorem dL_latest_0 : decode cL_latest 0 = .ok (.aload_n 3, 1) := by decide +kernel
theorem dL_latest_1 : decode cL_latest 1 = .ok (.iconst 0, 1) := by decide +kernel
theorem dL_latest_2 : decode cL_latest 2 = .ok (.aload_n 0, 1) := by decide +kernel
theorem dL_latest_3 : decode cL_latest 3 = .ok (.iload_n 1, 1) := by decide +kernel
theorem dL_latest_4 : decode cL_latest 4 = .ok (.iload_n 2, 1) := by decide +kernel
theorem dL_latest_5 : decode cL_latest 5 = .ok (.invokevirtual 57, 3) := by decide +kernel
theorem dL_latest_8 : decode cL_latest 8 = .ok (.i2l, 1) := by decide +kernel
theorem dL_latest_9 : decode cL_latest 9 = .ok (.lastore, 1) := by decide +kernel
theorem dL_latest_10 : decode cL_latest 10 = .ok (.goto 7, 3) := by decide +kernel
theorem dL_latest_13 : decode cL_latest 13 = .ok (.astore 4, 2) := by decide +kernel
theorem dL_latest_15 : decode cL_latest 15 = .ok (.iconst 1, 1) := by decide +kernel
theorem dL_latest_16 : decode cL_latest 16 = .ok (.ireturn, 1) := by decide +kernel
theorem dL_latest_17 : decode cL_latest 17 = .ok (.iconst 0, 1) := by decide +kernel
theorem dL_latest_18 : decode cL_latest 18 = .ok (.ireturn, 1) := by decide +kernel
