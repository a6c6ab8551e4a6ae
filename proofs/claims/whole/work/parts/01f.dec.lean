theorem dL_put_0 : decode cL_put 0 = .ok (.aload 4, 2) := by decide +kernel
theorem dL_put_2 : decode cL_put 2 = .ok (.iconst 0, 1) := by decide +kernel
theorem dL_put_3 : decode cL_put 3 = .ok (.aload_n 0, 1) := by decide +kernel
theorem dL_put_4 : decode cL_put 4 = .ok (.iload_n 1, 1) := by decide +kernel
theorem dL_put_5 : decode cL_put 5 = .ok (.iload_n 2, 1) := by decide +kernel
theorem dL_put_6 : decode cL_put 6 = .ok (.iload_n 3, 1) := by decide +kernel
theorem dL_put_7 : decode cL_put 7 = .ok (.invokevirtual 7, 3) := by decide +kernel
theorem dL_put_10 : decode cL_put 10 = .ok (.i2l, 1) := by decide +kernel
theorem dL_put_11 : decode cL_put 11 = .ok (.lastore, 1) := by decide +kernel
theorem dL_put_12 : decode cL_put 12 = .ok (.goto 7, 3) := by decide +kernel
theorem dL_put_15 : decode cL_put 15 = .ok (.astore 5, 2) := by decide +kernel
theorem dL_put_17 : decode cL_put 17 = .ok (.iconst 1, 1) := by decide +kernel
theorem dL_put_18 : decode cL_put 18 = .ok (.ireturn, 1) := by decide +kernel
theorem dL_put_19 : decode cL_put 19 = .ok (.iconst 0, 1) := by decide +kernel
theorem dL_put_20 : decode cL_put 20 = .ok (.ireturn, 1) := by decide +kernel
theorem dL_putIfAbsent_0 : decode cL_putIfAbsent 0 = .ok (.aload 4, 2) := by decide +kernel
theorem dL_putIfAbsent_2 : decode cL_putIfAbsent 2 = .ok (.iconst 0, 1) := by decide +kernel
theorem dL_putIfAbsent_3 : decode cL_putIfAbsent 3 = .ok (.aload_n 0, 1) := by decide +kernel
theorem dL_putIfAbsent_4 : decode cL_putIfAbsent 4 = .ok (.iload_n 1, 1) := by decide +kernel
theorem dL_putIfAbsent_5 : decode cL_putIfAbsent 5 = .ok (.iload_n 2, 1) := by decide +kernel
theorem dL_putIfAbsent_6 : decode cL_putIfAbsent 6 = .ok (.iload_n 3, 1) := by decide +kernel
theorem dL_putIfAbsent_7 : decode cL_putIfAbsent 7 = .ok (.invokevirtual 15, 3) := by decide +kernel
theorem dL_putIfAbsent_10 : decode cL_putIfAbsent 10 = .ok (.i2l, 1) := by decide +kernel
theorem dL_putIfAbsent_11 : decode cL_putIfAbsent 11 = .ok (.lastore, 1) := by decide +kernel
theorem dL_putIfAbsent_12 : decode cL_putIfAbsent 12 = .ok (.goto 7, 3) := by decide +kernel
theorem dL_putIfAbsent_15 : decode cL_putIfAbsent 15 = .ok (.astore 5, 2) := by decide +kernel
theorem dL_putIfAbsent_17 : decode cL_putIfAbsent 17 = .ok (.iconst 1, 1) := by decide +kernel
theorem dL_putIfAbsent_18 : decode cL_putIfAbsent 18 = .ok (.ireturn, 1) := by decide +kernel
theorem dL_putIfAbsent_19 : decode cL_putIfAbsent 19 = .ok (.iconst 0, 1) := by decide +kernel
theorem dL_putIfAbsent_20 : decode cL_putIfAbsent 20 = .ok (.ireturn, 1) := by decide +kernel
theorem dL_get_0 : decode cL_get 0 = .ok (.aload_n 3, 1) := by decide +kernel
theorem dL_get_1 : decode cL_get 1 = .ok (.iconst 0, 1) := by decide +kernel
theorem dL_get_2 : decode cL_get 2 = .ok (.aload_n 0, 1) := by decide +kernel
theorem dL_get_3 : decode cL_get 3 = .ok (.iload_n 1, 1) := by decide +kernel
theorem dL_get_4 : decode cL_get 4 = .ok (.iload_n 2, 1) := by decide +kernel
theorem dL_get_5 : decode cL_get 5 = .ok (.invokevirtual 18, 3) := by decide +kernel
theorem dL_get_8 : decode cL_get 8 = .ok (.i2l, 1) := by decide +kernel
theorem dL_get_9 : decode cL_get 9 = .ok (.lastore, 1) := by decide +kernel
theorem dL_get_10 : decode cL_get 10 = .ok (.goto 7, 3) := by decide +kernel
theorem dL_get_13 : decode cL_get 13 = .ok (.astore 4, 2) := by decide +kernel
theorem dL_get_15 : decode cL_get 15 = .ok (.iconst 1, 1) := by decide +kernel
theorem dL_get_16 : decode cL_get 16 = .ok (.ireturn, 1) := by decide +kernel
theorem dL_get_17 : decode cL_get 17 = .ok (.iconst 0, 1) := by decide +kernel
theorem dL_get_18 : decode cL_get 18 = .ok (.ireturn, 1) := by decide +kernel
theorem dL_getOrDefault_0 : decode cL_getOrDefault 0 = .ok (.aload 4, 2) := by decide +kernel
theorem dL_getOrDefault_2 : decode cL_getOrDefault 2 = .ok (.iconst 0, 1) := by decide +kernel
theorem dL_getOrDefault_3 : decode cL_getOrDefault 3 = .ok (.aload_n 0, 1) := by decide +kernel
theorem dL_getOrDefault_4 : decode cL_getOrDefault 4 = .ok (.iload_n 1, 1) := by decide +kernel
theorem dL_getOrDefault_5 : decode cL_getOrDefault 5 = .ok (.iload_n 2, 1) := by decide +kernel
theorem dL_getOrDefault_6 : decode cL_getOrDefault 6 = .ok (.iload_n 3, 1) := by decide +kernel
theorem dL_getOrDefault_7 : decode cL_getOrDefault 7 = .ok (.invokevirtual 22, 3) := by decide +kernel
theorem dL_getOrDefault_10 : decode cL_getOrDefault 10 = .ok (.i2l, 1) := by decide +kernel
theorem dL_getOrDefault_11 : decode cL_getOrDefault 11 = .ok (.lastore, 1) := by decide +kernel
theorem dL_getOrDefault_12 : decode cL_getOrDefault 12 = .ok (.goto 7, 3) := by decide +kernel
theorem dL_getOrDefault_15 : decode cL_getOrDefault 15 = .ok (.astore 5, 2) := by decide +kernel
theorem dL_getOrDefault_17 : decode cL_getOrDefault 17 = .ok (.iconst 1, 1) := by decide +kernel
theorem dL_getOrDefault_18 : decode cL_getOrDefault 18 = .ok (.ireturn, 1) := by decide +kernel
theorem dL_getOrDefault_19 : decode cL_getOrDefault 19 = .ok (.iconst 0, 1) := by decide +kernel
theorem dL_getOrDefault_20 : decode cL_getOrDefault 20 = .ok (.ireturn, 1) := by decide +kernel
theorem dL_remove_0 : decode cL_remove 0 = .ok (.aload_n 3, 1) := by decide +kernel
theorem dL_remove_1 : decode cL_remove 1 = .ok (.iconst 0, 1) := by decide +kernel
theorem dL_remove_2 : decode cL_remove 2 = .ok (.aload_n 0, 1) := by decide +kernel
theorem dL_remove_3 : decode cL_remove 3 = .ok (.iload_n 1, 1) := by decide +kernel
theorem dL_remove_4 : decode cL_remove 4 = .ok (.iload_n 2, 1) := by decide +kernel
theorem dL_remove_5 : decode cL_remove 5 = .ok (.invokevirtual 25, 3) := by decide +kernel
theorem dL_remove_8 : decode cL_remove 8 = .ok (.i2l, 1) := by decide +kernel
theorem dL_remove_9 : decode cL_remove 9 = .ok (.lastore, 1) := by decide +kernel
theorem dL_remove_10 : decode cL_remove 10 = .ok (.goto 7, 3) := by decide +kernel
theorem dL_remove_13 : decode cL_remove 13 = .ok (.astore 4, 2) := by decide +kernel
theorem dL_remove_15 : decode cL_remove 15 = .ok (.iconst 1, 1) := by decide +kernel
theorem dL_remove_16 : decode cL_remove 16 = .ok (.ireturn, 1) := by decide +kernel
theorem dL_remove_17 : decode cL_remove 17 = .ok (.iconst 0, 1) := by decide +kernel
theorem dL_remove_18 : decode cL_remove 18 = .ok (.ireturn, 1) := by decide +kernel
theorem dL_clear_0 : decode cL_clear 0 = .ok (.aload_n 2, 1) := by decide +kernel
theorem dL_clear_1 : decode cL_clear 1 = .ok (.iconst 0, 1) := by decide +kernel
theorem dL_clear_2 : decode cL_clear 2 = .ok (.aload_n 0, 1) := by decide +kernel
theorem dL_clear_3 : decode cL_clear 3 = .ok (.iload_n 1, 1) := by decide +kernel
theorem dL_clear_4 : decode cL_clear 4 = .ok (.invokevirtual 28, 3) := by decide +kernel
theorem dL_clear_7 : decode cL_clear 7 = .ok (.i2l, 1) := by decide +kernel
theorem dL_clear_8 : decode cL_clear 8 = .ok (.lastore, 1) := by decide +kernel
theorem dL_clear_9 : decode cL_clear 9 = .ok (.goto 6, 3) := by decide +kernel
theorem dL_clear_12 : decode cL_clear 12 = .ok (.astore_n 3, 1) := by decide +kernel
theorem dL_clear_13 : decode cL_clear 13 = .ok (.iconst 1, 1) := by decide +kernel
theorem dL_clear_14 : decode cL_clear 14 = .ok (.ireturn, 1) := by decide +kernel
theorem dL_clear_15 : decode cL_clear 15 = .ok (.iconst 0, 1) := by decide +kernel
theorem dL_clear_16 : decode cL_clear 16 = .ok (.ireturn, 1) := by decide +kernel
theorem dL_setBound_0 : decode cL_setBound 0 = .ok (.aload_n 2, 1) := by decide +kernel
theorem dL_setBound_1 : decode cL_setBound 1 = .ok (.iconst 0, 1) := by decide +kernel
theorem dL_setBound_2 : decode cL_setBound 2 = .ok (.aload_n 0, 1) := by decide +kernel
theorem dL_setBound_3 : decode cL_setBound 3 = .ok (.iload_n 1, 1) := by decide +kernel
theorem dL_setBound_4 : decode cL_setBound 4 = .ok (.invokevirtual 32, 3) := by decide +kernel
theorem dL_setBound_7 : decode cL_setBound 7 = .ok (.i2l, 1) := by decide +kernel
theorem dL_setBound_8 : decode cL_setBound 8 = .ok (.lastore, 1) := by decide +kernel
theorem dL_setBound_9 : decode cL_setBound 9 = .ok (.goto 6, 3) := by decide +kernel
theorem dL_setBound_12 : decode cL_setBound 12 = .ok (.astore_n 3, 1) := by decide +kernel
theorem dL_setBound_13 : decode cL_setBound 13 = .ok (.iconst 1, 1) := by decide +kernel
theorem dL_setBound_14 : decode cL_setBound 14 = .ok (.ireturn, 1) := by decide +kernel
theorem dL_setBound_15 : decode cL_setBound 15 = .ok (.iconst 0, 1) := by decide +kernel
theorem dL_setBound_16 : decode cL_setBound 16 = .ok (.ireturn, 1) := by decide +kernel
theorem dL_hasKey_0 : decode cL_hasKey 0 = .ok (.aload_n 3, 1) := by decide +kernel
theorem dL_hasKey_1 : decode cL_hasKey 1 = .ok (.iconst 0, 1) := by decide +kernel
theorem dL_hasKey_2 : decode cL_hasKey 2 = .ok (.aload_n 0, 1) := by decide +kernel
theorem dL_hasKey_3 : decode cL_hasKey 3 = .ok (.iload_n 1, 1) := by decide +kernel
theorem dL_hasKey_4 : decode cL_hasKey 4 = .ok (.iload_n 2, 1) := by decide +kernel
theorem dL_hasKey_5 : decode cL_hasKey 5 = .ok (.invokevirtual 35, 3) := by decide +kernel
theorem dL_hasKey_8 : decode cL_hasKey 8 = .ok (.ifCond .eq 7, 3) := by decide +kernel
theorem dL_hasKey_11 : decode cL_hasKey 11 = .ok (.lconst 1, 1) := by decide +kernel
theorem dL_hasKey_12 : decode cL_hasKey 12 = .ok (.goto 4, 3) := by decide +kernel
theorem dL_hasKey_15 : decode cL_hasKey 15 = .ok (.lconst 0, 1) := by decide +kernel
theorem dL_hasKey_16 : decode cL_hasKey 16 = .ok (.lastore, 1) := by decide +kernel
theorem dL_hasKey_17 : decode cL_hasKey 17 = .ok (.goto 7, 3) := by decide +kernel
theorem dL_hasKey_20 : decode cL_hasKey 20 = .ok (.astore 4, 2) := by decide +kernel
theorem dL_hasKey_22 : decode cL_hasKey 22 = .ok (.iconst 1, 1) := by decide +kernel
theorem dL_hasKey_23 : decode cL_hasKey 23 = .ok (.ireturn, 1) := by decide +kernel
theorem dL_hasKey_24 : decode cL_hasKey 24 = .ok (.iconst 0, 1) := by decide +kernel
theorem dL_hasKey_25 : decode cL_hasKey 25 = .ok (.ireturn, 1) := by decide +kernel
theorem dL_hasValue_0 : decode cL_hasValue 0 = .ok (.aload_n 3, 1) := by decide +kernel
theorem dL_hasValue_1 : decode cL_hasValue 1 = .ok (.iconst 0, 1) := by decide +kernel
theorem dL_hasValue_2 : decode cL_hasValue 2 = .ok (.aload_n 0, 1) := by decide +kernel
theorem dL_hasValue_3 : decode cL_hasValue 3 = .ok (.iload_n 1, 1) := by decide +kernel
theorem dL_hasValue_4 : decode cL_hasValue 4 = .ok (.iload_n 2, 1) := by decide +kernel
theorem dL_hasValue_5 : decode cL_hasValue 5 = .ok (.invokevirtual 39, 3) := by decide +kernel
theorem dL_hasValue_8 : decode cL_hasValue 8 = .ok (.ifCond .eq 7, 3) := by decide +kernel
theorem dL_hasValue_11 : decode cL_hasValue 11 = .ok (.lconst 1, 1) := by decide +kernel
theorem dL_hasValue_12 : decode cL_hasValue 12 = .ok (.goto 4, 3) := by decide +kernel
theorem dL_hasValue_15 : decode cL_hasValue 15 = .ok (.lconst 0, 1) := by decide +kernel
theorem dL_hasValue_16 : decode cL_hasValue 16 = .ok (.lastore, 1) := by decide +kernel
theorem dL_hasValue_17 : decode cL_hasValue 17 = .ok (.goto 7, 3) := by decide +kernel
theorem dL_hasValue_20 : decode cL_hasValue 20 = .ok (.astore 4, 2) := by decide +kernel
theorem dL_hasValue_22 : decode cL_hasValue 22 = .ok (.iconst 1, 1) := by decide +kernel
theorem dL_hasValue_23 : decode cL_hasValue 23 = .ok (.ireturn, 1) := by decide +kernel
theorem dL_hasValue_24 : decode cL_hasValue 24 = .ok (.iconst 0, 1) := by decide +kernel
theorem dL_hasValue_25 : decode cL_hasValue 25 = .ok (.ireturn, 1) := by decide +kernel
theorem dL_size_0 : decode cL_size 0 = .ok (.aload_n 2, 1) := by decide +kernel
theorem dL_size_1 : decode cL_size 1 = .ok (.iconst 0, 1) := by decide +kernel
theorem dL_size_2 : decode cL_size 2 = .ok (.aload_n 0, 1) := by decide +kernel
theorem dL_size_3 : decode cL_size 3 = .ok (.iload_n 1, 1) := by decide +kernel
theorem dL_size_4 : decode cL_size 4 = .ok (.invokevirtual 42, 3) := by decide +kernel
theorem dL_size_7 : decode cL_size 7 = .ok (.i2l, 1) := by decide +kernel
theorem dL_size_8 : decode cL_size 8 = .ok (.lastore, 1) := by decide +kernel
theorem dL_size_9 : decode cL_size 9 = .ok (.goto 6, 3) := by decide +kernel
theorem dL_size_12 : decode cL_size 12 = .ok (.astore_n 3, 1) := by decide +kernel
theorem dL_size_13 : decode cL_size 13 = .ok (.iconst 1, 1) := by decide +kernel
theorem dL_size_14 : decode cL_size 14 = .ok (.ireturn, 1) := by decide +kernel
theorem dL_size_15 : decode cL_size 15 = .ok (.iconst 0, 1) := by decide +kernel
theorem dL_size_16 : decode cL_size 16 = .ok (.ireturn, 1) := by decide +kernel
theorem dL_keyAt_0 : decode cL_keyAt 0 = .ok (.aload_n 3, 1) := by decide +kernel
theorem dL_keyAt_1 : decode cL_keyAt 1 = .ok (.iconst 0, 1) := by decide +kernel
theorem dL_keyAt_2 : decode cL_keyAt 2 = .ok (.aload_n 0, 1) := by decide +kernel
theorem dL_keyAt_3 : decode cL_keyAt 3 = .ok (.iload_n 1, 1) := by decide +kernel
theorem dL_keyAt_4 : decode cL_keyAt 4 = .ok (.iload_n 2, 1) := by decide +kernel
theorem dL_keyAt_5 : decode cL_keyAt 5 = .ok (.invokevirtual 45, 3) := by decide +kernel
theorem dL_keyAt_8 : decode cL_keyAt 8 = .ok (.i2l, 1) := by decide +kernel
theorem dL_keyAt_9 : decode cL_keyAt 9 = .ok (.lastore, 1) := by decide +kernel
theorem dL_keyAt_10 : decode cL_keyAt 10 = .ok (.goto 11, 3) := by decide +kernel
theorem dL_keyAt_13 : decode cL_keyAt 13 = .ok (.astore 4, 2) := by decide +kernel
theorem dL_keyAt_15 : decode cL_keyAt 15 = .ok (.iconst 1, 1) := by decide +kernel
theorem dL_keyAt_16 : decode cL_keyAt 16 = .ok (.ireturn, 1) := by decide +kernel
theorem dL_keyAt_17 : decode cL_keyAt 17 = .ok (.astore 4, 2) := by decide +kernel
theorem dL_keyAt_19 : decode cL_keyAt 19 = .ok (.iconst 2, 1) := by decide +kernel
theorem dL_keyAt_20 : decode cL_keyAt 20 = .ok (.ireturn, 1) := by decide +kernel
theorem dL_keyAt_21 : decode cL_keyAt 21 = .ok (.iconst 0, 1) := by decide +kernel
theorem dL_keyAt_22 : decode cL_keyAt 22 = .ok (.ireturn, 1) := by decide +kernel
theorem dL_valueAt_0 : decode cL_valueAt 0 = .ok (.aload_n 3, 1) := by decide +kernel
theorem dL_valueAt_1 : decode cL_valueAt 1 = .ok (.iconst 0, 1) := by decide +kernel
theorem dL_valueAt_2 : decode cL_valueAt 2 = .ok (.aload_n 0, 1) := by decide +kernel
theorem dL_valueAt_3 : decode cL_valueAt 3 = .ok (.iload_n 1, 1) := by decide +kernel
theorem dL_valueAt_4 : decode cL_valueAt 4 = .ok (.iload_n 2, 1) := by decide +kernel
theorem dL_valueAt_5 : decode cL_valueAt 5 = .ok (.invokevirtual 50, 3) := by decide +kernel
theorem dL_valueAt_8 : decode cL_valueAt 8 = .ok (.i2l, 1) := by decide +kernel
theorem dL_valueAt_9 : decode cL_valueAt 9 = .ok (.lastore, 1) := by decide +kernel
theorem dL_valueAt_10 : decode cL_valueAt 10 = .ok (.goto 11, 3) := by decide +kernel
theorem dL_valueAt_13 : decode cL_valueAt 13 = .ok (.astore 4, 2) := by decide +kernel
theorem dL_valueAt_15 : decode cL_valueAt 15 = .ok (.iconst 1, 1) := by decide +kernel
theorem dL_valueAt_16 : decode cL_valueAt 16 = .ok (.ireturn, 1) := by decide +kernel
theorem dL_valueAt_17 : decode cL_valueAt 17 = .ok (.astore 4, 2) := by decide +kernel
theorem dL_valueAt_19 : decode cL_valueAt 19 = .ok (.iconst 2, 1) := by decide +kernel
theorem dL_valueAt_20 : decode cL_valueAt 20 = .ok (.ireturn, 1) := by decide +kernel
theorem dL_valueAt_21 : decode cL_valueAt 21 = .ok (.iconst 0, 1) := by decide +kernel
theorem dL_valueAt_22 : decode cL_valueAt 22 = .ok (.ireturn, 1) := by decide +kernel
theorem dL_placeOf_0 : decode cL_placeOf 0 = .ok (.aload_n 3, 1) := by decide +kernel
theorem dL_placeOf_1 : decode cL_placeOf 1 = .ok (.iconst 0, 1) := by decide +kernel
theorem dL_placeOf_2 : decode cL_placeOf 2 = .ok (.aload_n 0, 1) := by decide +kernel
theorem dL_placeOf_3 : decode cL_placeOf 3 = .ok (.iload_n 1, 1) := by decide +kernel
theorem dL_placeOf_4 : decode cL_placeOf 4 = .ok (.iload_n 2, 1) := by decide +kernel
theorem dL_placeOf_5 : decode cL_placeOf 5 = .ok (.invokevirtual 53, 3) := by decide +kernel
theorem dL_placeOf_8 : decode cL_placeOf 8 = .ok (.i2l, 1) := by decide +kernel
theorem dL_placeOf_9 : decode cL_placeOf 9 = .ok (.lastore, 1) := by decide +kernel
theorem dL_placeOf_10 : decode cL_placeOf 10 = .ok (.goto 7, 3) := by decide +kernel
theorem dL_placeOf_13 : decode cL_placeOf 13 = .ok (.astore 4, 2) := by decide +kernel
theorem dL_placeOf_15 : decode cL_placeOf 15 = .ok (.iconst 1, 1) := by decide +kernel
theorem dL_placeOf_16 : decode cL_placeOf 16 = .ok (.ireturn, 1) := by decide +kernel
theorem dL_placeOf_17 : decode cL_placeOf 17 = .ok (.iconst 0, 1) := by decide +kernel
theorem dL_placeOf_18 : decode cL_placeOf 18 = .ok (.ireturn, 1) := by decide +kernel
theorem dL_sum_0 : decode cL_sum 0 = .ok (.aload_n 2, 1) := by decide +kernel
theorem dL_sum_1 : decode cL_sum 1 = .ok (.iconst 0, 1) := by decide +kernel
theorem dL_sum_2 : decode cL_sum 2 = .ok (.aload_n 0, 1) := by decide +kernel
theorem dL_sum_3 : decode cL_sum 3 = .ok (.iload_n 1, 1) := by decide +kernel
theorem dL_sum_4 : decode cL_sum 4 = .ok (.invokevirtual 56, 3) := by decide +kernel
theorem dL_sum_7 : decode cL_sum 7 = .ok (.i2l, 1) := by decide +kernel
theorem dL_sum_8 : decode cL_sum 8 = .ok (.lastore, 1) := by decide +kernel
theorem dL_sum_9 : decode cL_sum 9 = .ok (.goto 6, 3) := by decide +kernel
theorem dL_sum_12 : decode cL_sum 12 = .ok (.astore_n 3, 1) := by decide +kernel
theorem dL_sum_13 : decode cL_sum 13 = .ok (.iconst 1, 1) := by decide +kernel
theorem dL_sum_14 : decode cL_sum 14 = .ok (.ireturn, 1) := by decide +kernel
theorem dL_sum_15 : decode cL_sum 15 = .ok (.iconst 0, 1) := by decide +kernel
theorem dL_sum_16 : decode cL_sum 16 = .ok (.ireturn, 1) := by decide +kernel
theorem dL_beginCursor_0 : decode cL_beginCursor 0 = .ok (.aload_n 2, 1) := by decide +kernel
theorem dL_beginCursor_1 : decode cL_beginCursor 1 = .ok (.iconst 0, 1) := by decide +kernel
theorem dL_beginCursor_2 : decode cL_beginCursor 2 = .ok (.aload_n 0, 1) := by decide +kernel
theorem dL_beginCursor_3 : decode cL_beginCursor 3 = .ok (.iload_n 1, 1) := by decide +kernel
theorem dL_beginCursor_4 : decode cL_beginCursor 4 = .ok (.invokevirtual 59, 3) := by decide +kernel
theorem dL_beginCursor_7 : decode cL_beginCursor 7 = .ok (.i2l, 1) := by decide +kernel
theorem dL_beginCursor_8 : decode cL_beginCursor 8 = .ok (.lastore, 1) := by decide +kernel
theorem dL_beginCursor_9 : decode cL_beginCursor 9 = .ok (.goto 6, 3) := by decide +kernel
theorem dL_beginCursor_12 : decode cL_beginCursor 12 = .ok (.astore_n 3, 1) := by decide +kernel
theorem dL_beginCursor_13 : decode cL_beginCursor 13 = .ok (.iconst 1, 1) := by decide +kernel
theorem dL_beginCursor_14 : decode cL_beginCursor 14 = .ok (.ireturn, 1) := by decide +kernel
theorem dL_beginCursor_15 : decode cL_beginCursor 15 = .ok (.iconst 0, 1) := by decide +kernel
theorem dL_beginCursor_16 : decode cL_beginCursor 16 = .ok (.ireturn, 1) := by decide +kernel
theorem dL_hasNext_0 : decode cL_hasNext 0 = .ok (.aload_n 2, 1) := by decide +kernel
theorem dL_hasNext_1 : decode cL_hasNext 1 = .ok (.iconst 0, 1) := by decide +kernel
theorem dL_hasNext_2 : decode cL_hasNext 2 = .ok (.aload_n 0, 1) := by decide +kernel
theorem dL_hasNext_3 : decode cL_hasNext 3 = .ok (.iload_n 1, 1) := by decide +kernel
theorem dL_hasNext_4 : decode cL_hasNext 4 = .ok (.invokevirtual 62, 3) := by decide +kernel
theorem dL_hasNext_7 : decode cL_hasNext 7 = .ok (.ifCond .eq 7, 3) := by decide +kernel
theorem dL_hasNext_10 : decode cL_hasNext 10 = .ok (.lconst 1, 1) := by decide +kernel
theorem dL_hasNext_11 : decode cL_hasNext 11 = .ok (.goto 4, 3) := by decide +kernel
theorem dL_hasNext_14 : decode cL_hasNext 14 = .ok (.lconst 0, 1) := by decide +kernel
theorem dL_hasNext_15 : decode cL_hasNext 15 = .ok (.lastore, 1) := by decide +kernel
theorem dL_hasNext_16 : decode cL_hasNext 16 = .ok (.goto 6, 3) := by decide +kernel
theorem dL_hasNext_19 : decode cL_hasNext 19 = .ok (.astore_n 3, 1) := by decide +kernel
theorem dL_hasNext_20 : decode cL_hasNext 20 = .ok (.iconst 1, 1) := by decide +kernel
theorem dL_hasNext_21 : decode cL_hasNext 21 = .ok (.ireturn, 1) := by decide +kernel
theorem dL_hasNext_22 : decode cL_hasNext 22 = .ok (.iconst 0, 1) := by decide +kernel
theorem dL_hasNext_23 : decode cL_hasNext 23 = .ok (.ireturn, 1) := by decide +kernel
theorem dL_next_0 : decode cL_next 0 = .ok (.aload_n 2, 1) := by decide +kernel
theorem dL_next_1 : decode cL_next 1 = .ok (.iconst 0, 1) := by decide +kernel
theorem dL_next_2 : decode cL_next 2 = .ok (.aload_n 0, 1) := by decide +kernel
theorem dL_next_3 : decode cL_next 3 = .ok (.iload_n 1, 1) := by decide +kernel
theorem dL_next_4 : decode cL_next 4 = .ok (.invokevirtual 66, 3) := by decide +kernel
theorem dL_next_7 : decode cL_next 7 = .ok (.i2l, 1) := by decide +kernel
theorem dL_next_8 : decode cL_next 8 = .ok (.lastore, 1) := by decide +kernel
theorem dL_next_9 : decode cL_next 9 = .ok (.goto 12, 3) := by decide +kernel
theorem dL_next_12 : decode cL_next 12 = .ok (.astore_n 3, 1) := by decide +kernel
theorem dL_next_13 : decode cL_next 13 = .ok (.iconst 1, 1) := by decide +kernel
theorem dL_next_14 : decode cL_next 14 = .ok (.ireturn, 1) := by decide +kernel
theorem dL_next_15 : decode cL_next 15 = .ok (.astore_n 3, 1) := by decide +kernel
theorem dL_next_16 : decode cL_next 16 = .ok (.iconst 2, 1) := by decide +kernel
theorem dL_next_17 : decode cL_next 17 = .ok (.ireturn, 1) := by decide +kernel
theorem dL_next_18 : decode cL_next 18 = .ok (.astore_n 3, 1) := by decide +kernel
theorem dL_next_19 : decode cL_next 19 = .ok (.iconst 3, 1) := by decide +kernel
theorem dL_next_20 : decode cL_next 20 = .ok (.ireturn, 1) := by decide +kernel
theorem dL_next_21 : decode cL_next 21 = .ok (.iconst 0, 1) := by decide +kernel
theorem dL_next_22 : decode cL_next 22 = .ok (.ireturn, 1) := by decide +kernel
theorem dL_takeOut_0 : decode cL_takeOut 0 = .ok (.aload_n 2, 1) := by decide +kernel
theorem dL_takeOut_1 : decode cL_takeOut 1 = .ok (.iconst 0, 1) := by decide +kernel
theorem dL_takeOut_2 : decode cL_takeOut 2 = .ok (.aload_n 0, 1) := by decide +kernel
theorem dL_takeOut_3 : decode cL_takeOut 3 = .ok (.iload_n 1, 1) := by decide +kernel
theorem dL_takeOut_4 : decode cL_takeOut 4 = .ok (.invokevirtual 73, 3) := by decide +kernel
theorem dL_takeOut_7 : decode cL_takeOut 7 = .ok (.i2l, 1) := by decide +kernel
theorem dL_takeOut_8 : decode cL_takeOut 8 = .ok (.lastore, 1) := by decide +kernel
theorem dL_takeOut_9 : decode cL_takeOut 9 = .ok (.goto 9, 3) := by decide +kernel
theorem dL_takeOut_12 : decode cL_takeOut 12 = .ok (.astore_n 3, 1) := by decide +kernel
theorem dL_takeOut_13 : decode cL_takeOut 13 = .ok (.iconst 1, 1) := by decide +kernel
theorem dL_takeOut_14 : decode cL_takeOut 14 = .ok (.ireturn, 1) := by decide +kernel
theorem dL_takeOut_15 : decode cL_takeOut 15 = .ok (.astore_n 3, 1) := by decide +kernel
theorem dL_takeOut_16 : decode cL_takeOut 16 = .ok (.iconst 2, 1) := by decide +kernel
theorem dL_takeOut_17 : decode cL_takeOut 17 = .ok (.ireturn, 1) := by decide +kernel
theorem dL_takeOut_18 : decode cL_takeOut 18 = .ok (.iconst 0, 1) := by decide +kernel
theorem dL_takeOut_19 : decode cL_takeOut 19 = .ok (.ireturn, 1) := by decide +kernel
theorem dL_request_0 : decode cL_request 0 = .ok (.aload_n 2, 1) := by decide +kernel
theorem dL_request_1 : decode cL_request 1 = .ok (.iconst 0, 1) := by decide +kernel
theorem dL_request_2 : decode cL_request 2 = .ok (.aload_n 0, 1) := by decide +kernel
theorem dL_request_3 : decode cL_request 3 = .ok (.iload_n 1, 1) := by decide +kernel
theorem dL_request_4 : decode cL_request 4 = .ok (.invokevirtual 76, 3) := by decide +kernel
theorem dL_request_7 : decode cL_request 7 = .ok (.i2l, 1) := by decide +kernel
theorem dL_request_8 : decode cL_request 8 = .ok (.lastore, 1) := by decide +kernel
theorem dL_request_9 : decode cL_request 9 = .ok (.goto 9, 3) := by decide +kernel
theorem dL_request_12 : decode cL_request 12 = .ok (.astore_n 3, 1) := by decide +kernel
theorem dL_request_13 : decode cL_request 13 = .ok (.iconst 1, 1) := by decide +kernel
theorem dL_request_14 : decode cL_request 14 = .ok (.ireturn, 1) := by decide +kernel
theorem dL_request_15 : decode cL_request 15 = .ok (.astore_n 3, 1) := by decide +kernel
theorem dL_request_16 : decode cL_request 16 = .ok (.iconst 2, 1) := by decide +kernel
theorem dL_request_17 : decode cL_request 17 = .ok (.ireturn, 1) := by decide +kernel
theorem dL_request_18 : decode cL_request 18 = .ok (.iconst 0, 1) := by decide +kernel
theorem dL_request_19 : decode cL_request 19 = .ok (.ireturn, 1) := by decide +kernel
theorem dL_hits_0 : decode cL_hits 0 = .ok (.aload_n 2, 1) := by decide +kernel
theorem dL_hits_1 : decode cL_hits 1 = .ok (.iconst 0, 1) := by decide +kernel
theorem dL_hits_2 : decode cL_hits 2 = .ok (.aload_n 0, 1) := by decide +kernel
theorem dL_hits_3 : decode cL_hits 3 = .ok (.iload_n 1, 1) := by decide +kernel
theorem dL_hits_4 : decode cL_hits 4 = .ok (.invokevirtual 79, 3) := by decide +kernel
theorem dL_hits_7 : decode cL_hits 7 = .ok (.i2l, 1) := by decide +kernel
theorem dL_hits_8 : decode cL_hits 8 = .ok (.lastore, 1) := by decide +kernel
theorem dL_hits_9 : decode cL_hits 9 = .ok (.goto 6, 3) := by decide +kernel
theorem dL_hits_12 : decode cL_hits 12 = .ok (.astore_n 3, 1) := by decide +kernel
theorem dL_hits_13 : decode cL_hits 13 = .ok (.iconst 1, 1) := by decide +kernel
theorem dL_hits_14 : decode cL_hits 14 = .ok (.ireturn, 1) := by decide +kernel
theorem dL_hits_15 : decode cL_hits 15 = .ok (.iconst 0, 1) := by decide +kernel
theorem dL_hits_16 : decode cL_hits 16 = .ok (.ireturn, 1) := by decide +kernel
theorem dL_cached_0 : decode cL_cached 0 = .ok (.aload_n 2, 1) := by decide +kernel
theorem dL_cached_1 : decode cL_cached 1 = .ok (.iconst 0, 1) := by decide +kernel
theorem dL_cached_2 : decode cL_cached 2 = .ok (.aload_n 0, 1) := by decide +kernel
theorem dL_cached_3 : decode cL_cached 3 = .ok (.iload_n 1, 1) := by decide +kernel
theorem dL_cached_4 : decode cL_cached 4 = .ok (.invokevirtual 82, 3) := by decide +kernel
theorem dL_cached_7 : decode cL_cached 7 = .ok (.i2l, 1) := by decide +kernel
theorem dL_cached_8 : decode cL_cached 8 = .ok (.lastore, 1) := by decide +kernel
theorem dL_cached_9 : decode cL_cached 9 = .ok (.goto 6, 3) := by decide +kernel
theorem dL_cached_12 : decode cL_cached 12 = .ok (.astore_n 3, 1) := by decide +kernel
theorem dL_cached_13 : decode cL_cached 13 = .ok (.iconst 1, 1) := by decide +kernel
theorem dL_cached_14 : decode cL_cached 14 = .ok (.ireturn, 1) := by decide +kernel
theorem dL_cached_15 : decode cL_cached 15 = .ok (.iconst 0, 1) := by decide +kernel
theorem dL_cached_16 : decode cL_cached 16 = .ok (.ireturn, 1) := by decide +kernel
theorem dL_isCached_0 : decode cL_isCached 0 = .ok (.aload_n 3, 1) := by decide +kernel
theorem dL_isCached_1 : decode cL_isCached 1 = .ok (.iconst 0, 1) := by decide +kernel
theorem dL_isCached_2 : decode cL_isCached 2 = .ok (.aload_n 0, 1) := by decide +kernel
theorem dL_isCached_3 : decode cL_isCached 3 = .ok (.iload_n 1, 1) := by decide +kernel
theorem dL_isCached_4 : decode cL_isCached 4 = .ok (.iload_n 2, 1) := by decide +kernel
theorem dL_isCached_5 : decode cL_isCached 5 = .ok (.invokevirtual 85, 3) := by decide +kernel
theorem dL_isCached_8 : decode cL_isCached 8 = .ok (.ifCond .eq 7, 3) := by decide +kernel
theorem dL_isCached_11 : decode cL_isCached 11 = .ok (.lconst 1, 1) := by decide +kernel
theorem dL_isCached_12 : decode cL_isCached 12 = .ok (.goto 4, 3) := by decide +kernel
theorem dL_isCached_15 : decode cL_isCached 15 = .ok (.lconst 0, 1) := by decide +kernel
theorem dL_isCached_16 : decode cL_isCached 16 = .ok (.lastore, 1) := by decide +kernel
theorem dL_isCached_17 : decode cL_isCached 17 = .ok (.goto 7, 3) := by decide +kernel
theorem dL_isCached_20 : decode cL_isCached 20 = .ok (.astore 4, 2) := by decide +kernel
theorem dL_isCached_22 : decode cL_isCached 22 = .ok (.iconst 1, 1) := by decide +kernel
theorem dL_isCached_23 : decode cL_isCached 23 = .ok (.ireturn, 1) := by decide +kernel
theorem dL_isCached_24 : decode cL_isCached 24 = .ok (.iconst 0, 1) := by decide +kernel
theorem dL_isCached_25 : decode cL_isCached 25 = .ok (.ireturn, 1) := by decide +kernel
theorem dL_cachedAt_0 : decode cL_cachedAt 0 = .ok (.aload_n 3, 1) := by decide +kernel
theorem dL_cachedAt_1 : decode cL_cachedAt 1 = .ok (.iconst 0, 1) := by decide +kernel
theorem dL_cachedAt_2 : decode cL_cachedAt 2 = .ok (.aload_n 0, 1) := by decide +kernel
theorem dL_cachedAt_3 : decode cL_cachedAt 3 = .ok (.iload_n 1, 1) := by decide +kernel
theorem dL_cachedAt_4 : decode cL_cachedAt 4 = .ok (.iload_n 2, 1) := by decide +kernel
theorem dL_cachedAt_5 : decode cL_cachedAt 5 = .ok (.invokevirtual 88, 3) := by decide +kernel
theorem dL_cachedAt_8 : decode cL_cachedAt 8 = .ok (.i2l, 1) := by decide +kernel
theorem dL_cachedAt_9 : decode cL_cachedAt 9 = .ok (.lastore, 1) := by decide +kernel
theorem dL_cachedAt_10 : decode cL_cachedAt 10 = .ok (.goto 11, 3) := by decide +kernel
theorem dL_cachedAt_13 : decode cL_cachedAt 13 = .ok (.astore 4, 2) := by decide +kernel
theorem dL_cachedAt_15 : decode cL_cachedAt 15 = .ok (.iconst 1, 1) := by decide +kernel
theorem dL_cachedAt_16 : decode cL_cachedAt 16 = .ok (.ireturn, 1) := by decide +kernel
theorem dL_cachedAt_17 : decode cL_cachedAt 17 = .ok (.astore 4, 2) := by decide +kernel
theorem dL_cachedAt_19 : decode cL_cachedAt 19 = .ok (.iconst 2, 1) := by decide +kernel
theorem dL_cachedAt_20 : decode cL_cachedAt 20 = .ok (.ireturn, 1) := by decide +kernel
theorem dL_cachedAt_21 : decode cL_cachedAt 21 = .ok (.iconst 0, 1) := by decide +kernel
theorem dL_cachedAt_22 : decode cL_cachedAt 22 = .ok (.ireturn, 1) := by decide +kernel
theorem dL_requestAt_0 : decode cL_requestAt 0 = .ok (.aload_n 2, 1) := by decide +kernel
theorem dL_requestAt_1 : decode cL_requestAt 1 = .ok (.iconst 0, 1) := by decide +kernel
theorem dL_requestAt_2 : decode cL_requestAt 2 = .ok (.aload_n 0, 1) := by decide +kernel
theorem dL_requestAt_3 : decode cL_requestAt 3 = .ok (.iload_n 1, 1) := by decide +kernel
theorem dL_requestAt_4 : decode cL_requestAt 4 = .ok (.invokevirtual 91, 3) := by decide +kernel
theorem dL_requestAt_7 : decode cL_requestAt 7 = .ok (.i2l, 1) := by decide +kernel
theorem dL_requestAt_8 : decode cL_requestAt 8 = .ok (.lastore, 1) := by decide +kernel
theorem dL_requestAt_9 : decode cL_requestAt 9 = .ok (.goto 6, 3) := by decide +kernel
theorem dL_requestAt_12 : decode cL_requestAt 12 = .ok (.astore_n 3, 1) := by decide +kernel
theorem dL_requestAt_13 : decode cL_requestAt 13 = .ok (.iconst 1, 1) := by decide +kernel
theorem dL_requestAt_14 : decode cL_requestAt 14 = .ok (.ireturn, 1) := by decide +kernel
theorem dL_requestAt_15 : decode cL_requestAt 15 = .ok (.iconst 0, 1) := by decide +kernel
theorem dL_requestAt_16 : decode cL_requestAt 16 = .ok (.ireturn, 1) := by decide +kernel
theorem dL_distanceOf_0 : decode cL_distanceOf 0 = .ok (.aload_n 2, 1) := by decide +kernel
theorem dL_distanceOf_1 : decode cL_distanceOf 1 = .ok (.iconst 0, 1) := by decide +kernel
theorem dL_distanceOf_2 : decode cL_distanceOf 2 = .ok (.aload_n 0, 1) := by decide +kernel
theorem dL_distanceOf_3 : decode cL_distanceOf 3 = .ok (.iload_n 1, 1) := by decide +kernel
theorem dL_distanceOf_4 : decode cL_distanceOf 4 = .ok (.invokevirtual 94, 3) := by decide +kernel
theorem dL_distanceOf_7 : decode cL_distanceOf 7 = .ok (.i2l, 1) := by decide +kernel
theorem dL_distanceOf_8 : decode cL_distanceOf 8 = .ok (.lastore, 1) := by decide +kernel
theorem dL_distanceOf_9 : decode cL_distanceOf 9 = .ok (.goto 6, 3) := by decide +kernel
theorem dL_distanceOf_12 : decode cL_distanceOf 12 = .ok (.astore_n 3, 1) := by decide +kernel
theorem dL_distanceOf_13 : decode cL_distanceOf 13 = .ok (.iconst 1, 1) := by decide +kernel
theorem dL_distanceOf_14 : decode cL_distanceOf 14 = .ok (.ireturn, 1) := by decide +kernel
theorem dL_distanceOf_15 : decode cL_distanceOf 15 = .ok (.iconst 0, 1) := by decide +kernel
theorem dL_distanceOf_16 : decode cL_distanceOf 16 = .ok (.ireturn, 1) := by decide +kernel
theorem dL_nearer_0 : decode cL_nearer 0 = .ok (.aload_n 2, 1) := by decide +kernel
theorem dL_nearer_1 : decode cL_nearer 1 = .ok (.iconst 0, 1) := by decide +kernel
theorem dL_nearer_2 : decode cL_nearer 2 = .ok (.aload_n 0, 1) := by decide +kernel
theorem dL_nearer_3 : decode cL_nearer 3 = .ok (.iload_n 1, 1) := by decide +kernel
theorem dL_nearer_4 : decode cL_nearer 4 = .ok (.invokevirtual 97, 3) := by decide +kernel
theorem dL_nearer_7 : decode cL_nearer 7 = .ok (.i2l, 1) := by decide +kernel
theorem dL_nearer_8 : decode cL_nearer 8 = .ok (.lastore, 1) := by decide +kernel
theorem dL_nearer_9 : decode cL_nearer 9 = .ok (.goto 6, 3) := by decide +kernel
theorem dL_nearer_12 : decode cL_nearer 12 = .ok (.astore_n 3, 1) := by decide +kernel
theorem dL_nearer_13 : decode cL_nearer 13 = .ok (.iconst 1, 1) := by decide +kernel
theorem dL_nearer_14 : decode cL_nearer 14 = .ok (.ireturn, 1) := by decide +kernel
theorem dL_nearer_15 : decode cL_nearer 15 = .ok (.iconst 0, 1) := by decide +kernel
theorem dL_nearer_16 : decode cL_nearer 16 = .ok (.ireturn, 1) := by decide +kernel
theorem dL_leastCache_0 : decode cL_leastCache 0 = .ok (.aload_n 2, 1) := by decide +kernel
theorem dL_leastCache_1 : decode cL_leastCache 1 = .ok (.iconst 0, 1) := by decide +kernel
theorem dL_leastCache_2 : decode cL_leastCache 2 = .ok (.aload_n 0, 1) := by decide +kernel
theorem dL_leastCache_3 : decode cL_leastCache 3 = .ok (.iload_n 1, 1) := by decide +kernel
theorem dL_leastCache_4 : decode cL_leastCache 4 = .ok (.invokevirtual 100, 3) := by decide +kernel
theorem dL_leastCache_7 : decode cL_leastCache 7 = .ok (.i2l, 1) := by decide +kernel
theorem dL_leastCache_8 : decode cL_leastCache 8 = .ok (.lastore, 1) := by decide +kernel
theorem dL_leastCache_9 : decode cL_leastCache 9 = .ok (.goto 6, 3) := by decide +kernel
theorem dL_leastCache_12 : decode cL_leastCache 12 = .ok (.astore_n 3, 1) := by decide +kernel
theorem dL_leastCache_13 : decode cL_leastCache 13 = .ok (.iconst 1, 1) := by decide +kernel
theorem dL_leastCache_14 : decode cL_leastCache 14 = .ok (.ireturn, 1) := by decide +kernel
theorem dL_leastCache_15 : decode cL_leastCache 15 = .ok (.iconst 0, 1) := by decide +kernel
theorem dL_leastCache_16 : decode cL_leastCache 16 = .ok (.ireturn, 1) := by decide +kernel
theorem dL_append_0 : decode cL_append 0 = .ok (.aload 6, 2) := by decide +kernel
theorem dL_append_2 : decode cL_append 2 = .ok (.iconst 0, 1) := by decide +kernel
theorem dL_append_3 : decode cL_append 3 = .ok (.aload_n 0, 1) := by decide +kernel
theorem dL_append_4 : decode cL_append 4 = .ok (.iload_n 1, 1) := by decide +kernel
theorem dL_append_5 : decode cL_append 5 = .ok (.iload_n 2, 1) := by decide +kernel
theorem dL_append_6 : decode cL_append 6 = .ok (.iload_n 3, 1) := by decide +kernel
theorem dL_append_7 : decode cL_append 7 = .ok (.iload 4, 2) := by decide +kernel
theorem dL_append_9 : decode cL_append 9 = .ok (.iload 5, 2) := by decide +kernel
theorem dL_append_11 : decode cL_append 11 = .ok (.invokevirtual 103, 3) := by decide +kernel
theorem dL_append_14 : decode cL_append 14 = .ok (.i2l, 1) := by decide +kernel
theorem dL_append_15 : decode cL_append 15 = .ok (.lastore, 1) := by decide +kernel
theorem dL_append_16 : decode cL_append 16 = .ok (.goto 7, 3) := by decide +kernel
theorem dL_append_19 : decode cL_append 19 = .ok (.astore 7, 2) := by decide +kernel
theorem dL_append_21 : decode cL_append 21 = .ok (.iconst 1, 1) := by decide +kernel
theorem dL_append_22 : decode cL_append 22 = .ok (.ireturn, 1) := by decide +kernel
theorem dL_append_23 : decode cL_append 23 = .ok (.iconst 0, 1) := by decide +kernel
theorem dL_append_24 : decode cL_append 24 = .ok (.ireturn, 1) := by decide +kernel
theorem dL_run_0 : decode cL_run 0 = .ok (.aload_n 1, 1) := by decide +kernel
theorem dL_run_1 : decode cL_run 1 = .ok (.iconst 0, 1) := by decide +kernel
theorem dL_run_2 : decode cL_run 2 = .ok (.aload_n 0, 1) := by decide +kernel
theorem dL_run_3 : decode cL_run 3 = .ok (.invokevirtual 107, 3) := by decide +kernel
theorem dL_run_6 : decode cL_run 6 = .ok (.i2l, 1) := by decide +kernel
theorem dL_run_7 : decode cL_run 7 = .ok (.lastore, 1) := by decide +kernel
theorem dL_run_8 : decode cL_run 8 = .ok (.goto 9, 3) := by decide +kernel
theorem dL_run_11 : decode cL_run 11 = .ok (.astore_n 2, 1) := by decide +kernel
theorem dL_run_12 : decode cL_run 12 = .ok (.iconst 1, 1) := by decide +kernel
theorem dL_run_13 : decode cL_run 13 = .ok (.ireturn, 1) := by decide +kernel
theorem dL_run_14 : decode cL_run 14 = .ok (.astore_n 2, 1) := by decide +kernel
theorem dL_run_15 : decode cL_run 15 = .ok (.iconst 2, 1) := by decide +kernel
theorem dL_run_16 : decode cL_run 16 = .ok (.ireturn, 1) := by decide +kernel
theorem dL_run_17 : decode cL_run 17 = .ok (.iconst 0, 1) := by decide +kernel
theorem dL_run_18 : decode cL_run 18 = .ok (.ireturn, 1) := by decide +kernel
theorem dL_setFrames_0 : decode cL_setFrames 0 = .ok (.aload_n 2, 1) := by decide +kernel
theorem dL_setFrames_1 : decode cL_setFrames 1 = .ok (.iconst 0, 1) := by decide +kernel
theorem dL_setFrames_2 : decode cL_setFrames 2 = .ok (.aload_n 0, 1) := by decide +kernel
theorem dL_setFrames_3 : decode cL_setFrames 3 = .ok (.iload_n 1, 1) := by decide +kernel
theorem dL_setFrames_4 : decode cL_setFrames 4 = .ok (.invokevirtual 111, 3) := by decide +kernel
theorem dL_setFrames_7 : decode cL_setFrames 7 = .ok (.i2l, 1) := by decide +kernel
theorem dL_setFrames_8 : decode cL_setFrames 8 = .ok (.lastore, 1) := by decide +kernel
theorem dL_setFrames_9 : decode cL_setFrames 9 = .ok (.goto 6, 3) := by decide +kernel
theorem dL_setFrames_12 : decode cL_setFrames 12 = .ok (.astore_n 3, 1) := by decide +kernel
theorem dL_setFrames_13 : decode cL_setFrames 13 = .ok (.iconst 1, 1) := by decide +kernel
theorem dL_setFrames_14 : decode cL_setFrames 14 = .ok (.ireturn, 1) := by decide +kernel
theorem dL_setFrames_15 : decode cL_setFrames 15 = .ok (.iconst 0, 1) := by decide +kernel
theorem dL_setFrames_16 : decode cL_setFrames 16 = .ok (.ireturn, 1) := by decide +kernel
theorem dL_wordAt_0 : decode cL_wordAt 0 = .ok (.aload_n 2, 1) := by decide +kernel
theorem dL_wordAt_1 : decode cL_wordAt 1 = .ok (.iconst 0, 1) := by decide +kernel
theorem dL_wordAt_2 : decode cL_wordAt 2 = .ok (.aload_n 0, 1) := by decide +kernel
theorem dL_wordAt_3 : decode cL_wordAt 3 = .ok (.iload_n 1, 1) := by decide +kernel
theorem dL_wordAt_4 : decode cL_wordAt 4 = .ok (.invokevirtual 114, 3) := by decide +kernel
theorem dL_wordAt_7 : decode cL_wordAt 7 = .ok (.i2l, 1) := by decide +kernel
theorem dL_wordAt_8 : decode cL_wordAt 8 = .ok (.lastore, 1) := by decide +kernel
theorem dL_wordAt_9 : decode cL_wordAt 9 = .ok (.goto 6, 3) := by decide +kernel
theorem dL_wordAt_12 : decode cL_wordAt 12 = .ok (.astore_n 3, 1) := by decide +kernel
theorem dL_wordAt_13 : decode cL_wordAt 13 = .ok (.iconst 1, 1) := by decide +kernel
theorem dL_wordAt_14 : decode cL_wordAt 14 = .ok (.ireturn, 1) := by decide +kernel
theorem dL_wordAt_15 : decode cL_wordAt 15 = .ok (.iconst 0, 1) := by decide +kernel
theorem dL_wordAt_16 : decode cL_wordAt 16 = .ok (.ireturn, 1) := by decide +kernel
theorem dL_discAt_0 : decode cL_discAt 0 = .ok (.aload_n 2, 1) := by decide +kernel
theorem dL_discAt_1 : decode cL_discAt 1 = .ok (.iconst 0, 1) := by decide +kernel
theorem dL_discAt_2 : decode cL_discAt 2 = .ok (.aload_n 0, 1) := by decide +kernel
theorem dL_discAt_3 : decode cL_discAt 3 = .ok (.iload_n 1, 1) := by decide +kernel
theorem dL_discAt_4 : decode cL_discAt 4 = .ok (.invokevirtual 117, 3) := by decide +kernel
theorem dL_discAt_7 : decode cL_discAt 7 = .ok (.i2l, 1) := by decide +kernel
theorem dL_discAt_8 : decode cL_discAt 8 = .ok (.lastore, 1) := by decide +kernel
theorem dL_discAt_9 : decode cL_discAt 9 = .ok (.goto 6, 3) := by decide +kernel
theorem dL_discAt_12 : decode cL_discAt 12 = .ok (.astore_n 3, 1) := by decide +kernel
theorem dL_discAt_13 : decode cL_discAt 13 = .ok (.iconst 1, 1) := by decide +kernel
theorem dL_discAt_14 : decode cL_discAt 14 = .ok (.ireturn, 1) := by decide +kernel
theorem dL_discAt_15 : decode cL_discAt 15 = .ok (.iconst 0, 1) := by decide +kernel
theorem dL_discAt_16 : decode cL_discAt 16 = .ok (.ireturn, 1) := by decide +kernel
theorem dL_residentAt_0 : decode cL_residentAt 0 = .ok (.aload_n 2, 1) := by decide +kernel
theorem dL_residentAt_1 : decode cL_residentAt 1 = .ok (.iconst 0, 1) := by decide +kernel
theorem dL_residentAt_2 : decode cL_residentAt 2 = .ok (.aload_n 0, 1) := by decide +kernel
theorem dL_residentAt_3 : decode cL_residentAt 3 = .ok (.iload_n 1, 1) := by decide +kernel
theorem dL_residentAt_4 : decode cL_residentAt 4 = .ok (.invokevirtual 120, 3) := by decide +kernel
theorem dL_residentAt_7 : decode cL_residentAt 7 = .ok (.i2l, 1) := by decide +kernel
theorem dL_residentAt_8 : decode cL_residentAt 8 = .ok (.lastore, 1) := by decide +kernel
theorem dL_residentAt_9 : decode cL_residentAt 9 = .ok (.goto 6, 3) := by decide +kernel
theorem dL_residentAt_12 : decode cL_residentAt 12 = .ok (.astore_n 3, 1) := by decide +kernel
theorem dL_residentAt_13 : decode cL_residentAt 13 = .ok (.iconst 1, 1) := by decide +kernel
theorem dL_residentAt_14 : decode cL_residentAt 14 = .ok (.ireturn, 1) := by decide +kernel
theorem dL_residentAt_15 : decode cL_residentAt 15 = .ok (.iconst 0, 1) := by decide +kernel
theorem dL_residentAt_16 : decode cL_residentAt 16 = .ok (.ireturn, 1) := by decide +kernel
theorem dL_isDirty_0 : decode cL_isDirty 0 = .ok (.aload_n 2, 1) := by decide +kernel
theorem dL_isDirty_1 : decode cL_isDirty 1 = .ok (.iconst 0, 1) := by decide +kernel
theorem dL_isDirty_2 : decode cL_isDirty 2 = .ok (.aload_n 0, 1) := by decide +kernel
theorem dL_isDirty_3 : decode cL_isDirty 3 = .ok (.iload_n 1, 1) := by decide +kernel
theorem dL_isDirty_4 : decode cL_isDirty 4 = .ok (.invokevirtual 123, 3) := by decide +kernel
theorem dL_isDirty_7 : decode cL_isDirty 7 = .ok (.ifCond .eq 7, 3) := by decide +kernel
theorem dL_isDirty_10 : decode cL_isDirty 10 = .ok (.lconst 1, 1) := by decide +kernel
theorem dL_isDirty_11 : decode cL_isDirty 11 = .ok (.goto 4, 3) := by decide +kernel
theorem dL_isDirty_14 : decode cL_isDirty 14 = .ok (.lconst 0, 1) := by decide +kernel
theorem dL_isDirty_15 : decode cL_isDirty 15 = .ok (.lastore, 1) := by decide +kernel
theorem dL_isDirty_16 : decode cL_isDirty 16 = .ok (.goto 6, 3) := by decide +kernel
theorem dL_isDirty_19 : decode cL_isDirty 19 = .ok (.astore_n 3, 1) := by decide +kernel
theorem dL_isDirty_20 : decode cL_isDirty 20 = .ok (.iconst 1, 1) := by decide +kernel
theorem dL_isDirty_21 : decode cL_isDirty 21 = .ok (.ireturn, 1) := by decide +kernel
theorem dL_isDirty_22 : decode cL_isDirty 22 = .ok (.iconst 0, 1) := by decide +kernel
theorem dL_isDirty_23 : decode cL_isDirty 23 = .ok (.ireturn, 1) := by decide +kernel
theorem dL_hitShare_0 : decode cL_hitShare 0 = .ok (.aload_n 2, 1) := by decide +kernel
theorem dL_hitShare_1 : decode cL_hitShare 1 = .ok (.iconst 0, 1) := by decide +kernel
theorem dL_hitShare_2 : decode cL_hitShare 2 = .ok (.aload_n 0, 1) := by decide +kernel
theorem dL_hitShare_3 : decode cL_hitShare 3 = .ok (.iload_n 1, 1) := by decide +kernel
theorem dL_hitShare_4 : decode cL_hitShare 4 = .ok (.invokevirtual 126, 3) := by decide +kernel
theorem dL_hitShare_7 : decode cL_hitShare 7 = .ok (.f2d, 1) := by decide +kernel
theorem dL_hitShare_8 : decode cL_hitShare 8 = .ok (.dastore, 1) := by decide +kernel
theorem dL_hitShare_9 : decode cL_hitShare 9 = .ok (.goto 6, 3) := by decide +kernel
theorem dL_hitShare_12 : decode cL_hitShare 12 = .ok (.astore_n 3, 1) := by decide +kernel
theorem dL_hitShare_13 : decode cL_hitShare 13 = .ok (.iconst 1, 1) := by decide +kernel
theorem dL_hitShare_14 : decode cL_hitShare 14 = .ok (.ireturn, 1) := by decide +kernel
theorem dL_hitShare_15 : decode cL_hitShare 15 = .ok (.iconst 0, 1) := by decide +kernel
theorem dL_hitShare_16 : decode cL_hitShare 16 = .ok (.ireturn, 1) := by decide +kernel
