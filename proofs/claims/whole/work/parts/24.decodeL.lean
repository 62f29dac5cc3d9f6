/-! decode rows -/
theorem d_L_make_0 : decode b_L_make 0 = .ok (.aload_n 3, 1) := by decide +kernel
theorem d_L_make_1 : decode b_L_make 1 = .ok (.iconst 0, 1) := by decide +kernel
theorem d_L_make_2 : decode b_L_make 2 = .ok (.aload_n 0, 1) := by decide +kernel
theorem d_L_make_3 : decode b_L_make 3 = .ok (.iload_n 1, 1) := by decide +kernel
theorem d_L_make_4 : decode b_L_make 4 = .ok (.iload_n 2, 1) := by decide +kernel
theorem d_L_make_5 : decode b_L_make 5 = .ok (.invokevirtual 7, 3) := by decide +kernel
theorem d_L_make_8 : decode b_L_make 8 = .ok (.i2l, 1) := by decide +kernel
theorem d_L_make_9 : decode b_L_make 9 = .ok (.lastore, 1) := by decide +kernel
theorem d_L_make_10 : decode b_L_make 10 = .ok (.goto 11, 3) := by decide +kernel
theorem d_L_make_13 : decode b_L_make 13 = .ok (.astore 4, 2) := by decide +kernel
theorem d_L_make_15 : decode b_L_make 15 = .ok (.iconst 1, 1) := by decide +kernel
theorem d_L_make_16 : decode b_L_make 16 = .ok (.ireturn, 1) := by decide +kernel
theorem d_L_make_17 : decode b_L_make 17 = .ok (.astore 4, 2) := by decide +kernel
theorem d_L_make_19 : decode b_L_make 19 = .ok (.iconst 2, 1) := by decide +kernel
theorem d_L_make_20 : decode b_L_make 20 = .ok (.ireturn, 1) := by decide +kernel
theorem d_L_make_21 : decode b_L_make 21 = .ok (.iconst 0, 1) := by decide +kernel
theorem d_L_make_22 : decode b_L_make 22 = .ok (.ireturn, 1) := by decide +kernel
theorem d_L_drop_0 : decode b_L_drop 0 = .ok (.aload_n 2, 1) := by decide +kernel
theorem d_L_drop_1 : decode b_L_drop 1 = .ok (.iconst 0, 1) := by decide +kernel
theorem d_L_drop_2 : decode b_L_drop 2 = .ok (.aload_n 0, 1) := by decide +kernel
theorem d_L_drop_3 : decode b_L_drop 3 = .ok (.iload_n 1, 1) := by decide +kernel
theorem d_L_drop_4 : decode b_L_drop 4 = .ok (.invokevirtual 17, 3) := by decide +kernel
theorem d_L_drop_7 : decode b_L_drop 7 = .ok (.i2l, 1) := by decide +kernel
theorem d_L_drop_8 : decode b_L_drop 8 = .ok (.lastore, 1) := by decide +kernel
theorem d_L_drop_9 : decode b_L_drop 9 = .ok (.goto 6, 3) := by decide +kernel
theorem d_L_drop_12 : decode b_L_drop 12 = .ok (.astore_n 3, 1) := by decide +kernel
theorem d_L_drop_13 : decode b_L_drop 13 = .ok (.iconst 1, 1) := by decide +kernel
theorem d_L_drop_14 : decode b_L_drop 14 = .ok (.ireturn, 1) := by decide +kernel
theorem d_L_drop_15 : decode b_L_drop 15 = .ok (.iconst 0, 1) := by decide +kernel
theorem d_L_drop_16 : decode b_L_drop 16 = .ok (.ireturn, 1) := by decide +kernel
theorem d_L_rebase_0 : decode b_L_rebase 0 = .ok (.aload_n 3, 1) := by decide +kernel
theorem d_L_rebase_1 : decode b_L_rebase 1 = .ok (.iconst 0, 1) := by decide +kernel
theorem d_L_rebase_2 : decode b_L_rebase 2 = .ok (.aload_n 0, 1) := by decide +kernel
theorem d_L_rebase_3 : decode b_L_rebase 3 = .ok (.iload_n 1, 1) := by decide +kernel
theorem d_L_rebase_4 : decode b_L_rebase 4 = .ok (.iload_n 2, 1) := by decide +kernel
theorem d_L_rebase_5 : decode b_L_rebase 5 = .ok (.invokevirtual 23, 3) := by decide +kernel
theorem d_L_rebase_8 : decode b_L_rebase 8 = .ok (.ifCond .eq 7, 3) := by decide +kernel
theorem d_L_rebase_11 : decode b_L_rebase 11 = .ok (.lconst 1, 1) := by decide +kernel
theorem d_L_rebase_12 : decode b_L_rebase 12 = .ok (.goto 4, 3) := by decide +kernel
theorem d_L_rebase_15 : decode b_L_rebase 15 = .ok (.lconst 0, 1) := by decide +kernel
theorem d_L_rebase_16 : decode b_L_rebase 16 = .ok (.lastore, 1) := by decide +kernel
theorem d_L_rebase_17 : decode b_L_rebase 17 = .ok (.goto 11, 3) := by decide +kernel
theorem d_L_rebase_20 : decode b_L_rebase 20 = .ok (.astore 4, 2) := by decide +kernel
theorem d_L_rebase_22 : decode b_L_rebase 22 = .ok (.iconst 1, 1) := by decide +kernel
theorem d_L_rebase_23 : decode b_L_rebase 23 = .ok (.ireturn, 1) := by decide +kernel
theorem d_L_rebase_24 : decode b_L_rebase 24 = .ok (.astore 4, 2) := by decide +kernel
theorem d_L_rebase_26 : decode b_L_rebase 26 = .ok (.iconst 2, 1) := by decide +kernel
theorem d_L_rebase_27 : decode b_L_rebase 27 = .ok (.ireturn, 1) := by decide +kernel
theorem d_L_rebase_28 : decode b_L_rebase 28 = .ok (.iconst 0, 1) := by decide +kernel
theorem d_L_rebase_29 : decode b_L_rebase 29 = .ok (.ireturn, 1) := by decide +kernel
theorem d_L_own_0 : decode b_L_own 0 = .ok (.aload_n 0, 1) := by decide +kernel
theorem d_L_own_1 : decode b_L_own 1 = .ok (.iload_n 1, 1) := by decide +kernel
theorem d_L_own_2 : decode b_L_own 2 = .ok (.iload_n 2, 1) := by decide +kernel
theorem d_L_own_3 : decode b_L_own 3 = .ok (.iload_n 3, 1) := by decide +kernel
theorem d_L_own_4 : decode b_L_own 4 = .ok (.invokevirtual 27, 3) := by decide +kernel
theorem d_L_own_7 : decode b_L_own 7 = .ok (.goto 11, 3) := by decide +kernel
theorem d_L_own_10 : decode b_L_own 10 = .ok (.astore 4, 2) := by decide +kernel
theorem d_L_own_12 : decode b_L_own 12 = .ok (.iconst 1, 1) := by decide +kernel
theorem d_L_own_13 : decode b_L_own 13 = .ok (.ireturn, 1) := by decide +kernel
theorem d_L_own_14 : decode b_L_own 14 = .ok (.astore 4, 2) := by decide +kernel
theorem d_L_own_16 : decode b_L_own 16 = .ok (.iconst 2, 1) := by decide +kernel
theorem d_L_own_17 : decode b_L_own 17 = .ok (.ireturn, 1) := by decide +kernel
theorem d_L_own_18 : decode b_L_own 18 = .ok (.iconst 0, 1) := by decide +kernel
theorem d_L_own_19 : decode b_L_own 19 = .ok (.ireturn, 1) := by decide +kernel
theorem d_L_value_0 : decode b_L_value 0 = .ok (.aload_n 3, 1) := by decide +kernel
theorem d_L_value_1 : decode b_L_value 1 = .ok (.iconst 0, 1) := by decide +kernel
theorem d_L_value_2 : decode b_L_value 2 = .ok (.aload_n 0, 1) := by decide +kernel
theorem d_L_value_3 : decode b_L_value 3 = .ok (.iload_n 1, 1) := by decide +kernel
theorem d_L_value_4 : decode b_L_value 4 = .ok (.iload_n 2, 1) := by decide +kernel
theorem d_L_value_5 : decode b_L_value 5 = .ok (.invokevirtual 31, 3) := by decide +kernel
theorem d_L_value_8 : decode b_L_value 8 = .ok (.i2l, 1) := by decide +kernel
theorem d_L_value_9 : decode b_L_value 9 = .ok (.lastore, 1) := by decide +kernel
theorem d_L_value_10 : decode b_L_value 10 = .ok (.goto 11, 3) := by decide +kernel
theorem d_L_value_13 : decode b_L_value 13 = .ok (.astore 4, 2) := by decide +kernel
theorem d_L_value_15 : decode b_L_value 15 = .ok (.iconst 1, 1) := by decide +kernel
theorem d_L_value_16 : decode b_L_value 16 = .ok (.ireturn, 1) := by decide +kernel
theorem d_L_value_17 : decode b_L_value 17 = .ok (.astore 4, 2) := by decide +kernel
theorem d_L_value_19 : decode b_L_value 19 = .ok (.iconst 2, 1) := by decide +kernel
theorem d_L_value_20 : decode b_L_value 20 = .ok (.ireturn, 1) := by decide +kernel
theorem d_L_value_21 : decode b_L_value 21 = .ok (.iconst 0, 1) := by decide +kernel
theorem d_L_value_22 : decode b_L_value 22 = .ok (.ireturn, 1) := by decide +kernel
theorem d_L_giver_0 : decode b_L_giver 0 = .ok (.aload_n 3, 1) := by decide +kernel
theorem d_L_giver_1 : decode b_L_giver 1 = .ok (.iconst 0, 1) := by decide +kernel
theorem d_L_giver_2 : decode b_L_giver 2 = .ok (.aload_n 0, 1) := by decide +kernel
theorem d_L_giver_3 : decode b_L_giver 3 = .ok (.iload_n 1, 1) := by decide +kernel
theorem d_L_giver_4 : decode b_L_giver 4 = .ok (.iload_n 2, 1) := by decide +kernel
theorem d_L_giver_5 : decode b_L_giver 5 = .ok (.invokevirtual 34, 3) := by decide +kernel
theorem d_L_giver_8 : decode b_L_giver 8 = .ok (.i2l, 1) := by decide +kernel
theorem d_L_giver_9 : decode b_L_giver 9 = .ok (.lastore, 1) := by decide +kernel
theorem d_L_giver_10 : decode b_L_giver 10 = .ok (.goto 11, 3) := by decide +kernel
theorem d_L_giver_13 : decode b_L_giver 13 = .ok (.astore 4, 2) := by decide +kernel
theorem d_L_giver_15 : decode b_L_giver 15 = .ok (.iconst 1, 1) := by decide +kernel
theorem d_L_giver_16 : decode b_L_giver 16 = .ok (.ireturn, 1) := by decide +kernel
theorem d_L_giver_17 : decode b_L_giver 17 = .ok (.astore 4, 2) := by decide +kernel
theorem d_L_giver_19 : decode b_L_giver 19 = .ok (.iconst 2, 1) := by decide +kernel
theorem d_L_giver_20 : decode b_L_giver 20 = .ok (.ireturn, 1) := by decide +kernel
theorem d_L_giver_21 : decode b_L_giver 21 = .ok (.iconst 0, 1) := by decide +kernel
theorem d_L_giver_22 : decode b_L_giver 22 = .ok (.ireturn, 1) := by decide +kernel
theorem d_L_style_0 : decode b_L_style 0 = .ok (.aload_n 3, 1) := by decide +kernel
theorem d_L_style_1 : decode b_L_style 1 = .ok (.iconst 0, 1) := by decide +kernel
theorem d_L_style_2 : decode b_L_style 2 = .ok (.aload_n 0, 1) := by decide +kernel
theorem d_L_style_3 : decode b_L_style 3 = .ok (.iload_n 1, 1) := by decide +kernel
theorem d_L_style_4 : decode b_L_style 4 = .ok (.iload_n 2, 1) := by decide +kernel
theorem d_L_style_5 : decode b_L_style 5 = .ok (.invokevirtual 37, 3) := by decide +kernel
theorem d_L_style_8 : decode b_L_style 8 = .ok (.i2l, 1) := by decide +kernel
theorem d_L_style_9 : decode b_L_style 9 = .ok (.lastore, 1) := by decide +kernel
theorem d_L_style_10 : decode b_L_style 10 = .ok (.goto 11, 3) := by decide +kernel
theorem d_L_style_13 : decode b_L_style 13 = .ok (.astore 4, 2) := by decide +kernel
theorem d_L_style_15 : decode b_L_style 15 = .ok (.iconst 1, 1) := by decide +kernel
theorem d_L_style_16 : decode b_L_style 16 = .ok (.ireturn, 1) := by decide +kernel
theorem d_L_style_17 : decode b_L_style 17 = .ok (.astore 4, 2) := by decide +kernel
theorem d_L_style_19 : decode b_L_style 19 = .ok (.iconst 2, 1) := by decide +kernel
theorem d_L_style_20 : decode b_L_style 20 = .ok (.ireturn, 1) := by decide +kernel
theorem d_L_style_21 : decode b_L_style 21 = .ok (.iconst 0, 1) := by decide +kernel
theorem d_L_style_22 : decode b_L_style 22 = .ok (.ireturn, 1) := by decide +kernel
theorem d_L_usual_0 : decode b_L_usual 0 = .ok (.aload_n 0, 1) := by decide +kernel
theorem d_L_usual_1 : decode b_L_usual 1 = .ok (.iload_n 1, 1) := by decide +kernel
theorem d_L_usual_2 : decode b_L_usual 2 = .ok (.iload_n 2, 1) := by decide +kernel
theorem d_L_usual_3 : decode b_L_usual 3 = .ok (.invokevirtual 40, 3) := by decide +kernel
theorem d_L_usual_6 : decode b_L_usual 6 = .ok (.goto 6, 3) := by decide +kernel
theorem d_L_usual_9 : decode b_L_usual 9 = .ok (.astore_n 3, 1) := by decide +kernel
theorem d_L_usual_10 : decode b_L_usual 10 = .ok (.iconst 1, 1) := by decide +kernel
theorem d_L_usual_11 : decode b_L_usual 11 = .ok (.ireturn, 1) := by decide +kernel
theorem d_L_usual_12 : decode b_L_usual 12 = .ok (.iconst 0, 1) := by decide +kernel
theorem d_L_usual_13 : decode b_L_usual 13 = .ok (.ireturn, 1) := by decide +kernel
theorem d_L_with_0 : decode b_L_with 0 = .ok (.aload 4, 2) := by decide +kernel
theorem d_L_with_2 : decode b_L_with 2 = .ok (.iconst 0, 1) := by decide +kernel
theorem d_L_with_3 : decode b_L_with 3 = .ok (.aload_n 0, 1) := by decide +kernel
theorem d_L_with_4 : decode b_L_with 4 = .ok (.iload_n 1, 1) := by decide +kernel
theorem d_L_with_5 : decode b_L_with 5 = .ok (.iload_n 2, 1) := by decide +kernel
theorem d_L_with_6 : decode b_L_with 6 = .ok (.iload_n 3, 1) := by decide +kernel
theorem d_L_with_7 : decode b_L_with 7 = .ok (.invokevirtual 44, 3) := by decide +kernel
theorem d_L_with_10 : decode b_L_with 10 = .ok (.i2l, 1) := by decide +kernel
theorem d_L_with_11 : decode b_L_with 11 = .ok (.lastore, 1) := by decide +kernel
theorem d_L_with_12 : decode b_L_with 12 = .ok (.goto 15, 3) := by decide +kernel
theorem d_L_with_15 : decode b_L_with 15 = .ok (.astore 5, 2) := by decide +kernel
theorem d_L_with_17 : decode b_L_with 17 = .ok (.iconst 1, 1) := by decide +kernel
theorem d_L_with_18 : decode b_L_with 18 = .ok (.ireturn, 1) := by decide +kernel
theorem d_L_with_19 : decode b_L_with 19 = .ok (.astore 5, 2) := by decide +kernel
theorem d_L_with_21 : decode b_L_with 21 = .ok (.iconst 2, 1) := by decide +kernel
theorem d_L_with_22 : decode b_L_with 22 = .ok (.ireturn, 1) := by decide +kernel
theorem d_L_with_23 : decode b_L_with 23 = .ok (.astore 5, 2) := by decide +kernel
theorem d_L_with_25 : decode b_L_with 25 = .ok (.iconst 3, 1) := by decide +kernel
theorem d_L_with_26 : decode b_L_with 26 = .ok (.ireturn, 1) := by decide +kernel
theorem d_L_with_27 : decode b_L_with 27 = .ok (.iconst 0, 1) := by decide +kernel
theorem d_L_with_28 : decode b_L_with 28 = .ok (.ireturn, 1) := by decide +kernel
theorem d_L_over_0 : decode b_L_over 0 = .ok (.aload_n 3, 1) := by decide +kernel
theorem d_L_over_1 : decode b_L_over 1 = .ok (.iconst 0, 1) := by decide +kernel
theorem d_L_over_2 : decode b_L_over 2 = .ok (.aload_n 0, 1) := by decide +kernel
theorem d_L_over_3 : decode b_L_over 3 = .ok (.iload_n 1, 1) := by decide +kernel
theorem d_L_over_4 : decode b_L_over 4 = .ok (.iload_n 2, 1) := by decide +kernel
theorem d_L_over_5 : decode b_L_over 5 = .ok (.invokevirtual 48, 3) := by decide +kernel
theorem d_L_over_8 : decode b_L_over 8 = .ok (.i2l, 1) := by decide +kernel
theorem d_L_over_9 : decode b_L_over 9 = .ok (.lastore, 1) := by decide +kernel
theorem d_L_over_10 : decode b_L_over 10 = .ok (.goto 11, 3) := by decide +kernel
theorem d_L_over_13 : decode b_L_over 13 = .ok (.astore 4, 2) := by decide +kernel
theorem d_L_over_15 : decode b_L_over 15 = .ok (.iconst 1, 1) := by decide +kernel
theorem d_L_over_16 : decode b_L_over 16 = .ok (.ireturn, 1) := by decide +kernel
theorem d_L_over_17 : decode b_L_over 17 = .ok (.astore 4, 2) := by decide +kernel
theorem d_L_over_19 : decode b_L_over 19 = .ok (.iconst 2, 1) := by decide +kernel
theorem d_L_over_20 : decode b_L_over 20 = .ok (.ireturn, 1) := by decide +kernel
theorem d_L_over_21 : decode b_L_over 21 = .ok (.iconst 0, 1) := by decide +kernel
theorem d_L_over_22 : decode b_L_over 22 = .ok (.ireturn, 1) := by decide +kernel
theorem d_L_lean_0 : decode b_L_lean 0 = .ok (.aload 4, 2) := by decide +kernel
theorem d_L_lean_2 : decode b_L_lean 2 = .ok (.iconst 0, 1) := by decide +kernel
theorem d_L_lean_3 : decode b_L_lean 3 = .ok (.aload_n 0, 1) := by decide +kernel
theorem d_L_lean_4 : decode b_L_lean 4 = .ok (.iload_n 1, 1) := by decide +kernel
theorem d_L_lean_5 : decode b_L_lean 5 = .ok (.iload_n 2, 1) := by decide +kernel
theorem d_L_lean_6 : decode b_L_lean 6 = .ok (.iload_n 3, 1) := by decide +kernel
theorem d_L_lean_7 : decode b_L_lean 7 = .ok (.invokevirtual 51, 3) := by decide +kernel
theorem d_L_lean_10 : decode b_L_lean 10 = .ok (.i2l, 1) := by decide +kernel
theorem d_L_lean_11 : decode b_L_lean 11 = .ok (.lastore, 1) := by decide +kernel
theorem d_L_lean_12 : decode b_L_lean 12 = .ok (.goto 15, 3) := by decide +kernel
theorem d_L_lean_15 : decode b_L_lean 15 = .ok (.astore 5, 2) := by decide +kernel
theorem d_L_lean_17 : decode b_L_lean 17 = .ok (.iconst 1, 1) := by decide +kernel
theorem d_L_lean_18 : decode b_L_lean 18 = .ok (.ireturn, 1) := by decide +kernel
theorem d_L_lean_19 : decode b_L_lean 19 = .ok (.astore 5, 2) := by decide +kernel
theorem d_L_lean_21 : decode b_L_lean 21 = .ok (.iconst 2, 1) := by decide +kernel
theorem d_L_lean_22 : decode b_L_lean 22 = .ok (.ireturn, 1) := by decide +kernel
theorem d_L_lean_23 : decode b_L_lean 23 = .ok (.astore 5, 2) := by decide +kernel
theorem d_L_lean_25 : decode b_L_lean 25 = .ok (.iconst 3, 1) := by decide +kernel
theorem d_L_lean_26 : decode b_L_lean 26 = .ok (.ireturn, 1) := by decide +kernel
theorem d_L_lean_27 : decode b_L_lean 27 = .ok (.iconst 0, 1) := by decide +kernel
theorem d_L_lean_28 : decode b_L_lean 28 = .ok (.ireturn, 1) := by decide +kernel
theorem d_L_get_0 : decode b_L_get 0 = .ok (.aload_n 3, 1) := by decide +kernel
theorem d_L_get_1 : decode b_L_get 1 = .ok (.iconst 0, 1) := by decide +kernel
theorem d_L_get_2 : decode b_L_get 2 = .ok (.aload_n 0, 1) := by decide +kernel
theorem d_L_get_3 : decode b_L_get 3 = .ok (.iload_n 1, 1) := by decide +kernel
theorem d_L_get_4 : decode b_L_get 4 = .ok (.iload_n 2, 1) := by decide +kernel
theorem d_L_get_5 : decode b_L_get 5 = .ok (.invokevirtual 54, 3) := by decide +kernel
theorem d_L_get_8 : decode b_L_get 8 = .ok (.i2l, 1) := by decide +kernel
theorem d_L_get_9 : decode b_L_get 9 = .ok (.lastore, 1) := by decide +kernel
theorem d_L_get_10 : decode b_L_get 10 = .ok (.goto 11, 3) := by decide +kernel
theorem d_L_get_13 : decode b_L_get 13 = .ok (.astore 4, 2) := by decide +kernel
theorem d_L_get_15 : decode b_L_get 15 = .ok (.iconst 1, 1) := by decide +kernel
theorem d_L_get_16 : decode b_L_get 16 = .ok (.ireturn, 1) := by decide +kernel
theorem d_L_get_17 : decode b_L_get 17 = .ok (.astore 4, 2) := by decide +kernel
theorem d_L_get_19 : decode b_L_get 19 = .ok (.iconst 2, 1) := by decide +kernel
theorem d_L_get_20 : decode b_L_get 20 = .ok (.ireturn, 1) := by decide +kernel
theorem d_L_get_21 : decode b_L_get 21 = .ok (.iconst 0, 1) := by decide +kernel
theorem d_L_get_22 : decode b_L_get 22 = .ok (.ireturn, 1) := by decide +kernel
theorem d_L_resolve_0 : decode b_L_resolve 0 = .ok (.aload 5, 2) := by decide +kernel
theorem d_L_resolve_2 : decode b_L_resolve 2 = .ok (.iconst 0, 1) := by decide +kernel
theorem d_L_resolve_3 : decode b_L_resolve 3 = .ok (.aload_n 0, 1) := by decide +kernel
theorem d_L_resolve_4 : decode b_L_resolve 4 = .ok (.iload_n 1, 1) := by decide +kernel
theorem d_L_resolve_5 : decode b_L_resolve 5 = .ok (.iload_n 2, 1) := by decide +kernel
theorem d_L_resolve_6 : decode b_L_resolve 6 = .ok (.iload_n 3, 1) := by decide +kernel
theorem d_L_resolve_7 : decode b_L_resolve 7 = .ok (.iload 4, 2) := by decide +kernel
theorem d_L_resolve_9 : decode b_L_resolve 9 = .ok (.invokevirtual 57, 3) := by decide +kernel
theorem d_L_resolve_12 : decode b_L_resolve 12 = .ok (.i2l, 1) := by decide +kernel
theorem d_L_resolve_13 : decode b_L_resolve 13 = .ok (.lastore, 1) := by decide +kernel
theorem d_L_resolve_14 : decode b_L_resolve 14 = .ok (.goto 11, 3) := by decide +kernel
theorem d_L_resolve_17 : decode b_L_resolve 17 = .ok (.astore 6, 2) := by decide +kernel
theorem d_L_resolve_19 : decode b_L_resolve 19 = .ok (.iconst 1, 1) := by decide +kernel
theorem d_L_resolve_20 : decode b_L_resolve 20 = .ok (.ireturn, 1) := by decide +kernel
theorem d_L_resolve_21 : decode b_L_resolve 21 = .ok (.astore 6, 2) := by decide +kernel
theorem d_L_resolve_23 : decode b_L_resolve 23 = .ok (.iconst 2, 1) := by decide +kernel
theorem d_L_resolve_24 : decode b_L_resolve 24 = .ok (.ireturn, 1) := by decide +kernel
theorem d_L_resolve_25 : decode b_L_resolve 25 = .ok (.iconst 0, 1) := by decide +kernel
theorem d_L_resolve_26 : decode b_L_resolve 26 = .ok (.ireturn, 1) := by decide +kernel
theorem d_L_differ_0 : decode b_L_differ 0 = .ok (.aload 5, 2) := by decide +kernel
theorem d_L_differ_2 : decode b_L_differ 2 = .ok (.iconst 0, 1) := by decide +kernel
theorem d_L_differ_3 : decode b_L_differ 3 = .ok (.aload_n 0, 1) := by decide +kernel
theorem d_L_differ_4 : decode b_L_differ 4 = .ok (.iload_n 1, 1) := by decide +kernel
theorem d_L_differ_5 : decode b_L_differ 5 = .ok (.iload_n 2, 1) := by decide +kernel
theorem d_L_differ_6 : decode b_L_differ 6 = .ok (.iload_n 3, 1) := by decide +kernel
theorem d_L_differ_7 : decode b_L_differ 7 = .ok (.iload 4, 2) := by decide +kernel
theorem d_L_differ_9 : decode b_L_differ 9 = .ok (.invokevirtual 61, 3) := by decide +kernel
theorem d_L_differ_12 : decode b_L_differ 12 = .ok (.i2l, 1) := by decide +kernel
theorem d_L_differ_13 : decode b_L_differ 13 = .ok (.lastore, 1) := by decide +kernel
theorem d_L_differ_14 : decode b_L_differ 14 = .ok (.goto 11, 3) := by decide +kernel
theorem d_L_differ_17 : decode b_L_differ 17 = .ok (.astore 6, 2) := by decide +kernel
theorem d_L_differ_19 : decode b_L_differ 19 = .ok (.iconst 1, 1) := by decide +kernel
theorem d_L_differ_20 : decode b_L_differ 20 = .ok (.ireturn, 1) := by decide +kernel
theorem d_L_differ_21 : decode b_L_differ 21 = .ok (.astore 6, 2) := by decide +kernel
theorem d_L_differ_23 : decode b_L_differ 23 = .ok (.iconst 2, 1) := by decide +kernel
theorem d_L_differ_24 : decode b_L_differ 24 = .ok (.ireturn, 1) := by decide +kernel
theorem d_L_differ_25 : decode b_L_differ 25 = .ok (.iconst 0, 1) := by decide +kernel
theorem d_L_differ_26 : decode b_L_differ 26 = .ok (.ireturn, 1) := by decide +kernel
theorem d_L_mark_0 : decode b_L_mark 0 = .ok (.aload_n 2, 1) := by decide +kernel
theorem d_L_mark_1 : decode b_L_mark 1 = .ok (.iconst 0, 1) := by decide +kernel
theorem d_L_mark_2 : decode b_L_mark 2 = .ok (.aload_n 0, 1) := by decide +kernel
theorem d_L_mark_3 : decode b_L_mark 3 = .ok (.iload_n 1, 1) := by decide +kernel
theorem d_L_mark_4 : decode b_L_mark 4 = .ok (.invokevirtual 64, 3) := by decide +kernel
theorem d_L_mark_7 : decode b_L_mark 7 = .ok (.i2l, 1) := by decide +kernel
theorem d_L_mark_8 : decode b_L_mark 8 = .ok (.lastore, 1) := by decide +kernel
theorem d_L_mark_9 : decode b_L_mark 9 = .ok (.goto 6, 3) := by decide +kernel
theorem d_L_mark_12 : decode b_L_mark 12 = .ok (.astore_n 3, 1) := by decide +kernel
theorem d_L_mark_13 : decode b_L_mark 13 = .ok (.iconst 1, 1) := by decide +kernel
theorem d_L_mark_14 : decode b_L_mark 14 = .ok (.ireturn, 1) := by decide +kernel
theorem d_L_mark_15 : decode b_L_mark 15 = .ok (.iconst 0, 1) := by decide +kernel
theorem d_L_mark_16 : decode b_L_mark 16 = .ok (.ireturn, 1) := by decide +kernel
