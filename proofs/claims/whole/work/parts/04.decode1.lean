/-! decode rows -/
theorem d_T_init_0 : decode b_T_init 0 = .ok (.aload_n 0, 1) := by decide +kernel
theorem d_T_init_1 : decode b_T_init 1 = .ok (.invokespecial 3, 3) := by decide +kernel
theorem d_T_init_4 : decode b_T_init 4 = .ok (.aload_n 0, 1) := by decide +kernel
theorem d_T_init_5 : decode b_T_init 5 = .ok (.iload_n 1, 1) := by decide +kernel
theorem d_T_init_6 : decode b_T_init 6 = .ok (.newarray .boolean, 2) := by decide +kernel
theorem d_T_init_8 : decode b_T_init 8 = .ok (.putfield 9, 3) := by decide +kernel
theorem d_T_init_11 : decode b_T_init 11 = .ok (.aload_n 0, 1) := by decide +kernel
theorem d_T_init_12 : decode b_T_init 12 = .ok (.iload_n 1, 1) := by decide +kernel
theorem d_T_init_13 : decode b_T_init 13 = .ok (.bipush 24, 2) := by decide +kernel
theorem d_T_init_15 : decode b_T_init 15 = .ok (.multianewarray 15 2, 4) := by decide +kernel
theorem d_T_init_19 : decode b_T_init 19 = .ok (.putfield 17, 3) := by decide +kernel
theorem d_T_init_22 : decode b_T_init 22 = .ok (.iconst 0, 1) := by decide +kernel
theorem d_T_init_23 : decode b_T_init 23 = .ok (.istore_n 2, 1) := by decide +kernel
theorem d_T_init_24 : decode b_T_init 24 = .ok (.iload_n 2, 1) := by decide +kernel
theorem d_T_init_25 : decode b_T_init 25 = .ok (.iload_n 1, 1) := by decide +kernel
theorem d_T_init_26 : decode b_T_init 26 = .ok (.if_icmp .ge 19, 3) := by decide +kernel
theorem d_T_init_29 : decode b_T_init 29 = .ok (.aload_n 0, 1) := by decide +kernel
theorem d_T_init_30 : decode b_T_init 30 = .ok (.getfield 17, 3) := by decide +kernel
theorem d_T_init_33 : decode b_T_init 33 = .ok (.iload_n 2, 1) := by decide +kernel
theorem d_T_init_34 : decode b_T_init 34 = .ok (.aaload, 1) := by decide +kernel
theorem d_T_init_35 : decode b_T_init 35 = .ok (.iconst (-1), 1) := by decide +kernel
theorem d_T_init_36 : decode b_T_init 36 = .ok (.invokestatic 20, 3) := by decide +kernel
theorem d_T_init_39 : decode b_T_init 39 = .ok (.iinc 2 1, 3) := by decide +kernel
theorem d_T_init_42 : decode b_T_init 42 = .ok (.goto (-18), 3) := by decide +kernel
theorem d_T_init_45 : decode b_T_init 45 = .ok (.return_, 1) := by decide +kernel
theorem d_T_has_0 : decode b_T_has 0 = .ok (.iload_n 1, 1) := by decide +kernel
theorem d_T_has_1 : decode b_T_has 1 = .ok (.ifCond .lt 25, 3) := by decide +kernel
theorem d_T_has_4 : decode b_T_has 4 = .ok (.iload_n 1, 1) := by decide +kernel
theorem d_T_has_5 : decode b_T_has 5 = .ok (.aload_n 0, 1) := by decide +kernel
theorem d_T_has_6 : decode b_T_has 6 = .ok (.getfield 9, 3) := by decide +kernel
theorem d_T_has_9 : decode b_T_has 9 = .ok (.arraylength, 1) := by decide +kernel
theorem d_T_has_10 : decode b_T_has 10 = .ok (.if_icmp .ge 16, 3) := by decide +kernel
theorem d_T_has_13 : decode b_T_has 13 = .ok (.aload_n 0, 1) := by decide +kernel
theorem d_T_has_14 : decode b_T_has 14 = .ok (.getfield 9, 3) := by decide +kernel
theorem d_T_has_17 : decode b_T_has 17 = .ok (.iload_n 1, 1) := by decide +kernel
theorem d_T_has_18 : decode b_T_has 18 = .ok (.baload, 1) := by decide +kernel
theorem d_T_has_19 : decode b_T_has 19 = .ok (.ifCond .eq 7, 3) := by decide +kernel
theorem d_T_has_22 : decode b_T_has 22 = .ok (.iconst 1, 1) := by decide +kernel
theorem d_T_has_23 : decode b_T_has 23 = .ok (.goto 4, 3) := by decide +kernel
theorem d_T_has_26 : decode b_T_has 26 = .ok (.iconst 0, 1) := by decide +kernel
theorem d_T_has_27 : decode b_T_has 27 = .ok (.ireturn, 1) := by decide +kernel
theorem d_T_leastFree_0 : decode b_T_leastFree 0 = .ok (.iconst 0, 1) := by decide +kernel
theorem d_T_leastFree_1 : decode b_T_leastFree 1 = .ok (.istore_n 1, 1) := by decide +kernel
theorem d_T_leastFree_2 : decode b_T_leastFree 2 = .ok (.iload_n 1, 1) := by decide +kernel
theorem d_T_leastFree_3 : decode b_T_leastFree 3 = .ok (.aload_n 0, 1) := by decide +kernel
theorem d_T_leastFree_4 : decode b_T_leastFree 4 = .ok (.getfield 9, 3) := by decide +kernel
theorem d_T_leastFree_7 : decode b_T_leastFree 7 = .ok (.arraylength, 1) := by decide +kernel
theorem d_T_leastFree_8 : decode b_T_leastFree 8 = .ok (.if_icmp .ge 20, 3) := by decide +kernel
theorem d_T_leastFree_11 : decode b_T_leastFree 11 = .ok (.aload_n 0, 1) := by decide +kernel
theorem d_T_leastFree_12 : decode b_T_leastFree 12 = .ok (.getfield 9, 3) := by decide +kernel
theorem d_T_leastFree_15 : decode b_T_leastFree 15 = .ok (.iload_n 1, 1) := by decide +kernel
theorem d_T_leastFree_16 : decode b_T_leastFree 16 = .ok (.baload, 1) := by decide +kernel
theorem d_T_leastFree_17 : decode b_T_leastFree 17 = .ok (.ifCond .ne 5, 3) := by decide +kernel
theorem d_T_leastFree_20 : decode b_T_leastFree 20 = .ok (.iload_n 1, 1) := by decide +kernel
theorem d_T_leastFree_21 : decode b_T_leastFree 21 = .ok (.ireturn, 1) := by decide +kernel
theorem d_T_leastFree_22 : decode b_T_leastFree 22 = .ok (.iinc 1 1, 3) := by decide +kernel
theorem d_T_leastFree_25 : decode b_T_leastFree 25 = .ok (.goto (-23), 3) := by decide +kernel
theorem d_T_leastFree_28 : decode b_T_leastFree 28 = .ok (.iconst (-1), 1) := by decide +kernel
theorem d_T_leastFree_29 : decode b_T_leastFree 29 = .ok (.ireturn, 1) := by decide +kernel
theorem d_T_add_0 : decode b_T_add 0 = .ok (.aload_n 0, 1) := by decide +kernel
theorem d_T_add_1 : decode b_T_add 1 = .ok (.getfield 9, 3) := by decide +kernel
theorem d_T_add_4 : decode b_T_add 4 = .ok (.iload_n 1, 1) := by decide +kernel
theorem d_T_add_5 : decode b_T_add 5 = .ok (.iconst 1, 1) := by decide +kernel
theorem d_T_add_6 : decode b_T_add 6 = .ok (.bastore, 1) := by decide +kernel
theorem d_T_add_7 : decode b_T_add 7 = .ok (.return_, 1) := by decide +kernel
theorem d_T_remove_0 : decode b_T_remove 0 = .ok (.aload_n 0, 1) := by decide +kernel
theorem d_T_remove_1 : decode b_T_remove 1 = .ok (.getfield 9, 3) := by decide +kernel
theorem d_T_remove_4 : decode b_T_remove 4 = .ok (.iload_n 1, 1) := by decide +kernel
theorem d_T_remove_5 : decode b_T_remove 5 = .ok (.iconst 0, 1) := by decide +kernel
theorem d_T_remove_6 : decode b_T_remove 6 = .ok (.bastore, 1) := by decide +kernel
theorem d_T_remove_7 : decode b_T_remove 7 = .ok (.aload_n 0, 1) := by decide +kernel
theorem d_T_remove_8 : decode b_T_remove 8 = .ok (.getfield 17, 3) := by decide +kernel
theorem d_T_remove_11 : decode b_T_remove 11 = .ok (.iload_n 1, 1) := by decide +kernel
theorem d_T_remove_12 : decode b_T_remove 12 = .ok (.aaload, 1) := by decide +kernel
theorem d_T_remove_13 : decode b_T_remove 13 = .ok (.iconst (-1), 1) := by decide +kernel
theorem d_T_remove_14 : decode b_T_remove 14 = .ok (.invokestatic 20, 3) := by decide +kernel
theorem d_T_remove_17 : decode b_T_remove 17 = .ok (.return_, 1) := by decide +kernel
theorem d_T_howMany_0 : decode b_T_howMany 0 = .ok (.iconst 0, 1) := by decide +kernel
theorem d_T_howMany_1 : decode b_T_howMany 1 = .ok (.istore_n 1, 1) := by decide +kernel
theorem d_T_howMany_2 : decode b_T_howMany 2 = .ok (.iconst 0, 1) := by decide +kernel
theorem d_T_howMany_3 : decode b_T_howMany 3 = .ok (.istore_n 2, 1) := by decide +kernel
theorem d_T_howMany_4 : decode b_T_howMany 4 = .ok (.iload_n 2, 1) := by decide +kernel
theorem d_T_howMany_5 : decode b_T_howMany 5 = .ok (.aload_n 0, 1) := by decide +kernel
theorem d_T_howMany_6 : decode b_T_howMany 6 = .ok (.getfield 9, 3) := by decide +kernel
theorem d_T_howMany_9 : decode b_T_howMany 9 = .ok (.arraylength, 1) := by decide +kernel
theorem d_T_howMany_10 : decode b_T_howMany 10 = .ok (.if_icmp .ge 21, 3) := by decide +kernel
theorem d_T_howMany_13 : decode b_T_howMany 13 = .ok (.aload_n 0, 1) := by decide +kernel
theorem d_T_howMany_14 : decode b_T_howMany 14 = .ok (.getfield 9, 3) := by decide +kernel
theorem d_T_howMany_17 : decode b_T_howMany 17 = .ok (.iload_n 2, 1) := by decide +kernel
theorem d_T_howMany_18 : decode b_T_howMany 18 = .ok (.baload, 1) := by decide +kernel
theorem d_T_howMany_19 : decode b_T_howMany 19 = .ok (.ifCond .eq 6, 3) := by decide +kernel
theorem d_T_howMany_22 : decode b_T_howMany 22 = .ok (.iinc 1 1, 3) := by decide +kernel
theorem d_T_howMany_25 : decode b_T_howMany 25 = .ok (.iinc 2 1, 3) := by decide +kernel
theorem d_T_howMany_28 : decode b_T_howMany 28 = .ok (.goto (-24), 3) := by decide +kernel
theorem d_T_howMany_31 : decode b_T_howMany 31 = .ok (.iload_n 1, 1) := by decide +kernel
theorem d_T_howMany_32 : decode b_T_howMany 32 = .ok (.ireturn, 1) := by decide +kernel
theorem d_T_valuesIn_0 : decode b_T_valuesIn 0 = .ok (.iconst 0, 1) := by decide +kernel
theorem d_T_valuesIn_1 : decode b_T_valuesIn 1 = .ok (.istore_n 2, 1) := by decide +kernel
theorem d_T_valuesIn_2 : decode b_T_valuesIn 2 = .ok (.iconst 0, 1) := by decide +kernel
theorem d_T_valuesIn_3 : decode b_T_valuesIn 3 = .ok (.istore_n 3, 1) := by decide +kernel
theorem d_T_valuesIn_4 : decode b_T_valuesIn 4 = .ok (.iload_n 3, 1) := by decide +kernel
theorem d_T_valuesIn_5 : decode b_T_valuesIn 5 = .ok (.bipush 24, 2) := by decide +kernel
theorem d_T_valuesIn_7 : decode b_T_valuesIn 7 = .ok (.if_icmp .ge 24, 3) := by decide +kernel
theorem d_T_valuesIn_10 : decode b_T_valuesIn 10 = .ok (.aload_n 0, 1) := by decide +kernel
theorem d_T_valuesIn_11 : decode b_T_valuesIn 11 = .ok (.getfield 17, 3) := by decide +kernel
theorem d_T_valuesIn_14 : decode b_T_valuesIn 14 = .ok (.iload_n 1, 1) := by decide +kernel
theorem d_T_valuesIn_15 : decode b_T_valuesIn 15 = .ok (.aaload, 1) := by decide +kernel
theorem d_T_valuesIn_16 : decode b_T_valuesIn 16 = .ok (.iload_n 3, 1) := by decide +kernel
theorem d_T_valuesIn_17 : decode b_T_valuesIn 17 = .ok (.iaload, 1) := by decide +kernel
theorem d_T_valuesIn_18 : decode b_T_valuesIn 18 = .ok (.iconst (-1), 1) := by decide +kernel
theorem d_T_valuesIn_19 : decode b_T_valuesIn 19 = .ok (.if_icmp .eq 6, 3) := by decide +kernel
theorem d_T_valuesIn_22 : decode b_T_valuesIn 22 = .ok (.iinc 2 1, 3) := by decide +kernel
theorem d_T_valuesIn_25 : decode b_T_valuesIn 25 = .ok (.iinc 3 1, 3) := by decide +kernel
theorem d_T_valuesIn_28 : decode b_T_valuesIn 28 = .ok (.goto (-24), 3) := by decide +kernel
theorem d_T_valuesIn_31 : decode b_T_valuesIn 31 = .ok (.iload_n 2, 1) := by decide +kernel
theorem d_T_valuesIn_32 : decode b_T_valuesIn 32 = .ok (.ireturn, 1) := by decide +kernel
theorem d_T_valuesInAll_0 : decode b_T_valuesInAll 0 = .ok (.iconst 0, 1) := by decide +kernel
theorem d_T_valuesInAll_1 : decode b_T_valuesInAll 1 = .ok (.istore_n 1, 1) := by decide +kernel
theorem d_T_valuesInAll_2 : decode b_T_valuesInAll 2 = .ok (.iconst 0, 1) := by decide +kernel
theorem d_T_valuesInAll_3 : decode b_T_valuesInAll 3 = .ok (.istore_n 2, 1) := by decide +kernel
theorem d_T_valuesInAll_4 : decode b_T_valuesInAll 4 = .ok (.iload_n 2, 1) := by decide +kernel
theorem d_T_valuesInAll_5 : decode b_T_valuesInAll 5 = .ok (.aload_n 0, 1) := by decide +kernel
theorem d_T_valuesInAll_6 : decode b_T_valuesInAll 6 = .ok (.getfield 9, 3) := by decide +kernel
theorem d_T_valuesInAll_9 : decode b_T_valuesInAll 9 = .ok (.arraylength, 1) := by decide +kernel
theorem d_T_valuesInAll_10 : decode b_T_valuesInAll 10 = .ok (.if_icmp .ge 17, 3) := by decide +kernel
theorem d_T_valuesInAll_13 : decode b_T_valuesInAll 13 = .ok (.iload_n 1, 1) := by decide +kernel
theorem d_T_valuesInAll_14 : decode b_T_valuesInAll 14 = .ok (.aload_n 0, 1) := by decide +kernel
theorem d_T_valuesInAll_15 : decode b_T_valuesInAll 15 = .ok (.iload_n 2, 1) := by decide +kernel
theorem d_T_valuesInAll_16 : decode b_T_valuesInAll 16 = .ok (.invokevirtual 26, 3) := by decide +kernel
theorem d_T_valuesInAll_19 : decode b_T_valuesInAll 19 = .ok (.iadd, 1) := by decide +kernel
theorem d_T_valuesInAll_20 : decode b_T_valuesInAll 20 = .ok (.istore_n 1, 1) := by decide +kernel
theorem d_T_valuesInAll_21 : decode b_T_valuesInAll 21 = .ok (.iinc 2 1, 3) := by decide +kernel
theorem d_T_valuesInAll_24 : decode b_T_valuesInAll 24 = .ok (.goto (-20), 3) := by decide +kernel
theorem d_T_valuesInAll_27 : decode b_T_valuesInAll 27 = .ok (.iload_n 1, 1) := by decide +kernel
theorem d_T_valuesInAll_28 : decode b_T_valuesInAll 28 = .ok (.ireturn, 1) := by decide +kernel
theorem d_T_numberOf_0 : decode b_T_numberOf 0 = .ok (.iconst 0, 1) := by decide +kernel
theorem d_T_numberOf_1 : decode b_T_numberOf 1 = .ok (.istore_n 2, 1) := by decide +kernel
theorem d_T_numberOf_2 : decode b_T_numberOf 2 = .ok (.iload_n 2, 1) := by decide +kernel
theorem d_T_numberOf_3 : decode b_T_numberOf 3 = .ok (.aload_n 0, 1) := by decide +kernel
theorem d_T_numberOf_4 : decode b_T_numberOf 4 = .ok (.getfield 9, 3) := by decide +kernel
theorem d_T_numberOf_7 : decode b_T_numberOf 7 = .ok (.arraylength, 1) := by decide +kernel
theorem d_T_numberOf_8 : decode b_T_numberOf 8 = .ok (.if_icmp .ge 33, 3) := by decide +kernel
theorem d_T_numberOf_11 : decode b_T_numberOf 11 = .ok (.aload_n 0, 1) := by decide +kernel
theorem d_T_numberOf_12 : decode b_T_numberOf 12 = .ok (.getfield 9, 3) := by decide +kernel
theorem d_T_numberOf_15 : decode b_T_numberOf 15 = .ok (.iload_n 2, 1) := by decide +kernel
theorem d_T_numberOf_16 : decode b_T_numberOf 16 = .ok (.baload, 1) := by decide +kernel
theorem d_T_numberOf_17 : decode b_T_numberOf 17 = .ok (.ifCond .eq 18, 3) := by decide +kernel
theorem d_T_numberOf_20 : decode b_T_numberOf 20 = .ok (.aload_n 0, 1) := by decide +kernel
theorem d_T_numberOf_21 : decode b_T_numberOf 21 = .ok (.getfield 17, 3) := by decide +kernel
theorem d_T_numberOf_24 : decode b_T_numberOf 24 = .ok (.iload_n 2, 1) := by decide +kernel
theorem d_T_numberOf_25 : decode b_T_numberOf 25 = .ok (.aaload, 1) := by decide +kernel
theorem d_T_numberOf_26 : decode b_T_numberOf 26 = .ok (.aload_n 1, 1) := by decide +kernel
theorem d_T_numberOf_27 : decode b_T_numberOf 27 = .ok (.invokestatic 30, 3) := by decide +kernel
theorem d_T_numberOf_30 : decode b_T_numberOf 30 = .ok (.ifCond .eq 5, 3) := by decide +kernel
theorem d_T_numberOf_33 : decode b_T_numberOf 33 = .ok (.iload_n 2, 1) := by decide +kernel
theorem d_T_numberOf_34 : decode b_T_numberOf 34 = .ok (.ireturn, 1) := by decide +kernel
theorem d_T_numberOf_35 : decode b_T_numberOf 35 = .ok (.iinc 2 1, 3) := by decide +kernel
theorem d_T_numberOf_38 : decode b_T_numberOf 38 = .ok (.goto (-36), 3) := by decide +kernel
theorem d_T_numberOf_41 : decode b_T_numberOf 41 = .ok (.iconst (-1), 1) := by decide +kernel
theorem d_T_numberOf_42 : decode b_T_numberOf 42 = .ok (.ireturn, 1) := by decide +kernel
theorem d_T_isAlike_0 : decode b_T_isAlike 0 = .ok (.iconst 0, 1) := by decide +kernel
theorem d_T_isAlike_1 : decode b_T_isAlike 1 = .ok (.istore_n 2, 1) := by decide +kernel
theorem d_T_isAlike_2 : decode b_T_isAlike 2 = .ok (.iload_n 2, 1) := by decide +kernel
theorem d_T_isAlike_3 : decode b_T_isAlike 3 = .ok (.bipush 24, 2) := by decide +kernel
theorem d_T_isAlike_5 : decode b_T_isAlike 5 = .ok (.if_icmp .ge 20, 3) := by decide +kernel
theorem d_T_isAlike_8 : decode b_T_isAlike 8 = .ok (.aload_n 0, 1) := by decide +kernel
theorem d_T_isAlike_9 : decode b_T_isAlike 9 = .ok (.iload_n 2, 1) := by decide +kernel
theorem d_T_isAlike_10 : decode b_T_isAlike 10 = .ok (.iaload, 1) := by decide +kernel
theorem d_T_isAlike_11 : decode b_T_isAlike 11 = .ok (.aload_n 1, 1) := by decide +kernel
theorem d_T_isAlike_12 : decode b_T_isAlike 12 = .ok (.iload_n 2, 1) := by decide +kernel
theorem d_T_isAlike_13 : decode b_T_isAlike 13 = .ok (.iaload, 1) := by decide +kernel
theorem d_T_isAlike_14 : decode b_T_isAlike 14 = .ok (.if_icmp .eq 5, 3) := by decide +kernel
theorem d_T_isAlike_17 : decode b_T_isAlike 17 = .ok (.iconst 0, 1) := by decide +kernel
theorem d_T_isAlike_18 : decode b_T_isAlike 18 = .ok (.ireturn, 1) := by decide +kernel
theorem d_T_isAlike_19 : decode b_T_isAlike 19 = .ok (.iinc 2 1, 3) := by decide +kernel
theorem d_T_isAlike_22 : decode b_T_isAlike 22 = .ok (.goto (-20), 3) := by decide +kernel
theorem d_T_isAlike_25 : decode b_T_isAlike 25 = .ok (.iconst 1, 1) := by decide +kernel
theorem d_T_isAlike_26 : decode b_T_isAlike 26 = .ok (.ireturn, 1) := by decide +kernel
theorem d_S_init_0 : decode b_S_init 0 = .ok (.aload_n 0, 1) := by decide +kernel
theorem d_S_init_1 : decode b_S_init 1 = .ok (.invokespecial 1, 3) := by decide +kernel
theorem d_S_init_4 : decode b_S_init 4 = .ok (.aload_n 0, 1) := by decide +kernel
theorem d_S_init_5 : decode b_S_init 5 = .ok (.new 7, 3) := by decide +kernel
theorem d_S_init_8 : decode b_S_init 8 = .ok (.dup, 1) := by decide +kernel
theorem d_S_init_9 : decode b_S_init 9 = .ok (.bipush 64, 2) := by decide +kernel
theorem d_S_init_11 : decode b_S_init 11 = .ok (.invokespecial 11, 3) := by decide +kernel
theorem d_S_init_14 : decode b_S_init 14 = .ok (.putfield 14, 3) := by decide +kernel
theorem d_S_init_17 : decode b_S_init 17 = .ok (.aload_n 0, 1) := by decide +kernel
theorem d_S_init_18 : decode b_S_init 18 = .ok (.bipush 64, 2) := by decide +kernel
theorem d_S_init_20 : decode b_S_init 20 = .ok (.newarray .int, 2) := by decide +kernel
theorem d_S_init_22 : decode b_S_init 22 = .ok (.putfield 18, 3) := by decide +kernel
theorem d_S_init_25 : decode b_S_init 25 = .ok (.aload_n 0, 1) := by decide +kernel
theorem d_S_init_26 : decode b_S_init 26 = .ok (.bipush 64, 2) := by decide +kernel
theorem d_S_init_28 : decode b_S_init 28 = .ok (.newarray .int, 2) := by decide +kernel
theorem d_S_init_30 : decode b_S_init 30 = .ok (.putfield 22, 3) := by decide +kernel
theorem d_S_init_33 : decode b_S_init 33 = .ok (.aload_n 0, 1) := by decide +kernel
theorem d_S_init_34 : decode b_S_init 34 = .ok (.bipush 24, 2) := by decide +kernel
theorem d_S_init_36 : decode b_S_init 36 = .ok (.newarray .int, 2) := by decide +kernel
theorem d_S_init_38 : decode b_S_init 38 = .ok (.putfield 25, 3) := by decide +kernel
theorem d_S_init_41 : decode b_S_init 41 = .ok (.aload_n 0, 1) := by decide +kernel
theorem d_S_init_42 : decode b_S_init 42 = .ok (.new 7, 3) := by decide +kernel
theorem d_S_init_45 : decode b_S_init 45 = .ok (.dup, 1) := by decide +kernel
theorem d_S_init_46 : decode b_S_init 46 = .ok (.sipush 256, 3) := by decide +kernel
theorem d_S_init_49 : decode b_S_init 49 = .ok (.invokespecial 11, 3) := by decide +kernel
theorem d_S_init_52 : decode b_S_init 52 = .ok (.putfield 28, 3) := by decide +kernel
theorem d_S_init_55 : decode b_S_init 55 = .ok (.aload_n 0, 1) := by decide +kernel
theorem d_S_init_56 : decode b_S_init 56 = .ok (.getfield 28, 3) := by decide +kernel
theorem d_S_init_59 : decode b_S_init 59 = .ok (.iconst 0, 1) := by decide +kernel
theorem d_S_init_60 : decode b_S_init 60 = .ok (.invokevirtual 31, 3) := by decide +kernel
theorem d_S_init_63 : decode b_S_init 63 = .ok (.aload_n 0, 1) := by decide +kernel
theorem d_S_init_64 : decode b_S_init 64 = .ok (.sipush 256, 3) := by decide +kernel
theorem d_S_init_67 : decode b_S_init 67 = .ok (.newarray .boolean, 2) := by decide +kernel
theorem d_S_init_69 : decode b_S_init 69 = .ok (.putfield 34, 3) := by decide +kernel
theorem d_S_init_72 : decode b_S_init 72 = .ok (.aload_n 0, 1) := by decide +kernel
theorem d_S_init_73 : decode b_S_init 73 = .ok (.bipush 24, 2) := by decide +kernel
theorem d_S_init_75 : decode b_S_init 75 = .ok (.newarray .int, 2) := by decide +kernel
theorem d_S_init_77 : decode b_S_init 77 = .ok (.putfield 38, 3) := by decide +kernel
theorem d_S_init_80 : decode b_S_init 80 = .ok (.return_, 1) := by decide +kernel
theorem d_S_make_0 : decode b_S_make 0 = .ok (.iload_n 1, 1) := by decide +kernel
theorem d_S_make_1 : decode b_S_make 1 = .ok (.ifCond .eq 18, 3) := by decide +kernel
theorem d_S_make_4 : decode b_S_make 4 = .ok (.iload_n 1, 1) := by decide +kernel
theorem d_S_make_5 : decode b_S_make 5 = .ok (.iconst 1, 1) := by decide +kernel
theorem d_S_make_6 : decode b_S_make 6 = .ok (.if_icmp .eq 13, 3) := by decide +kernel
theorem d_S_make_9 : decode b_S_make 9 = .ok (.new 41, 3) := by decide +kernel
theorem d_S_make_12 : decode b_S_make 12 = .ok (.dup, 1) := by decide +kernel
theorem d_S_make_13 : decode b_S_make 13 = .ok (.ldc 43, 2) := by decide +kernel
theorem d_S_make_15 : decode b_S_make 15 = .ok (.invokespecial 45, 3) := by decide +kernel
theorem d_S_make_18 : decode b_S_make 18 = .ok (.athrow, 1) := by decide +kernel
theorem d_S_make_19 : decode b_S_make 19 = .ok (.aload_n 0, 1) := by decide +kernel
theorem d_S_make_20 : decode b_S_make 20 = .ok (.iload_n 2, 1) := by decide +kernel
theorem d_S_make_21 : decode b_S_make 21 = .ok (.iload_n 1, 1) := by decide +kernel
theorem d_S_make_22 : decode b_S_make 22 = .ok (.invokevirtual 48, 3) := by decide +kernel
theorem d_S_make_25 : decode b_S_make 25 = .ok (.aload_n 0, 1) := by decide +kernel
theorem d_S_make_26 : decode b_S_make 26 = .ok (.getfield 14, 3) := by decide +kernel
theorem d_S_make_29 : decode b_S_make 29 = .ok (.invokevirtual 52, 3) := by decide +kernel
theorem d_S_make_32 : decode b_S_make 32 = .ok (.istore_n 3, 1) := by decide +kernel
theorem d_S_make_33 : decode b_S_make 33 = .ok (.iload_n 3, 1) := by decide +kernel
theorem d_S_make_34 : decode b_S_make 34 = .ok (.iconst (-1), 1) := by decide +kernel
theorem d_S_make_35 : decode b_S_make 35 = .ok (.if_icmp .ne 13, 3) := by decide +kernel
theorem d_S_make_38 : decode b_S_make 38 = .ok (.new 56, 3) := by decide +kernel
theorem d_S_make_41 : decode b_S_make 41 = .ok (.dup, 1) := by decide +kernel
theorem d_S_make_42 : decode b_S_make 42 = .ok (.ldc 58, 2) := by decide +kernel
theorem d_S_make_44 : decode b_S_make 44 = .ok (.invokespecial 60, 3) := by decide +kernel
theorem d_S_make_47 : decode b_S_make 47 = .ok (.athrow, 1) := by decide +kernel
theorem d_S_make_48 : decode b_S_make 48 = .ok (.aload_n 0, 1) := by decide +kernel
theorem d_S_make_49 : decode b_S_make 49 = .ok (.getfield 14, 3) := by decide +kernel
theorem d_S_make_52 : decode b_S_make 52 = .ok (.iload_n 3, 1) := by decide +kernel
theorem d_S_make_53 : decode b_S_make 53 = .ok (.invokevirtual 31, 3) := by decide +kernel
theorem d_S_make_56 : decode b_S_make 56 = .ok (.aload_n 0, 1) := by decide +kernel
theorem d_S_make_57 : decode b_S_make 57 = .ok (.getfield 18, 3) := by decide +kernel
theorem d_S_make_60 : decode b_S_make 60 = .ok (.iload_n 3, 1) := by decide +kernel
theorem d_S_make_61 : decode b_S_make 61 = .ok (.iload_n 1, 1) := by decide +kernel
theorem d_S_make_62 : decode b_S_make 62 = .ok (.iastore, 1) := by decide +kernel
theorem d_S_make_63 : decode b_S_make 63 = .ok (.aload_n 0, 1) := by decide +kernel
theorem d_S_make_64 : decode b_S_make 64 = .ok (.getfield 22, 3) := by decide +kernel
theorem d_S_make_67 : decode b_S_make 67 = .ok (.iload_n 3, 1) := by decide +kernel
theorem d_S_make_68 : decode b_S_make 68 = .ok (.iload_n 2, 1) := by decide +kernel
theorem d_S_make_69 : decode b_S_make 69 = .ok (.iastore, 1) := by decide +kernel
theorem d_S_make_70 : decode b_S_make 70 = .ok (.iload_n 3, 1) := by decide +kernel
theorem d_S_make_71 : decode b_S_make 71 = .ok (.ireturn, 1) := by decide +kernel
theorem d_S_drop_0 : decode b_S_drop 0 = .ok (.aload_n 0, 1) := by decide +kernel
theorem d_S_drop_1 : decode b_S_drop 1 = .ok (.iload_n 1, 1) := by decide +kernel
theorem d_S_drop_2 : decode b_S_drop 2 = .ok (.invokevirtual 61, 3) := by decide +kernel
theorem d_S_drop_5 : decode b_S_drop 5 = .ok (.iconst 0, 1) := by decide +kernel
theorem d_S_drop_6 : decode b_S_drop 6 = .ok (.istore_n 2, 1) := by decide +kernel
theorem d_S_drop_7 : decode b_S_drop 7 = .ok (.iconst 0, 1) := by decide +kernel
theorem d_S_drop_8 : decode b_S_drop 8 = .ok (.istore_n 3, 1) := by decide +kernel
theorem d_S_drop_9 : decode b_S_drop 9 = .ok (.iload_n 3, 1) := by decide +kernel
theorem d_S_drop_10 : decode b_S_drop 10 = .ok (.bipush 64, 2) := by decide +kernel
theorem d_S_drop_12 : decode b_S_drop 12 = .ok (.if_icmp .ge 45, 3) := by decide +kernel
theorem d_S_drop_15 : decode b_S_drop 15 = .ok (.aload_n 0, 1) := by decide +kernel
theorem d_S_drop_16 : decode b_S_drop 16 = .ok (.getfield 14, 3) := by decide +kernel
theorem d_S_drop_19 : decode b_S_drop 19 = .ok (.iload_n 3, 1) := by decide +kernel
theorem d_S_drop_20 : decode b_S_drop 20 = .ok (.invokevirtual 64, 3) := by decide +kernel
theorem d_S_drop_23 : decode b_S_drop 23 = .ok (.ifCond .eq 28, 3) := by decide +kernel
theorem d_S_drop_26 : decode b_S_drop 26 = .ok (.aload_n 0, 1) := by decide +kernel
theorem d_S_drop_27 : decode b_S_drop 27 = .ok (.getfield 22, 3) := by decide +kernel
theorem d_S_drop_30 : decode b_S_drop 30 = .ok (.iload_n 3, 1) := by decide +kernel
theorem d_S_drop_31 : decode b_S_drop 31 = .ok (.iaload, 1) := by decide +kernel
theorem d_S_drop_32 : decode b_S_drop 32 = .ok (.iload_n 1, 1) := by decide +kernel
theorem d_S_drop_33 : decode b_S_drop 33 = .ok (.if_icmp .ne 18, 3) := by decide +kernel
theorem d_S_drop_36 : decode b_S_drop 36 = .ok (.aload_n 0, 1) := by decide +kernel
theorem d_S_drop_37 : decode b_S_drop 37 = .ok (.getfield 22, 3) := by decide +kernel
theorem d_S_drop_40 : decode b_S_drop 40 = .ok (.iload_n 3, 1) := by decide +kernel
theorem d_S_drop_41 : decode b_S_drop 41 = .ok (.aload_n 0, 1) := by decide +kernel
theorem d_S_drop_42 : decode b_S_drop 42 = .ok (.getfield 22, 3) := by decide +kernel
theorem d_S_drop_45 : decode b_S_drop 45 = .ok (.iload_n 1, 1) := by decide +kernel
theorem d_S_drop_46 : decode b_S_drop 46 = .ok (.iaload, 1) := by decide +kernel
theorem d_S_drop_47 : decode b_S_drop 47 = .ok (.iastore, 1) := by decide +kernel
theorem d_S_drop_48 : decode b_S_drop 48 = .ok (.iinc 2 1, 3) := by decide +kernel
theorem d_S_drop_51 : decode b_S_drop 51 = .ok (.iinc 3 1, 3) := by decide +kernel
theorem d_S_drop_54 : decode b_S_drop 54 = .ok (.goto (-45), 3) := by decide +kernel
theorem d_S_drop_57 : decode b_S_drop 57 = .ok (.aload_n 0, 1) := by decide +kernel
theorem d_S_drop_58 : decode b_S_drop 58 = .ok (.getfield 14, 3) := by decide +kernel
theorem d_S_drop_61 : decode b_S_drop 61 = .ok (.iload_n 1, 1) := by decide +kernel
theorem d_S_drop_62 : decode b_S_drop 62 = .ok (.invokevirtual 68, 3) := by decide +kernel
theorem d_S_drop_65 : decode b_S_drop 65 = .ok (.iload_n 2, 1) := by decide +kernel
theorem d_S_drop_66 : decode b_S_drop 66 = .ok (.ireturn, 1) := by decide +kernel
theorem d_S_rebase_0 : decode b_S_rebase 0 = .ok (.aload_n 0, 1) := by decide +kernel
theorem d_S_rebase_1 : decode b_S_rebase 1 = .ok (.iload_n 1, 1) := by decide +kernel
theorem d_S_rebase_2 : decode b_S_rebase 2 = .ok (.invokevirtual 61, 3) := by decide +kernel
theorem d_S_rebase_5 : decode b_S_rebase 5 = .ok (.aload_n 0, 1) := by decide +kernel
theorem d_S_rebase_6 : decode b_S_rebase 6 = .ok (.iload_n 2, 1) := by decide +kernel
theorem d_S_rebase_7 : decode b_S_rebase 7 = .ok (.aload_n 0, 1) := by decide +kernel
theorem d_S_rebase_8 : decode b_S_rebase 8 = .ok (.getfield 18, 3) := by decide +kernel
theorem d_S_rebase_11 : decode b_S_rebase 11 = .ok (.iload_n 1, 1) := by decide +kernel
theorem d_S_rebase_12 : decode b_S_rebase 12 = .ok (.iaload, 1) := by decide +kernel
theorem d_S_rebase_13 : decode b_S_rebase 13 = .ok (.invokevirtual 48, 3) := by decide +kernel
theorem d_S_rebase_16 : decode b_S_rebase 16 = .ok (.aload_n 0, 1) := by decide +kernel
theorem d_S_rebase_17 : decode b_S_rebase 17 = .ok (.iload_n 1, 1) := by decide +kernel
theorem d_S_rebase_18 : decode b_S_rebase 18 = .ok (.iload_n 2, 1) := by decide +kernel
theorem d_S_rebase_19 : decode b_S_rebase 19 = .ok (.invokevirtual 71, 3) := by decide +kernel
theorem d_S_rebase_22 : decode b_S_rebase 22 = .ok (.ifCond .eq 5, 3) := by decide +kernel
theorem d_S_rebase_25 : decode b_S_rebase 25 = .ok (.iconst 0, 1) := by decide +kernel
theorem d_S_rebase_26 : decode b_S_rebase 26 = .ok (.ireturn, 1) := by decide +kernel
theorem d_S_rebase_27 : decode b_S_rebase 27 = .ok (.aload_n 0, 1) := by decide +kernel
theorem d_S_rebase_28 : decode b_S_rebase 28 = .ok (.getfield 22, 3) := by decide +kernel
theorem d_S_rebase_31 : decode b_S_rebase 31 = .ok (.iload_n 1, 1) := by decide +kernel
theorem d_S_rebase_32 : decode b_S_rebase 32 = .ok (.iload_n 2, 1) := by decide +kernel
theorem d_S_rebase_33 : decode b_S_rebase 33 = .ok (.iastore, 1) := by decide +kernel
theorem d_S_rebase_34 : decode b_S_rebase 34 = .ok (.iconst 1, 1) := by decide +kernel
theorem d_S_rebase_35 : decode b_S_rebase 35 = .ok (.ireturn, 1) := by decide +kernel
theorem d_S_own_0 : decode b_S_own 0 = .ok (.aload_n 0, 1) := by decide +kernel
theorem d_S_own_1 : decode b_S_own 1 = .ok (.iload_n 1, 1) := by decide +kernel
theorem d_S_own_2 : decode b_S_own 2 = .ok (.invokevirtual 61, 3) := by decide +kernel
theorem d_S_own_5 : decode b_S_own 5 = .ok (.iload_n 2, 1) := by decide +kernel
theorem d_S_own_6 : decode b_S_own 6 = .ok (.invokestatic 75, 3) := by decide +kernel
theorem d_S_own_9 : decode b_S_own 9 = .ok (.iload_n 2, 1) := by decide +kernel
theorem d_S_own_10 : decode b_S_own 10 = .ok (.iload_n 3, 1) := by decide +kernel
theorem d_S_own_11 : decode b_S_own 11 = .ok (.invokestatic 78, 3) := by decide +kernel
theorem d_S_own_14 : decode b_S_own 14 = .ok (.aload_n 0, 1) := by decide +kernel
theorem d_S_own_15 : decode b_S_own 15 = .ok (.getfield 14, 3) := by decide +kernel
theorem d_S_own_18 : decode b_S_own 18 = .ok (.getfield 81, 3) := by decide +kernel
theorem d_S_own_21 : decode b_S_own 21 = .ok (.iload_n 1, 1) := by decide +kernel
theorem d_S_own_22 : decode b_S_own 22 = .ok (.aaload, 1) := by decide +kernel
theorem d_S_own_23 : decode b_S_own 23 = .ok (.iload_n 2, 1) := by decide +kernel
theorem d_S_own_24 : decode b_S_own 24 = .ok (.iload_n 3, 1) := by decide +kernel
theorem d_S_own_25 : decode b_S_own 25 = .ok (.iastore, 1) := by decide +kernel
theorem d_S_own_26 : decode b_S_own 26 = .ok (.return_, 1) := by decide +kernel
theorem d_S_value_0 : decode b_S_value 0 = .ok (.aload_n 0, 1) := by decide +kernel
theorem d_S_value_1 : decode b_S_value 1 = .ok (.iload_n 1, 1) := by decide +kernel
theorem d_S_value_2 : decode b_S_value 2 = .ok (.invokevirtual 61, 3) := by decide +kernel
theorem d_S_value_5 : decode b_S_value 5 = .ok (.iload_n 2, 1) := by decide +kernel
theorem d_S_value_6 : decode b_S_value 6 = .ok (.invokestatic 75, 3) := by decide +kernel
theorem d_S_value_9 : decode b_S_value 9 = .ok (.aload_n 0, 1) := by decide +kernel
theorem d_S_value_10 : decode b_S_value 10 = .ok (.iload_n 1, 1) := by decide +kernel
theorem d_S_value_11 : decode b_S_value 11 = .ok (.iload_n 2, 1) := by decide +kernel
theorem d_S_value_12 : decode b_S_value 12 = .ok (.invokevirtual 85, 3) := by decide +kernel
theorem d_S_value_15 : decode b_S_value 15 = .ok (.ireturn, 1) := by decide +kernel
theorem d_S_giver_0 : decode b_S_giver 0 = .ok (.aload_n 0, 1) := by decide +kernel
theorem d_S_giver_1 : decode b_S_giver 1 = .ok (.iload_n 1, 1) := by decide +kernel
theorem d_S_giver_2 : decode b_S_giver 2 = .ok (.invokevirtual 61, 3) := by decide +kernel
theorem d_S_giver_5 : decode b_S_giver 5 = .ok (.iload_n 2, 1) := by decide +kernel
theorem d_S_giver_6 : decode b_S_giver 6 = .ok (.invokestatic 75, 3) := by decide +kernel
theorem d_S_giver_9 : decode b_S_giver 9 = .ok (.aload_n 0, 1) := by decide +kernel
theorem d_S_giver_10 : decode b_S_giver 10 = .ok (.iload_n 1, 1) := by decide +kernel
theorem d_S_giver_11 : decode b_S_giver 11 = .ok (.iload_n 2, 1) := by decide +kernel
theorem d_S_giver_12 : decode b_S_giver 12 = .ok (.invokevirtual 89, 3) := by decide +kernel
theorem d_S_giver_15 : decode b_S_giver 15 = .ok (.ireturn, 1) := by decide +kernel
theorem d_S_style_0 : decode b_S_style 0 = .ok (.aload_n 0, 1) := by decide +kernel
theorem d_S_style_1 : decode b_S_style 1 = .ok (.iload_n 1, 1) := by decide +kernel
theorem d_S_style_2 : decode b_S_style 2 = .ok (.invokevirtual 61, 3) := by decide +kernel
theorem d_S_style_5 : decode b_S_style 5 = .ok (.iload_n 2, 1) := by decide +kernel
theorem d_S_style_6 : decode b_S_style 6 = .ok (.tableswitch 69 0 4 #[34, 40, 46, 53, 60], 34) := by decide +kernel
theorem d_S_style_40 : decode b_S_style 40 = .ok (.aload_n 0, 1) := by decide +kernel
theorem d_S_style_41 : decode b_S_style 41 = .ok (.iload_n 1, 1) := by decide +kernel
theorem d_S_style_42 : decode b_S_style 42 = .ok (.invokevirtual 92, 3) := by decide +kernel
theorem d_S_style_45 : decode b_S_style 45 = .ok (.ireturn, 1) := by decide +kernel
theorem d_S_style_46 : decode b_S_style 46 = .ok (.aload_n 0, 1) := by decide +kernel
theorem d_S_style_47 : decode b_S_style 47 = .ok (.iload_n 1, 1) := by decide +kernel
theorem d_S_style_48 : decode b_S_style 48 = .ok (.invokevirtual 96, 3) := by decide +kernel
theorem d_S_style_51 : decode b_S_style 51 = .ok (.ireturn, 1) := by decide +kernel
theorem d_S_style_52 : decode b_S_style 52 = .ok (.aload_n 0, 1) := by decide +kernel
theorem d_S_style_53 : decode b_S_style 53 = .ok (.getfield 22, 3) := by decide +kernel
theorem d_S_style_56 : decode b_S_style 56 = .ok (.iload_n 1, 1) := by decide +kernel
theorem d_S_style_57 : decode b_S_style 57 = .ok (.iaload, 1) := by decide +kernel
theorem d_S_style_58 : decode b_S_style 58 = .ok (.ireturn, 1) := by decide +kernel
theorem d_S_style_59 : decode b_S_style 59 = .ok (.aload_n 0, 1) := by decide +kernel
theorem d_S_style_60 : decode b_S_style 60 = .ok (.getfield 18, 3) := by decide +kernel
theorem d_S_style_63 : decode b_S_style 63 = .ok (.iload_n 1, 1) := by decide +kernel
theorem d_S_style_64 : decode b_S_style 64 = .ok (.iaload, 1) := by decide +kernel
theorem d_S_style_65 : decode b_S_style 65 = .ok (.ireturn, 1) := by decide +kernel
theorem d_S_style_66 : decode b_S_style 66 = .ok (.aload_n 0, 1) := by decide +kernel
theorem d_S_style_67 : decode b_S_style 67 = .ok (.getfield 14, 3) := by decide +kernel
theorem d_S_style_70 : decode b_S_style 70 = .ok (.iload_n 1, 1) := by decide +kernel
theorem d_S_style_71 : decode b_S_style 71 = .ok (.invokevirtual 99, 3) := by decide +kernel
theorem d_S_style_74 : decode b_S_style 74 = .ok (.ireturn, 1) := by decide +kernel
theorem d_S_style_75 : decode b_S_style 75 = .ok (.new 41, 3) := by decide +kernel
theorem d_S_style_78 : decode b_S_style 78 = .ok (.dup, 1) := by decide +kernel
theorem d_S_style_79 : decode b_S_style 79 = .ok (.ldc 102, 2) := by decide +kernel
theorem d_S_style_81 : decode b_S_style 81 = .ok (.invokespecial 45, 3) := by decide +kernel
theorem d_S_style_84 : decode b_S_style 84 = .ok (.athrow, 1) := by decide +kernel
theorem d_S_usual_0 : decode b_S_usual 0 = .ok (.iload_n 1, 1) := by decide +kernel
theorem d_S_usual_1 : decode b_S_usual 1 = .ok (.invokestatic 75, 3) := by decide +kernel
theorem d_S_usual_4 : decode b_S_usual 4 = .ok (.iload_n 1, 1) := by decide +kernel
theorem d_S_usual_5 : decode b_S_usual 5 = .ok (.iload_n 2, 1) := by decide +kernel
theorem d_S_usual_6 : decode b_S_usual 6 = .ok (.invokestatic 104, 3) := by decide +kernel
theorem d_S_usual_9 : decode b_S_usual 9 = .ok (.aload_n 0, 1) := by decide +kernel
theorem d_S_usual_10 : decode b_S_usual 10 = .ok (.getfield 25, 3) := by decide +kernel
theorem d_S_usual_13 : decode b_S_usual 13 = .ok (.iload_n 1, 1) := by decide +kernel
theorem d_S_usual_14 : decode b_S_usual 14 = .ok (.iload_n 2, 1) := by decide +kernel
theorem d_S_usual_15 : decode b_S_usual 15 = .ok (.iastore, 1) := by decide +kernel
theorem d_S_usual_16 : decode b_S_usual 16 = .ok (.return_, 1) := by decide +kernel
theorem d_S_with_0 : decode b_S_with 0 = .ok (.aload_n 0, 1) := by decide +kernel
theorem d_S_with_1 : decode b_S_with 1 = .ok (.iload_n 1, 1) := by decide +kernel
theorem d_S_with_2 : decode b_S_with 2 = .ok (.invokevirtual 107, 3) := by decide +kernel
theorem d_S_with_5 : decode b_S_with 5 = .ok (.iload_n 2, 1) := by decide +kernel
theorem d_S_with_6 : decode b_S_with 6 = .ok (.invokestatic 75, 3) := by decide +kernel
theorem d_S_with_9 : decode b_S_with 9 = .ok (.iload_n 2, 1) := by decide +kernel
theorem d_S_with_10 : decode b_S_with 10 = .ok (.iload_n 3, 1) := by decide +kernel
theorem d_S_with_11 : decode b_S_with 11 = .ok (.invokestatic 78, 3) := by decide +kernel
theorem d_S_with_14 : decode b_S_with 14 = .ok (.iconst 0, 1) := by decide +kernel
theorem d_S_with_15 : decode b_S_with 15 = .ok (.istore 4, 2) := by decide +kernel
theorem d_S_with_17 : decode b_S_with 17 = .ok (.iload 4, 2) := by decide +kernel
theorem d_S_with_19 : decode b_S_with 19 = .ok (.bipush 24, 2) := by decide +kernel
theorem d_S_with_21 : decode b_S_with 21 = .ok (.if_icmp .ge 38, 3) := by decide +kernel
theorem d_S_with_24 : decode b_S_with 24 = .ok (.aload_n 0, 1) := by decide +kernel
theorem d_S_with_25 : decode b_S_with 25 = .ok (.getfield 38, 3) := by decide +kernel
theorem d_S_with_28 : decode b_S_with 28 = .ok (.iload 4, 2) := by decide +kernel
theorem d_S_with_30 : decode b_S_with 30 = .ok (.iload 4, 2) := by decide +kernel
theorem d_S_with_32 : decode b_S_with 32 = .ok (.iload_n 2, 1) := by decide +kernel
theorem d_S_with_33 : decode b_S_with 33 = .ok (.if_icmp .ne 7, 3) := by decide +kernel
theorem d_S_with_36 : decode b_S_with 36 = .ok (.iload_n 3, 1) := by decide +kernel
theorem d_S_with_37 : decode b_S_with 37 = .ok (.goto 15, 3) := by decide +kernel
theorem d_S_with_40 : decode b_S_with 40 = .ok (.aload_n 0, 1) := by decide +kernel
theorem d_S_with_41 : decode b_S_with 41 = .ok (.getfield 28, 3) := by decide +kernel
theorem d_S_with_44 : decode b_S_with 44 = .ok (.getfield 81, 3) := by decide +kernel
theorem d_S_with_47 : decode b_S_with 47 = .ok (.iload_n 1, 1) := by decide +kernel
theorem d_S_with_48 : decode b_S_with 48 = .ok (.aaload, 1) := by decide +kernel
theorem d_S_with_49 : decode b_S_with 49 = .ok (.iload 4, 2) := by decide +kernel
theorem d_S_with_51 : decode b_S_with 51 = .ok (.iaload, 1) := by decide +kernel
theorem d_S_with_52 : decode b_S_with 52 = .ok (.iastore, 1) := by decide +kernel
theorem d_S_with_53 : decode b_S_with 53 = .ok (.iinc 4 1, 3) := by decide +kernel
theorem d_S_with_56 : decode b_S_with 56 = .ok (.goto (-39), 3) := by decide +kernel
theorem d_S_with_59 : decode b_S_with 59 = .ok (.aload_n 0, 1) := by decide +kernel
theorem d_S_with_60 : decode b_S_with 60 = .ok (.invokevirtual 110, 3) := by decide +kernel
theorem d_S_with_63 : decode b_S_with 63 = .ok (.ireturn, 1) := by decide +kernel
theorem d_S_over_0 : decode b_S_over 0 = .ok (.aload_n 0, 1) := by decide +kernel
theorem d_S_over_1 : decode b_S_over 1 = .ok (.iload_n 1, 1) := by decide +kernel
theorem d_S_over_2 : decode b_S_over 2 = .ok (.invokevirtual 107, 3) := by decide +kernel
theorem d_S_over_5 : decode b_S_over 5 = .ok (.aload_n 0, 1) := by decide +kernel
theorem d_S_over_6 : decode b_S_over 6 = .ok (.iload_n 2, 1) := by decide +kernel
theorem d_S_over_7 : decode b_S_over 7 = .ok (.invokevirtual 107, 3) := by decide +kernel
theorem d_S_over_10 : decode b_S_over 10 = .ok (.iconst 0, 1) := by decide +kernel
theorem d_S_over_11 : decode b_S_over 11 = .ok (.istore_n 3, 1) := by decide +kernel
theorem d_S_over_12 : decode b_S_over 12 = .ok (.iload_n 3, 1) := by decide +kernel
theorem d_S_over_13 : decode b_S_over 13 = .ok (.bipush 24, 2) := by decide +kernel
theorem d_S_over_15 : decode b_S_over 15 = .ok (.if_icmp .ge 50, 3) := by decide +kernel
theorem d_S_over_18 : decode b_S_over 18 = .ok (.aload_n 0, 1) := by decide +kernel
theorem d_S_over_19 : decode b_S_over 19 = .ok (.getfield 28, 3) := by decide +kernel
theorem d_S_over_22 : decode b_S_over 22 = .ok (.getfield 81, 3) := by decide +kernel
theorem d_S_over_25 : decode b_S_over 25 = .ok (.iload_n 2, 1) := by decide +kernel
theorem d_S_over_26 : decode b_S_over 26 = .ok (.aaload, 1) := by decide +kernel
theorem d_S_over_27 : decode b_S_over 27 = .ok (.iload_n 3, 1) := by decide +kernel
theorem d_S_over_28 : decode b_S_over 28 = .ok (.iaload, 1) := by decide +kernel
theorem d_S_over_29 : decode b_S_over 29 = .ok (.istore 4, 2) := by decide +kernel
theorem d_S_over_31 : decode b_S_over 31 = .ok (.aload_n 0, 1) := by decide +kernel
theorem d_S_over_32 : decode b_S_over 32 = .ok (.getfield 38, 3) := by decide +kernel
theorem d_S_over_35 : decode b_S_over 35 = .ok (.iload_n 3, 1) := by decide +kernel
theorem d_S_over_36 : decode b_S_over 36 = .ok (.iload 4, 2) := by decide +kernel
theorem d_S_over_38 : decode b_S_over 38 = .ok (.iconst (-1), 1) := by decide +kernel
theorem d_S_over_39 : decode b_S_over 39 = .ok (.if_icmp .eq 8, 3) := by decide +kernel
theorem d_S_over_42 : decode b_S_over 42 = .ok (.iload 4, 2) := by decide +kernel
theorem d_S_over_44 : decode b_S_over 44 = .ok (.goto 14, 3) := by decide +kernel
theorem d_S_over_47 : decode b_S_over 47 = .ok (.aload_n 0, 1) := by decide +kernel
theorem d_S_over_48 : decode b_S_over 48 = .ok (.getfield 28, 3) := by decide +kernel
theorem d_S_over_51 : decode b_S_over 51 = .ok (.getfield 81, 3) := by decide +kernel
theorem d_S_over_54 : decode b_S_over 54 = .ok (.iload_n 1, 1) := by decide +kernel
theorem d_S_over_55 : decode b_S_over 55 = .ok (.aaload, 1) := by decide +kernel
theorem d_S_over_56 : decode b_S_over 56 = .ok (.iload_n 3, 1) := by decide +kernel
theorem d_S_over_57 : decode b_S_over 57 = .ok (.iaload, 1) := by decide +kernel
theorem d_S_over_58 : decode b_S_over 58 = .ok (.iastore, 1) := by decide +kernel
theorem d_S_over_59 : decode b_S_over 59 = .ok (.iinc 3 1, 3) := by decide +kernel
theorem d_S_over_62 : decode b_S_over 62 = .ok (.goto (-50), 3) := by decide +kernel
theorem d_S_over_65 : decode b_S_over 65 = .ok (.aload_n 0, 1) := by decide +kernel
theorem d_S_over_66 : decode b_S_over 66 = .ok (.invokevirtual 110, 3) := by decide +kernel
theorem d_S_over_69 : decode b_S_over 69 = .ok (.ireturn, 1) := by decide +kernel
theorem d_S_lean_0 : decode b_S_lean 0 = .ok (.aload_n 0, 1) := by decide +kernel
theorem d_S_lean_1 : decode b_S_lean 1 = .ok (.iload_n 1, 1) := by decide +kernel
theorem d_S_lean_2 : decode b_S_lean 2 = .ok (.invokevirtual 107, 3) := by decide +kernel
theorem d_S_lean_5 : decode b_S_lean 5 = .ok (.aload_n 0, 1) := by decide +kernel
theorem d_S_lean_6 : decode b_S_lean 6 = .ok (.iload_n 2, 1) := by decide +kernel
theorem d_S_lean_7 : decode b_S_lean 7 = .ok (.iconst 0, 1) := by decide +kernel
theorem d_S_lean_8 : decode b_S_lean 8 = .ok (.invokevirtual 48, 3) := by decide +kernel
theorem d_S_lean_11 : decode b_S_lean 11 = .ok (.aload_n 0, 1) := by decide +kernel
theorem d_S_lean_12 : decode b_S_lean 12 = .ok (.iload_n 3, 1) := by decide +kernel
theorem d_S_lean_13 : decode b_S_lean 13 = .ok (.iconst 1, 1) := by decide +kernel
theorem d_S_lean_14 : decode b_S_lean 14 = .ok (.invokevirtual 48, 3) := by decide +kernel
theorem d_S_lean_17 : decode b_S_lean 17 = .ok (.iconst 0, 1) := by decide +kernel
theorem d_S_lean_18 : decode b_S_lean 18 = .ok (.istore 4, 2) := by decide +kernel
theorem d_S_lean_20 : decode b_S_lean 20 = .ok (.iload 4, 2) := by decide +kernel
theorem d_S_lean_22 : decode b_S_lean 22 = .ok (.bipush 24, 2) := by decide +kernel
theorem d_S_lean_24 : decode b_S_lean 24 = .ok (.if_icmp .ge 49, 3) := by decide +kernel
theorem d_S_lean_27 : decode b_S_lean 27 = .ok (.aload_n 0, 1) := by decide +kernel
theorem d_S_lean_28 : decode b_S_lean 28 = .ok (.getfield 28, 3) := by decide +kernel
theorem d_S_lean_31 : decode b_S_lean 31 = .ok (.getfield 81, 3) := by decide +kernel
theorem d_S_lean_34 : decode b_S_lean 34 = .ok (.iload_n 1, 1) := by decide +kernel
theorem d_S_lean_35 : decode b_S_lean 35 = .ok (.aaload, 1) := by decide +kernel
theorem d_S_lean_36 : decode b_S_lean 36 = .ok (.iload 4, 2) := by decide +kernel
theorem d_S_lean_38 : decode b_S_lean 38 = .ok (.iaload, 1) := by decide +kernel
theorem d_S_lean_39 : decode b_S_lean 39 = .ok (.istore 5, 2) := by decide +kernel
theorem d_S_lean_41 : decode b_S_lean 41 = .ok (.aload_n 0, 1) := by decide +kernel
theorem d_S_lean_42 : decode b_S_lean 42 = .ok (.getfield 38, 3) := by decide +kernel
theorem d_S_lean_45 : decode b_S_lean 45 = .ok (.iload 4, 2) := by decide +kernel
theorem d_S_lean_47 : decode b_S_lean 47 = .ok (.iload 5, 2) := by decide +kernel
theorem d_S_lean_49 : decode b_S_lean 49 = .ok (.aload_n 0, 1) := by decide +kernel
theorem d_S_lean_50 : decode b_S_lean 50 = .ok (.iload_n 2, 1) := by decide +kernel
theorem d_S_lean_51 : decode b_S_lean 51 = .ok (.iload_n 3, 1) := by decide +kernel
theorem d_S_lean_52 : decode b_S_lean 52 = .ok (.iload 4, 2) := by decide +kernel
theorem d_S_lean_54 : decode b_S_lean 54 = .ok (.invokevirtual 113, 3) := by decide +kernel
theorem d_S_lean_57 : decode b_S_lean 57 = .ok (.if_icmp .ne 7, 3) := by decide +kernel
theorem d_S_lean_60 : decode b_S_lean 60 = .ok (.iconst (-1), 1) := by decide +kernel
theorem d_S_lean_61 : decode b_S_lean 61 = .ok (.goto 5, 3) := by decide +kernel
theorem d_S_lean_64 : decode b_S_lean 64 = .ok (.iload 5, 2) := by decide +kernel
theorem d_S_lean_66 : decode b_S_lean 66 = .ok (.iastore, 1) := by decide +kernel
theorem d_S_lean_67 : decode b_S_lean 67 = .ok (.iinc 4 1, 3) := by decide +kernel
theorem d_S_lean_70 : decode b_S_lean 70 = .ok (.goto (-50), 3) := by decide +kernel
theorem d_S_lean_73 : decode b_S_lean 73 = .ok (.aload_n 0, 1) := by decide +kernel
theorem d_S_lean_74 : decode b_S_lean 74 = .ok (.invokevirtual 110, 3) := by decide +kernel
theorem d_S_lean_77 : decode b_S_lean 77 = .ok (.ireturn, 1) := by decide +kernel
theorem d_S_get_0 : decode b_S_get 0 = .ok (.aload_n 0, 1) := by decide +kernel
theorem d_S_get_1 : decode b_S_get 1 = .ok (.iload_n 1, 1) := by decide +kernel
theorem d_S_get_2 : decode b_S_get 2 = .ok (.invokevirtual 107, 3) := by decide +kernel
theorem d_S_get_5 : decode b_S_get 5 = .ok (.iload_n 2, 1) := by decide +kernel
theorem d_S_get_6 : decode b_S_get 6 = .ok (.invokestatic 75, 3) := by decide +kernel
theorem d_S_get_9 : decode b_S_get 9 = .ok (.aload_n 0, 1) := by decide +kernel
theorem d_S_get_10 : decode b_S_get 10 = .ok (.getfield 28, 3) := by decide +kernel
theorem d_S_get_13 : decode b_S_get 13 = .ok (.getfield 81, 3) := by decide +kernel
theorem d_S_get_16 : decode b_S_get 16 = .ok (.iload_n 1, 1) := by decide +kernel
theorem d_S_get_17 : decode b_S_get 17 = .ok (.aaload, 1) := by decide +kernel
theorem d_S_get_18 : decode b_S_get 18 = .ok (.iload_n 2, 1) := by decide +kernel
theorem d_S_get_19 : decode b_S_get 19 = .ok (.iaload, 1) := by decide +kernel
theorem d_S_get_20 : decode b_S_get 20 = .ok (.ireturn, 1) := by decide +kernel
theorem d_S_size_0 : decode b_S_size 0 = .ok (.aload_n 0, 1) := by decide +kernel
theorem d_S_size_1 : decode b_S_size 1 = .ok (.getfield 28, 3) := by decide +kernel
theorem d_S_size_4 : decode b_S_size 4 = .ok (.iload_n 1, 1) := by decide +kernel
theorem d_S_size_5 : decode b_S_size 5 = .ok (.invokevirtual 64, 3) := by decide +kernel
theorem d_S_size_8 : decode b_S_size 8 = .ok (.ifCond .eq 14, 3) := by decide +kernel
theorem d_S_size_11 : decode b_S_size 11 = .ok (.aload_n 0, 1) := by decide +kernel
theorem d_S_size_12 : decode b_S_size 12 = .ok (.getfield 28, 3) := by decide +kernel
theorem d_S_size_15 : decode b_S_size 15 = .ok (.iload_n 1, 1) := by decide +kernel
theorem d_S_size_16 : decode b_S_size 16 = .ok (.invokevirtual 99, 3) := by decide +kernel
theorem d_S_size_19 : decode b_S_size 19 = .ok (.goto 4, 3) := by decide +kernel
theorem d_S_size_22 : decode b_S_size 22 = .ok (.iconst (-1), 1) := by decide +kernel
theorem d_S_size_23 : decode b_S_size 23 = .ok (.ireturn, 1) := by decide +kernel
theorem d_S_resolve_0 : decode b_S_resolve 0 = .ok (.aload_n 0, 1) := by decide +kernel
theorem d_S_resolve_1 : decode b_S_resolve 1 = .ok (.iload_n 1, 1) := by decide +kernel
theorem d_S_resolve_2 : decode b_S_resolve 2 = .ok (.invokevirtual 107, 3) := by decide +kernel
theorem d_S_resolve_5 : decode b_S_resolve 5 = .ok (.aload_n 0, 1) := by decide +kernel
theorem d_S_resolve_6 : decode b_S_resolve 6 = .ok (.iload_n 2, 1) := by decide +kernel
theorem d_S_resolve_7 : decode b_S_resolve 7 = .ok (.iconst 0, 1) := by decide +kernel
theorem d_S_resolve_8 : decode b_S_resolve 8 = .ok (.invokevirtual 48, 3) := by decide +kernel
theorem d_S_resolve_11 : decode b_S_resolve 11 = .ok (.aload_n 0, 1) := by decide +kernel
theorem d_S_resolve_12 : decode b_S_resolve 12 = .ok (.iload_n 3, 1) := by decide +kernel
theorem d_S_resolve_13 : decode b_S_resolve 13 = .ok (.iconst 1, 1) := by decide +kernel
theorem d_S_resolve_14 : decode b_S_resolve 14 = .ok (.invokevirtual 48, 3) := by decide +kernel
theorem d_S_resolve_17 : decode b_S_resolve 17 = .ok (.iload 4, 2) := by decide +kernel
theorem d_S_resolve_19 : decode b_S_resolve 19 = .ok (.invokestatic 75, 3) := by decide +kernel
theorem d_S_resolve_22 : decode b_S_resolve 22 = .ok (.aload_n 0, 1) := by decide +kernel
theorem d_S_resolve_23 : decode b_S_resolve 23 = .ok (.iload_n 1, 1) := by decide +kernel
theorem d_S_resolve_24 : decode b_S_resolve 24 = .ok (.iload_n 2, 1) := by decide +kernel
theorem d_S_resolve_25 : decode b_S_resolve 25 = .ok (.iload_n 3, 1) := by decide +kernel
theorem d_S_resolve_26 : decode b_S_resolve 26 = .ok (.iload 4, 2) := by decide +kernel
theorem d_S_resolve_28 : decode b_S_resolve 28 = .ok (.invokevirtual 117, 3) := by decide +kernel
theorem d_S_resolve_31 : decode b_S_resolve 31 = .ok (.ireturn, 1) := by decide +kernel
theorem d_S_differ_0 : decode b_S_differ 0 = .ok (.aload_n 0, 1) := by decide +kernel
theorem d_S_differ_1 : decode b_S_differ 1 = .ok (.iload_n 1, 1) := by decide +kernel
theorem d_S_differ_2 : decode b_S_differ 2 = .ok (.invokevirtual 107, 3) := by decide +kernel
theorem d_S_differ_5 : decode b_S_differ 5 = .ok (.aload_n 0, 1) := by decide +kernel
theorem d_S_differ_6 : decode b_S_differ 6 = .ok (.iload_n 2, 1) := by decide +kernel
theorem d_S_differ_7 : decode b_S_differ 7 = .ok (.invokevirtual 107, 3) := by decide +kernel
theorem d_S_differ_10 : decode b_S_differ 10 = .ok (.aload_n 0, 1) := by decide +kernel
theorem d_S_differ_11 : decode b_S_differ 11 = .ok (.iload_n 3, 1) := by decide +kernel
theorem d_S_differ_12 : decode b_S_differ 12 = .ok (.iconst 0, 1) := by decide +kernel
theorem d_S_differ_13 : decode b_S_differ 13 = .ok (.invokevirtual 48, 3) := by decide +kernel
theorem d_S_differ_16 : decode b_S_differ 16 = .ok (.aload_n 0, 1) := by decide +kernel
theorem d_S_differ_17 : decode b_S_differ 17 = .ok (.iload 4, 2) := by decide +kernel
theorem d_S_differ_19 : decode b_S_differ 19 = .ok (.iconst 1, 1) := by decide +kernel
theorem d_S_differ_20 : decode b_S_differ 20 = .ok (.invokevirtual 48, 3) := by decide +kernel
theorem d_S_differ_23 : decode b_S_differ 23 = .ok (.iconst 0, 1) := by decide +kernel
theorem d_S_differ_24 : decode b_S_differ 24 = .ok (.istore 5, 2) := by decide +kernel
theorem d_S_differ_26 : decode b_S_differ 26 = .ok (.iload 5, 2) := by decide +kernel
theorem d_S_differ_28 : decode b_S_differ 28 = .ok (.bipush 24, 2) := by decide +kernel
theorem d_S_differ_30 : decode b_S_differ 30 = .ok (.if_icmp .ge 35, 3) := by decide +kernel
theorem d_S_differ_33 : decode b_S_differ 33 = .ok (.aload_n 0, 1) := by decide +kernel
theorem d_S_differ_34 : decode b_S_differ 34 = .ok (.iload_n 1, 1) := by decide +kernel
theorem d_S_differ_35 : decode b_S_differ 35 = .ok (.iload_n 3, 1) := by decide +kernel
theorem d_S_differ_36 : decode b_S_differ 36 = .ok (.iload 4, 2) := by decide +kernel
theorem d_S_differ_38 : decode b_S_differ 38 = .ok (.iload 5, 2) := by decide +kernel
theorem d_S_differ_40 : decode b_S_differ 40 = .ok (.invokevirtual 117, 3) := by decide +kernel
theorem d_S_differ_43 : decode b_S_differ 43 = .ok (.aload_n 0, 1) := by decide +kernel
theorem d_S_differ_44 : decode b_S_differ 44 = .ok (.iload_n 2, 1) := by decide +kernel
theorem d_S_differ_45 : decode b_S_differ 45 = .ok (.iload_n 3, 1) := by decide +kernel
theorem d_S_differ_46 : decode b_S_differ 46 = .ok (.iload 4, 2) := by decide +kernel
theorem d_S_differ_48 : decode b_S_differ 48 = .ok (.iload 5, 2) := by decide +kernel
theorem d_S_differ_50 : decode b_S_differ 50 = .ok (.invokevirtual 117, 3) := by decide +kernel
theorem d_S_differ_53 : decode b_S_differ 53 = .ok (.if_icmp .eq 6, 3) := by decide +kernel
theorem d_S_differ_56 : decode b_S_differ 56 = .ok (.iload 5, 2) := by decide +kernel
theorem d_S_differ_58 : decode b_S_differ 58 = .ok (.ireturn, 1) := by decide +kernel
theorem d_S_differ_59 : decode b_S_differ 59 = .ok (.iinc 5 1, 3) := by decide +kernel
theorem d_S_differ_62 : decode b_S_differ 62 = .ok (.goto (-36), 3) := by decide +kernel
theorem d_S_differ_65 : decode b_S_differ 65 = .ok (.iconst (-1), 1) := by decide +kernel
theorem d_S_differ_66 : decode b_S_differ 66 = .ok (.ireturn, 1) := by decide +kernel
theorem d_S_mark_0 : decode b_S_mark 0 = .ok (.aload_n 0, 1) := by decide +kernel
theorem d_S_mark_1 : decode b_S_mark 1 = .ok (.iload_n 1, 1) := by decide +kernel
theorem d_S_mark_2 : decode b_S_mark 2 = .ok (.invokevirtual 107, 3) := by decide +kernel
theorem d_S_mark_5 : decode b_S_mark 5 = .ok (.aload_n 0, 1) := by decide +kernel
theorem d_S_mark_6 : decode b_S_mark 6 = .ok (.getfield 34, 3) := by decide +kernel
theorem d_S_mark_9 : decode b_S_mark 9 = .ok (.iload_n 1, 1) := by decide +kernel
theorem d_S_mark_10 : decode b_S_mark 10 = .ok (.iconst 1, 1) := by decide +kernel
theorem d_S_mark_11 : decode b_S_mark 11 = .ok (.bastore, 1) := by decide +kernel
theorem d_S_mark_12 : decode b_S_mark 12 = .ok (.iconst 0, 1) := by decide +kernel
theorem d_S_mark_13 : decode b_S_mark 13 = .ok (.istore_n 2, 1) := by decide +kernel
theorem d_S_mark_14 : decode b_S_mark 14 = .ok (.iconst 0, 1) := by decide +kernel
theorem d_S_mark_15 : decode b_S_mark 15 = .ok (.istore_n 3, 1) := by decide +kernel
theorem d_S_mark_16 : decode b_S_mark 16 = .ok (.iload_n 3, 1) := by decide +kernel
theorem d_S_mark_17 : decode b_S_mark 17 = .ok (.sipush 256, 3) := by decide +kernel
theorem d_S_mark_20 : decode b_S_mark 20 = .ok (.if_icmp .ge 21, 3) := by decide +kernel
theorem d_S_mark_23 : decode b_S_mark 23 = .ok (.aload_n 0, 1) := by decide +kernel
theorem d_S_mark_24 : decode b_S_mark 24 = .ok (.getfield 34, 3) := by decide +kernel
theorem d_S_mark_27 : decode b_S_mark 27 = .ok (.iload_n 3, 1) := by decide +kernel
theorem d_S_mark_28 : decode b_S_mark 28 = .ok (.baload, 1) := by decide +kernel
theorem d_S_mark_29 : decode b_S_mark 29 = .ok (.ifCond .eq 6, 3) := by decide +kernel
theorem d_S_mark_32 : decode b_S_mark 32 = .ok (.iinc 2 1, 3) := by decide +kernel
theorem d_S_mark_35 : decode b_S_mark 35 = .ok (.iinc 3 1, 3) := by decide +kernel
theorem d_S_mark_38 : decode b_S_mark 38 = .ok (.goto (-22), 3) := by decide +kernel
theorem d_S_mark_41 : decode b_S_mark 41 = .ok (.iload_n 2, 1) := by decide +kernel
theorem d_S_mark_42 : decode b_S_mark 42 = .ok (.ireturn, 1) := by decide +kernel
theorem d_S_sweep_0 : decode b_S_sweep 0 = .ok (.iconst 0, 1) := by decide +kernel
theorem d_S_sweep_1 : decode b_S_sweep 1 = .ok (.istore_n 1, 1) := by decide +kernel
theorem d_S_sweep_2 : decode b_S_sweep 2 = .ok (.iconst 0, 1) := by decide +kernel
theorem d_S_sweep_3 : decode b_S_sweep 3 = .ok (.istore_n 2, 1) := by decide +kernel
theorem d_S_sweep_4 : decode b_S_sweep 4 = .ok (.iload_n 2, 1) := by decide +kernel
theorem d_S_sweep_5 : decode b_S_sweep 5 = .ok (.sipush 256, 3) := by decide +kernel
theorem d_S_sweep_8 : decode b_S_sweep 8 = .ok (.if_icmp .ge 51, 3) := by decide +kernel
theorem d_S_sweep_11 : decode b_S_sweep 11 = .ok (.iload_n 2, 1) := by decide +kernel
theorem d_S_sweep_12 : decode b_S_sweep 12 = .ok (.ifCond .eq 34, 3) := by decide +kernel
theorem d_S_sweep_15 : decode b_S_sweep 15 = .ok (.aload_n 0, 1) := by decide +kernel
theorem d_S_sweep_16 : decode b_S_sweep 16 = .ok (.getfield 28, 3) := by decide +kernel
theorem d_S_sweep_19 : decode b_S_sweep 19 = .ok (.iload_n 2, 1) := by decide +kernel
theorem d_S_sweep_20 : decode b_S_sweep 20 = .ok (.invokevirtual 64, 3) := by decide +kernel
theorem d_S_sweep_23 : decode b_S_sweep 23 = .ok (.ifCond .eq 23, 3) := by decide +kernel
theorem d_S_sweep_26 : decode b_S_sweep 26 = .ok (.aload_n 0, 1) := by decide +kernel
theorem d_S_sweep_27 : decode b_S_sweep 27 = .ok (.getfield 34, 3) := by decide +kernel
theorem d_S_sweep_30 : decode b_S_sweep 30 = .ok (.iload_n 2, 1) := by decide +kernel
theorem d_S_sweep_31 : decode b_S_sweep 31 = .ok (.baload, 1) := by decide +kernel
theorem d_S_sweep_32 : decode b_S_sweep 32 = .ok (.ifCond .ne 14, 3) := by decide +kernel
theorem d_S_sweep_35 : decode b_S_sweep 35 = .ok (.aload_n 0, 1) := by decide +kernel
theorem d_S_sweep_36 : decode b_S_sweep 36 = .ok (.getfield 28, 3) := by decide +kernel
theorem d_S_sweep_39 : decode b_S_sweep 39 = .ok (.iload_n 2, 1) := by decide +kernel
theorem d_S_sweep_40 : decode b_S_sweep 40 = .ok (.invokevirtual 68, 3) := by decide +kernel
theorem d_S_sweep_43 : decode b_S_sweep 43 = .ok (.iinc 1 1, 3) := by decide +kernel
theorem d_S_sweep_46 : decode b_S_sweep 46 = .ok (.aload_n 0, 1) := by decide +kernel
theorem d_S_sweep_47 : decode b_S_sweep 47 = .ok (.getfield 34, 3) := by decide +kernel
theorem d_S_sweep_50 : decode b_S_sweep 50 = .ok (.iload_n 2, 1) := by decide +kernel
theorem d_S_sweep_51 : decode b_S_sweep 51 = .ok (.iconst 0, 1) := by decide +kernel
theorem d_S_sweep_52 : decode b_S_sweep 52 = .ok (.bastore, 1) := by decide +kernel
theorem d_S_sweep_53 : decode b_S_sweep 53 = .ok (.iinc 2 1, 3) := by decide +kernel
theorem d_S_sweep_56 : decode b_S_sweep 56 = .ok (.goto (-52), 3) := by decide +kernel
theorem d_S_sweep_59 : decode b_S_sweep 59 = .ok (.iload_n 1, 1) := by decide +kernel
theorem d_S_sweep_60 : decode b_S_sweep 60 = .ok (.ireturn, 1) := by decide +kernel
theorem d_S_count_0 : decode b_S_count 0 = .ok (.iload_n 1, 1) := by decide +kernel
theorem d_S_count_1 : decode b_S_count 1 = .ok (.tableswitch 72 0 4 #[35, 43, 51, 59, 67], 35) := by decide +kernel
theorem d_S_count_36 : decode b_S_count 36 = .ok (.aload_n 0, 1) := by decide +kernel
theorem d_S_count_37 : decode b_S_count 37 = .ok (.getfield 14, 3) := by decide +kernel
theorem d_S_count_40 : decode b_S_count 40 = .ok (.invokevirtual 121, 3) := by decide +kernel
theorem d_S_count_43 : decode b_S_count 43 = .ok (.ireturn, 1) := by decide +kernel
theorem d_S_count_44 : decode b_S_count 44 = .ok (.aload_n 0, 1) := by decide +kernel
theorem d_S_count_45 : decode b_S_count 45 = .ok (.getfield 28, 3) := by decide +kernel
theorem d_S_count_48 : decode b_S_count 48 = .ok (.invokevirtual 121, 3) := by decide +kernel
theorem d_S_count_51 : decode b_S_count 51 = .ok (.ireturn, 1) := by decide +kernel
theorem d_S_count_52 : decode b_S_count 52 = .ok (.aload_n 0, 1) := by decide +kernel
theorem d_S_count_53 : decode b_S_count 53 = .ok (.getfield 14, 3) := by decide +kernel
theorem d_S_count_56 : decode b_S_count 56 = .ok (.invokevirtual 124, 3) := by decide +kernel
theorem d_S_count_59 : decode b_S_count 59 = .ok (.ireturn, 1) := by decide +kernel
theorem d_S_count_60 : decode b_S_count 60 = .ok (.aload_n 0, 1) := by decide +kernel
theorem d_S_count_61 : decode b_S_count 61 = .ok (.getfield 28, 3) := by decide +kernel
theorem d_S_count_64 : decode b_S_count 64 = .ok (.invokevirtual 124, 3) := by decide +kernel
theorem d_S_count_67 : decode b_S_count 67 = .ok (.ireturn, 1) := by decide +kernel
theorem d_S_count_68 : decode b_S_count 68 = .ok (.aload_n 0, 1) := by decide +kernel
theorem d_S_count_69 : decode b_S_count 69 = .ok (.invokevirtual 127, 3) := by decide +kernel
theorem d_S_count_72 : decode b_S_count 72 = .ok (.ireturn, 1) := by decide +kernel
theorem d_S_count_73 : decode b_S_count 73 = .ok (.iconst (-1), 1) := by decide +kernel
theorem d_S_count_74 : decode b_S_count 74 = .ok (.ireturn, 1) := by decide +kernel
theorem d_S_requireStyle_0 : decode b_S_requireStyle 0 = .ok (.aload_n 0, 1) := by decide +kernel
theorem d_S_requireStyle_1 : decode b_S_requireStyle 1 = .ok (.getfield 14, 3) := by decide +kernel
theorem d_S_requireStyle_4 : decode b_S_requireStyle 4 = .ok (.iload_n 1, 1) := by decide +kernel
theorem d_S_requireStyle_5 : decode b_S_requireStyle 5 = .ok (.invokevirtual 64, 3) := by decide +kernel
theorem d_S_requireStyle_8 : decode b_S_requireStyle 8 = .ok (.ifCond .ne 13, 3) := by decide +kernel
theorem d_S_requireStyle_11 : decode b_S_requireStyle 11 = .ok (.new 130, 3) := by decide +kernel
theorem d_S_requireStyle_14 : decode b_S_requireStyle 14 = .ok (.dup, 1) := by decide +kernel
theorem d_S_requireStyle_15 : decode b_S_requireStyle 15 = .ok (.ldc 132, 2) := by decide +kernel
theorem d_S_requireStyle_17 : decode b_S_requireStyle 17 = .ok (.invokespecial 134, 3) := by decide +kernel
theorem d_S_requireStyle_20 : decode b_S_requireStyle 20 = .ok (.athrow, 1) := by decide +kernel
theorem d_S_requireStyle_21 : decode b_S_requireStyle 21 = .ok (.return_, 1) := by decide +kernel
theorem d_S_requireSet_0 : decode b_S_requireSet 0 = .ok (.aload_n 0, 1) := by decide +kernel
theorem d_S_requireSet_1 : decode b_S_requireSet 1 = .ok (.getfield 28, 3) := by decide +kernel
theorem d_S_requireSet_4 : decode b_S_requireSet 4 = .ok (.iload_n 1, 1) := by decide +kernel
theorem d_S_requireSet_5 : decode b_S_requireSet 5 = .ok (.invokevirtual 64, 3) := by decide +kernel
theorem d_S_requireSet_8 : decode b_S_requireSet 8 = .ok (.ifCond .ne 13, 3) := by decide +kernel
theorem d_S_requireSet_11 : decode b_S_requireSet 11 = .ok (.new 130, 3) := by decide +kernel
theorem d_S_requireSet_14 : decode b_S_requireSet 14 = .ok (.dup, 1) := by decide +kernel
theorem d_S_requireSet_15 : decode b_S_requireSet 15 = .ok (.ldc 135, 2) := by decide +kernel
theorem d_S_requireSet_17 : decode b_S_requireSet 17 = .ok (.invokespecial 134, 3) := by decide +kernel
theorem d_S_requireSet_20 : decode b_S_requireSet 20 = .ok (.athrow, 1) := by decide +kernel
theorem d_S_requireSet_21 : decode b_S_requireSet 21 = .ok (.return_, 1) := by decide +kernel
theorem d_S_requireNoneOrOfKind_0 : decode b_S_requireNoneOrOfKind 0 = .ok (.iload_n 1, 1) := by decide +kernel
theorem d_S_requireNoneOrOfKind_1 : decode b_S_requireNoneOrOfKind 1 = .ok (.iconst (-1), 1) := by decide +kernel
theorem d_S_requireNoneOrOfKind_2 : decode b_S_requireNoneOrOfKind 2 = .ok (.if_icmp .eq 34, 3) := by decide +kernel
theorem d_S_requireNoneOrOfKind_5 : decode b_S_requireNoneOrOfKind 5 = .ok (.aload_n 0, 1) := by decide +kernel
theorem d_S_requireNoneOrOfKind_6 : decode b_S_requireNoneOrOfKind 6 = .ok (.getfield 14, 3) := by decide +kernel
theorem d_S_requireNoneOrOfKind_9 : decode b_S_requireNoneOrOfKind 9 = .ok (.iload_n 1, 1) := by decide +kernel
theorem d_S_requireNoneOrOfKind_10 : decode b_S_requireNoneOrOfKind 10 = .ok (.invokevirtual 64, 3) := by decide +kernel
theorem d_S_requireNoneOrOfKind_13 : decode b_S_requireNoneOrOfKind 13 = .ok (.ifCond .eq 13, 3) := by decide +kernel
theorem d_S_requireNoneOrOfKind_16 : decode b_S_requireNoneOrOfKind 16 = .ok (.aload_n 0, 1) := by decide +kernel
theorem d_S_requireNoneOrOfKind_17 : decode b_S_requireNoneOrOfKind 17 = .ok (.getfield 18, 3) := by decide +kernel
theorem d_S_requireNoneOrOfKind_20 : decode b_S_requireNoneOrOfKind 20 = .ok (.iload_n 1, 1) := by decide +kernel
theorem d_S_requireNoneOrOfKind_21 : decode b_S_requireNoneOrOfKind 21 = .ok (.iaload, 1) := by decide +kernel
theorem d_S_requireNoneOrOfKind_22 : decode b_S_requireNoneOrOfKind 22 = .ok (.iload_n 2, 1) := by decide +kernel
theorem d_S_requireNoneOrOfKind_23 : decode b_S_requireNoneOrOfKind 23 = .ok (.if_icmp .eq 13, 3) := by decide +kernel
theorem d_S_requireNoneOrOfKind_26 : decode b_S_requireNoneOrOfKind 26 = .ok (.new 41, 3) := by decide +kernel
theorem d_S_requireNoneOrOfKind_29 : decode b_S_requireNoneOrOfKind 29 = .ok (.dup, 1) := by decide +kernel
theorem d_S_requireNoneOrOfKind_30 : decode b_S_requireNoneOrOfKind 30 = .ok (.ldc 137, 2) := by decide +kernel
theorem d_S_requireNoneOrOfKind_32 : decode b_S_requireNoneOrOfKind 32 = .ok (.invokespecial 45, 3) := by decide +kernel
theorem d_S_requireNoneOrOfKind_35 : decode b_S_requireNoneOrOfKind 35 = .ok (.athrow, 1) := by decide +kernel
theorem d_S_requireNoneOrOfKind_36 : decode b_S_requireNoneOrOfKind 36 = .ok (.return_, 1) := by decide +kernel
theorem d_S_requireProperty_0 : decode b_S_requireProperty 0 = .ok (.iload_n 0, 1) := by decide +kernel
theorem d_S_requireProperty_1 : decode b_S_requireProperty 1 = .ok (.ifCond .lt 9, 3) := by decide +kernel
theorem d_S_requireProperty_4 : decode b_S_requireProperty 4 = .ok (.iload_n 0, 1) := by decide +kernel
theorem d_S_requireProperty_5 : decode b_S_requireProperty 5 = .ok (.bipush 24, 2) := by decide +kernel
theorem d_S_requireProperty_7 : decode b_S_requireProperty 7 = .ok (.if_icmp .lt 13, 3) := by decide +kernel
theorem d_S_requireProperty_10 : decode b_S_requireProperty 10 = .ok (.new 41, 3) := by decide +kernel
theorem d_S_requireProperty_13 : decode b_S_requireProperty 13 = .ok (.dup, 1) := by decide +kernel
theorem d_S_requireProperty_14 : decode b_S_requireProperty 14 = .ok (.ldc 139, 2) := by decide +kernel
theorem d_S_requireProperty_16 : decode b_S_requireProperty 16 = .ok (.invokespecial 45, 3) := by decide +kernel
theorem d_S_requireProperty_19 : decode b_S_requireProperty 19 = .ok (.athrow, 1) := by decide +kernel
theorem d_S_requireProperty_20 : decode b_S_requireProperty 20 = .ok (.return_, 1) := by decide +kernel
theorem d_S_requireNoneOrValue_0 : decode b_S_requireNoneOrValue 0 = .ok (.iload_n 1, 1) := by decide +kernel
theorem d_S_requireNoneOrValue_1 : decode b_S_requireNoneOrValue 1 = .ok (.iconst (-1), 1) := by decide +kernel
theorem d_S_requireNoneOrValue_2 : decode b_S_requireNoneOrValue 2 = .ok (.if_icmp .eq 8, 3) := by decide +kernel
theorem d_S_requireNoneOrValue_5 : decode b_S_requireNoneOrValue 5 = .ok (.iload_n 0, 1) := by decide +kernel
theorem d_S_requireNoneOrValue_6 : decode b_S_requireNoneOrValue 6 = .ok (.iload_n 1, 1) := by decide +kernel
theorem d_S_requireNoneOrValue_7 : decode b_S_requireNoneOrValue 7 = .ok (.invokestatic 104, 3) := by decide +kernel
theorem d_S_requireNoneOrValue_10 : decode b_S_requireNoneOrValue 10 = .ok (.return_, 1) := by decide +kernel
theorem d_S_requireValue_0 : decode b_S_requireValue 0 = .ok (.iload_n 1, 1) := by decide +kernel
theorem d_S_requireValue_1 : decode b_S_requireValue 1 = .ok (.ifCond .lt 11, 3) := by decide +kernel
theorem d_S_requireValue_4 : decode b_S_requireValue 4 = .ok (.iload_n 1, 1) := by decide +kernel
theorem d_S_requireValue_5 : decode b_S_requireValue 5 = .ok (.iload_n 0, 1) := by decide +kernel
theorem d_S_requireValue_6 : decode b_S_requireValue 6 = .ok (.invokestatic 141, 3) := by decide +kernel
theorem d_S_requireValue_9 : decode b_S_requireValue 9 = .ok (.if_icmp .le 13, 3) := by decide +kernel
theorem d_S_requireValue_12 : decode b_S_requireValue 12 = .ok (.new 41, 3) := by decide +kernel
theorem d_S_requireValue_15 : decode b_S_requireValue 15 = .ok (.dup, 1) := by decide +kernel
theorem d_S_requireValue_16 : decode b_S_requireValue 16 = .ok (.ldc 144, 2) := by decide +kernel
theorem d_S_requireValue_18 : decode b_S_requireValue 18 = .ok (.invokespecial 45, 3) := by decide +kernel
theorem d_S_requireValue_21 : decode b_S_requireValue 21 = .ok (.athrow, 1) := by decide +kernel
theorem d_S_requireValue_22 : decode b_S_requireValue 22 = .ok (.return_, 1) := by decide +kernel
theorem d_S_greatest_0 : decode b_S_greatest 0 = .ok (.iload_n 0, 1) := by decide +kernel
theorem d_S_greatest_1 : decode b_S_greatest 1 = .ok (.bipush 8, 2) := by decide +kernel
theorem d_S_greatest_3 : decode b_S_greatest 3 = .ok (.if_icmp .ge 5, 3) := by decide +kernel
theorem d_S_greatest_6 : decode b_S_greatest 6 = .ok (.iconst 1, 1) := by decide +kernel
theorem d_S_greatest_7 : decode b_S_greatest 7 = .ok (.ireturn, 1) := by decide +kernel
theorem d_S_greatest_8 : decode b_S_greatest 8 = .ok (.iload_n 0, 1) := by decide +kernel
theorem d_S_greatest_9 : decode b_S_greatest 9 = .ok (.bipush 16, 2) := by decide +kernel
theorem d_S_greatest_11 : decode b_S_greatest 11 = .ok (.if_icmp .ge 9, 3) := by decide +kernel
theorem d_S_greatest_14 : decode b_S_greatest 14 = .ok (.sipush 255, 3) := by decide +kernel
theorem d_S_greatest_17 : decode b_S_greatest 17 = .ok (.goto 5, 3) := by decide +kernel
theorem d_S_greatest_20 : decode b_S_greatest 20 = .ok (.ldc 146, 2) := by decide +kernel
theorem d_S_greatest_22 : decode b_S_greatest 22 = .ok (.ireturn, 1) := by decide +kernel
theorem d_S_giverOnChain_0 : decode b_S_giverOnChain 0 = .ok (.iload_n 1, 1) := by decide +kernel
theorem d_S_giverOnChain_1 : decode b_S_giverOnChain 1 = .ok (.istore_n 3, 1) := by decide +kernel
theorem d_S_giverOnChain_2 : decode b_S_giverOnChain 2 = .ok (.iconst 0, 1) := by decide +kernel
theorem d_S_giverOnChain_3 : decode b_S_giverOnChain 3 = .ok (.istore 4, 2) := by decide +kernel
theorem d_S_giverOnChain_5 : decode b_S_giverOnChain 5 = .ok (.iload 4, 2) := by decide +kernel
theorem d_S_giverOnChain_7 : decode b_S_giverOnChain 7 = .ok (.bipush 64, 2) := by decide +kernel
theorem d_S_giverOnChain_9 : decode b_S_giverOnChain 9 = .ok (.if_icmp .ge 44, 3) := by decide +kernel
theorem d_S_giverOnChain_12 : decode b_S_giverOnChain 12 = .ok (.aload_n 0, 1) := by decide +kernel
theorem d_S_giverOnChain_13 : decode b_S_giverOnChain 13 = .ok (.getfield 14, 3) := by decide +kernel
theorem d_S_giverOnChain_16 : decode b_S_giverOnChain 16 = .ok (.iload_n 3, 1) := by decide +kernel
theorem d_S_giverOnChain_17 : decode b_S_giverOnChain 17 = .ok (.invokevirtual 64, 3) := by decide +kernel
theorem d_S_giverOnChain_20 : decode b_S_giverOnChain 20 = .ok (.ifCond .eq 33, 3) := by decide +kernel
theorem d_S_giverOnChain_23 : decode b_S_giverOnChain 23 = .ok (.aload_n 0, 1) := by decide +kernel
theorem d_S_giverOnChain_24 : decode b_S_giverOnChain 24 = .ok (.getfield 14, 3) := by decide +kernel
theorem d_S_giverOnChain_27 : decode b_S_giverOnChain 27 = .ok (.getfield 81, 3) := by decide +kernel
theorem d_S_giverOnChain_30 : decode b_S_giverOnChain 30 = .ok (.iload_n 3, 1) := by decide +kernel
theorem d_S_giverOnChain_31 : decode b_S_giverOnChain 31 = .ok (.aaload, 1) := by decide +kernel
theorem d_S_giverOnChain_32 : decode b_S_giverOnChain 32 = .ok (.iload_n 2, 1) := by decide +kernel
theorem d_S_giverOnChain_33 : decode b_S_giverOnChain 33 = .ok (.iaload, 1) := by decide +kernel
theorem d_S_giverOnChain_34 : decode b_S_giverOnChain 34 = .ok (.iconst (-1), 1) := by decide +kernel
theorem d_S_giverOnChain_35 : decode b_S_giverOnChain 35 = .ok (.if_icmp .eq 5, 3) := by decide +kernel
theorem d_S_giverOnChain_38 : decode b_S_giverOnChain 38 = .ok (.iload_n 3, 1) := by decide +kernel
theorem d_S_giverOnChain_39 : decode b_S_giverOnChain 39 = .ok (.ireturn, 1) := by decide +kernel
theorem d_S_giverOnChain_40 : decode b_S_giverOnChain 40 = .ok (.aload_n 0, 1) := by decide +kernel
theorem d_S_giverOnChain_41 : decode b_S_giverOnChain 41 = .ok (.getfield 22, 3) := by decide +kernel
theorem d_S_giverOnChain_44 : decode b_S_giverOnChain 44 = .ok (.iload_n 3, 1) := by decide +kernel
theorem d_S_giverOnChain_45 : decode b_S_giverOnChain 45 = .ok (.iaload, 1) := by decide +kernel
theorem d_S_giverOnChain_46 : decode b_S_giverOnChain 46 = .ok (.istore_n 3, 1) := by decide +kernel
theorem d_S_giverOnChain_47 : decode b_S_giverOnChain 47 = .ok (.iinc 4 1, 3) := by decide +kernel
theorem d_S_giverOnChain_50 : decode b_S_giverOnChain 50 = .ok (.goto (-45), 3) := by decide +kernel
theorem d_S_giverOnChain_53 : decode b_S_giverOnChain 53 = .ok (.iconst (-1), 1) := by decide +kernel
theorem d_S_giverOnChain_54 : decode b_S_giverOnChain 54 = .ok (.ireturn, 1) := by decide +kernel
theorem d_S_chainLength_0 : decode b_S_chainLength 0 = .ok (.iload_n 1, 1) := by decide +kernel
theorem d_S_chainLength_1 : decode b_S_chainLength 1 = .ok (.istore_n 2, 1) := by decide +kernel
theorem d_S_chainLength_2 : decode b_S_chainLength 2 = .ok (.iconst 0, 1) := by decide +kernel
theorem d_S_chainLength_3 : decode b_S_chainLength 3 = .ok (.istore_n 3, 1) := by decide +kernel
theorem d_S_chainLength_4 : decode b_S_chainLength 4 = .ok (.iload_n 3, 1) := by decide +kernel
theorem d_S_chainLength_5 : decode b_S_chainLength 5 = .ok (.bipush 64, 2) := by decide +kernel
theorem d_S_chainLength_7 : decode b_S_chainLength 7 = .ok (.if_icmp .ge 27, 3) := by decide +kernel
theorem d_S_chainLength_10 : decode b_S_chainLength 10 = .ok (.aload_n 0, 1) := by decide +kernel
theorem d_S_chainLength_11 : decode b_S_chainLength 11 = .ok (.getfield 14, 3) := by decide +kernel
theorem d_S_chainLength_14 : decode b_S_chainLength 14 = .ok (.iload_n 2, 1) := by decide +kernel
theorem d_S_chainLength_15 : decode b_S_chainLength 15 = .ok (.invokevirtual 64, 3) := by decide +kernel
theorem d_S_chainLength_18 : decode b_S_chainLength 18 = .ok (.ifCond .eq 16, 3) := by decide +kernel
theorem d_S_chainLength_21 : decode b_S_chainLength 21 = .ok (.iinc 3 1, 3) := by decide +kernel
theorem d_S_chainLength_24 : decode b_S_chainLength 24 = .ok (.aload_n 0, 1) := by decide +kernel
theorem d_S_chainLength_25 : decode b_S_chainLength 25 = .ok (.getfield 22, 3) := by decide +kernel
theorem d_S_chainLength_28 : decode b_S_chainLength 28 = .ok (.iload_n 2, 1) := by decide +kernel
theorem d_S_chainLength_29 : decode b_S_chainLength 29 = .ok (.iaload, 1) := by decide +kernel
theorem d_S_chainLength_30 : decode b_S_chainLength 30 = .ok (.istore_n 2, 1) := by decide +kernel
theorem d_S_chainLength_31 : decode b_S_chainLength 31 = .ok (.goto (-27), 3) := by decide +kernel
theorem d_S_chainLength_34 : decode b_S_chainLength 34 = .ok (.iload_n 3, 1) := by decide +kernel
theorem d_S_chainLength_35 : decode b_S_chainLength 35 = .ok (.ireturn, 1) := by decide +kernel
theorem d_S_isOnChain_0 : decode b_S_isOnChain 0 = .ok (.iload_n 2, 1) := by decide +kernel
theorem d_S_isOnChain_1 : decode b_S_isOnChain 1 = .ok (.istore_n 3, 1) := by decide +kernel
theorem d_S_isOnChain_2 : decode b_S_isOnChain 2 = .ok (.iconst 0, 1) := by decide +kernel
theorem d_S_isOnChain_3 : decode b_S_isOnChain 3 = .ok (.istore 4, 2) := by decide +kernel
theorem d_S_isOnChain_5 : decode b_S_isOnChain 5 = .ok (.iload 4, 2) := by decide +kernel
theorem d_S_isOnChain_7 : decode b_S_isOnChain 7 = .ok (.bipush 64, 2) := by decide +kernel
theorem d_S_isOnChain_9 : decode b_S_isOnChain 9 = .ok (.if_icmp .ge 34, 3) := by decide +kernel
theorem d_S_isOnChain_12 : decode b_S_isOnChain 12 = .ok (.aload_n 0, 1) := by decide +kernel
theorem d_S_isOnChain_13 : decode b_S_isOnChain 13 = .ok (.getfield 14, 3) := by decide +kernel
theorem d_S_isOnChain_16 : decode b_S_isOnChain 16 = .ok (.iload_n 3, 1) := by decide +kernel
theorem d_S_isOnChain_17 : decode b_S_isOnChain 17 = .ok (.invokevirtual 64, 3) := by decide +kernel
theorem d_S_isOnChain_20 : decode b_S_isOnChain 20 = .ok (.ifCond .eq 23, 3) := by decide +kernel
theorem d_S_isOnChain_23 : decode b_S_isOnChain 23 = .ok (.iload_n 3, 1) := by decide +kernel
theorem d_S_isOnChain_24 : decode b_S_isOnChain 24 = .ok (.iload_n 1, 1) := by decide +kernel
theorem d_S_isOnChain_25 : decode b_S_isOnChain 25 = .ok (.if_icmp .ne 5, 3) := by decide +kernel
theorem d_S_isOnChain_28 : decode b_S_isOnChain 28 = .ok (.iconst 1, 1) := by decide +kernel
theorem d_S_isOnChain_29 : decode b_S_isOnChain 29 = .ok (.ireturn, 1) := by decide +kernel
theorem d_S_isOnChain_30 : decode b_S_isOnChain 30 = .ok (.aload_n 0, 1) := by decide +kernel
theorem d_S_isOnChain_31 : decode b_S_isOnChain 31 = .ok (.getfield 22, 3) := by decide +kernel
theorem d_S_isOnChain_34 : decode b_S_isOnChain 34 = .ok (.iload_n 3, 1) := by decide +kernel
theorem d_S_isOnChain_35 : decode b_S_isOnChain 35 = .ok (.iaload, 1) := by decide +kernel
theorem d_S_isOnChain_36 : decode b_S_isOnChain 36 = .ok (.istore_n 3, 1) := by decide +kernel
theorem d_S_isOnChain_37 : decode b_S_isOnChain 37 = .ok (.iinc 4 1, 3) := by decide +kernel
theorem d_S_isOnChain_40 : decode b_S_isOnChain 40 = .ok (.goto (-35), 3) := by decide +kernel
theorem d_S_isOnChain_43 : decode b_S_isOnChain 43 = .ok (.iconst 0, 1) := by decide +kernel
theorem d_S_isOnChain_44 : decode b_S_isOnChain 44 = .ok (.ireturn, 1) := by decide +kernel
theorem d_S_othersBuiltOn_0 : decode b_S_othersBuiltOn 0 = .ok (.iconst 0, 1) := by decide +kernel
theorem d_S_othersBuiltOn_1 : decode b_S_othersBuiltOn 1 = .ok (.istore_n 2, 1) := by decide +kernel
theorem d_S_othersBuiltOn_2 : decode b_S_othersBuiltOn 2 = .ok (.iconst 0, 1) := by decide +kernel
theorem d_S_othersBuiltOn_3 : decode b_S_othersBuiltOn 3 = .ok (.istore_n 3, 1) := by decide +kernel
theorem d_S_othersBuiltOn_4 : decode b_S_othersBuiltOn 4 = .ok (.iload_n 3, 1) := by decide +kernel
theorem d_S_othersBuiltOn_5 : decode b_S_othersBuiltOn 5 = .ok (.bipush 64, 2) := by decide +kernel
theorem d_S_othersBuiltOn_7 : decode b_S_othersBuiltOn 7 = .ok (.if_icmp .ge 26, 3) := by decide +kernel
theorem d_S_othersBuiltOn_10 : decode b_S_othersBuiltOn 10 = .ok (.iload_n 3, 1) := by decide +kernel
theorem d_S_othersBuiltOn_11 : decode b_S_othersBuiltOn 11 = .ok (.iload_n 1, 1) := by decide +kernel
theorem d_S_othersBuiltOn_12 : decode b_S_othersBuiltOn 12 = .ok (.if_icmp .eq 15, 3) := by decide +kernel
theorem d_S_othersBuiltOn_15 : decode b_S_othersBuiltOn 15 = .ok (.aload_n 0, 1) := by decide +kernel
theorem d_S_othersBuiltOn_16 : decode b_S_othersBuiltOn 16 = .ok (.iload_n 1, 1) := by decide +kernel
theorem d_S_othersBuiltOn_17 : decode b_S_othersBuiltOn 17 = .ok (.iload_n 3, 1) := by decide +kernel
theorem d_S_othersBuiltOn_18 : decode b_S_othersBuiltOn 18 = .ok (.invokevirtual 71, 3) := by decide +kernel
theorem d_S_othersBuiltOn_21 : decode b_S_othersBuiltOn 21 = .ok (.ifCond .eq 6, 3) := by decide +kernel
theorem d_S_othersBuiltOn_24 : decode b_S_othersBuiltOn 24 = .ok (.iinc 2 1, 3) := by decide +kernel
theorem d_S_othersBuiltOn_27 : decode b_S_othersBuiltOn 27 = .ok (.iinc 3 1, 3) := by decide +kernel
theorem d_S_othersBuiltOn_30 : decode b_S_othersBuiltOn 30 = .ok (.goto (-26), 3) := by decide +kernel
theorem d_S_othersBuiltOn_33 : decode b_S_othersBuiltOn 33 = .ok (.iload_n 2, 1) := by decide +kernel
theorem d_S_othersBuiltOn_34 : decode b_S_othersBuiltOn 34 = .ok (.ireturn, 1) := by decide +kernel
theorem d_S_longestChain_0 : decode b_S_longestChain 0 = .ok (.iconst 0, 1) := by decide +kernel
theorem d_S_longestChain_1 : decode b_S_longestChain 1 = .ok (.istore_n 1, 1) := by decide +kernel
theorem d_S_longestChain_2 : decode b_S_longestChain 2 = .ok (.iconst 0, 1) := by decide +kernel
theorem d_S_longestChain_3 : decode b_S_longestChain 3 = .ok (.istore_n 2, 1) := by decide +kernel
theorem d_S_longestChain_4 : decode b_S_longestChain 4 = .ok (.iload_n 2, 1) := by decide +kernel
theorem d_S_longestChain_5 : decode b_S_longestChain 5 = .ok (.bipush 64, 2) := by decide +kernel
theorem d_S_longestChain_7 : decode b_S_longestChain 7 = .ok (.if_icmp .ge 19, 3) := by decide +kernel
theorem d_S_longestChain_10 : decode b_S_longestChain 10 = .ok (.iload_n 1, 1) := by decide +kernel
theorem d_S_longestChain_11 : decode b_S_longestChain 11 = .ok (.aload_n 0, 1) := by decide +kernel
theorem d_S_longestChain_12 : decode b_S_longestChain 12 = .ok (.iload_n 2, 1) := by decide +kernel
theorem d_S_longestChain_13 : decode b_S_longestChain 13 = .ok (.invokevirtual 92, 3) := by decide +kernel
theorem d_S_longestChain_16 : decode b_S_longestChain 16 = .ok (.invokestatic 147, 3) := by decide +kernel
theorem d_S_longestChain_19 : decode b_S_longestChain 19 = .ok (.istore_n 1, 1) := by decide +kernel
theorem d_S_longestChain_20 : decode b_S_longestChain 20 = .ok (.iinc 2 1, 3) := by decide +kernel
theorem d_S_longestChain_23 : decode b_S_longestChain 23 = .ok (.goto (-19), 3) := by decide +kernel
theorem d_S_longestChain_26 : decode b_S_longestChain 26 = .ok (.iload_n 1, 1) := by decide +kernel
theorem d_S_longestChain_27 : decode b_S_longestChain 27 = .ok (.ireturn, 1) := by decide +kernel
theorem d_S_valueByChain_0 : decode b_S_valueByChain 0 = .ok (.aload_n 0, 1) := by decide +kernel
theorem d_S_valueByChain_1 : decode b_S_valueByChain 1 = .ok (.iload_n 1, 1) := by decide +kernel
theorem d_S_valueByChain_2 : decode b_S_valueByChain 2 = .ok (.iload_n 2, 1) := by decide +kernel
theorem d_S_valueByChain_3 : decode b_S_valueByChain 3 = .ok (.invokevirtual 89, 3) := by decide +kernel
theorem d_S_valueByChain_6 : decode b_S_valueByChain 6 = .ok (.istore_n 3, 1) := by decide +kernel
theorem d_S_valueByChain_7 : decode b_S_valueByChain 7 = .ok (.iload_n 3, 1) := by decide +kernel
theorem d_S_valueByChain_8 : decode b_S_valueByChain 8 = .ok (.iconst (-1), 1) := by decide +kernel
theorem d_S_valueByChain_9 : decode b_S_valueByChain 9 = .ok (.if_icmp .ne 7, 3) := by decide +kernel
theorem d_S_valueByChain_12 : decode b_S_valueByChain 12 = .ok (.iconst (-1), 1) := by decide +kernel
theorem d_S_valueByChain_13 : decode b_S_valueByChain 13 = .ok (.goto 14, 3) := by decide +kernel
theorem d_S_valueByChain_16 : decode b_S_valueByChain 16 = .ok (.aload_n 0, 1) := by decide +kernel
theorem d_S_valueByChain_17 : decode b_S_valueByChain 17 = .ok (.getfield 14, 3) := by decide +kernel
theorem d_S_valueByChain_20 : decode b_S_valueByChain 20 = .ok (.getfield 81, 3) := by decide +kernel
theorem d_S_valueByChain_23 : decode b_S_valueByChain 23 = .ok (.iload_n 3, 1) := by decide +kernel
theorem d_S_valueByChain_24 : decode b_S_valueByChain 24 = .ok (.aaload, 1) := by decide +kernel
theorem d_S_valueByChain_25 : decode b_S_valueByChain 25 = .ok (.iload_n 2, 1) := by decide +kernel
theorem d_S_valueByChain_26 : decode b_S_valueByChain 26 = .ok (.iaload, 1) := by decide +kernel
theorem d_S_valueByChain_27 : decode b_S_valueByChain 27 = .ok (.ireturn, 1) := by decide +kernel
theorem d_S_resolved_0 : decode b_S_resolved 0 = .ok (.aload_n 0, 1) := by decide +kernel
theorem d_S_resolved_1 : decode b_S_resolved 1 = .ok (.getfield 28, 3) := by decide +kernel
theorem d_S_resolved_4 : decode b_S_resolved 4 = .ok (.getfield 81, 3) := by decide +kernel
theorem d_S_resolved_7 : decode b_S_resolved 7 = .ok (.iload_n 1, 1) := by decide +kernel
theorem d_S_resolved_8 : decode b_S_resolved 8 = .ok (.aaload, 1) := by decide +kernel
theorem d_S_resolved_9 : decode b_S_resolved 9 = .ok (.iload 4, 2) := by decide +kernel
theorem d_S_resolved_11 : decode b_S_resolved 11 = .ok (.iaload, 1) := by decide +kernel
theorem d_S_resolved_12 : decode b_S_resolved 12 = .ok (.istore 5, 2) := by decide +kernel
theorem d_S_resolved_14 : decode b_S_resolved 14 = .ok (.iload 5, 2) := by decide +kernel
theorem d_S_resolved_16 : decode b_S_resolved 16 = .ok (.iconst (-1), 1) := by decide +kernel
theorem d_S_resolved_17 : decode b_S_resolved 17 = .ok (.if_icmp .eq 8, 3) := by decide +kernel
theorem d_S_resolved_20 : decode b_S_resolved 20 = .ok (.iload 5, 2) := by decide +kernel
theorem d_S_resolved_22 : decode b_S_resolved 22 = .ok (.goto 11, 3) := by decide +kernel
theorem d_S_resolved_25 : decode b_S_resolved 25 = .ok (.aload_n 0, 1) := by decide +kernel
theorem d_S_resolved_26 : decode b_S_resolved 26 = .ok (.iload_n 2, 1) := by decide +kernel
theorem d_S_resolved_27 : decode b_S_resolved 27 = .ok (.iload_n 3, 1) := by decide +kernel
theorem d_S_resolved_28 : decode b_S_resolved 28 = .ok (.iload 4, 2) := by decide +kernel
theorem d_S_resolved_30 : decode b_S_resolved 30 = .ok (.invokevirtual 113, 3) := by decide +kernel
theorem d_S_resolved_33 : decode b_S_resolved 33 = .ok (.ireturn, 1) := by decide +kernel
theorem d_S_resolvedByStyles_0 : decode b_S_resolvedByStyles 0 = .ok (.aload_n 0, 1) := by decide +kernel
theorem d_S_resolvedByStyles_1 : decode b_S_resolvedByStyles 1 = .ok (.iload_n 1, 1) := by decide +kernel
theorem d_S_resolvedByStyles_2 : decode b_S_resolvedByStyles 2 = .ok (.iload_n 3, 1) := by decide +kernel
theorem d_S_resolvedByStyles_3 : decode b_S_resolvedByStyles 3 = .ok (.invokevirtual 85, 3) := by decide +kernel
theorem d_S_resolvedByStyles_6 : decode b_S_resolvedByStyles 6 = .ok (.istore 4, 2) := by decide +kernel
theorem d_S_resolvedByStyles_8 : decode b_S_resolvedByStyles 8 = .ok (.iload 4, 2) := by decide +kernel
theorem d_S_resolvedByStyles_10 : decode b_S_resolvedByStyles 10 = .ok (.iconst (-1), 1) := by decide +kernel
theorem d_S_resolvedByStyles_11 : decode b_S_resolvedByStyles 11 = .ok (.if_icmp .eq 6, 3) := by decide +kernel
theorem d_S_resolvedByStyles_14 : decode b_S_resolvedByStyles 14 = .ok (.iload 4, 2) := by decide +kernel
theorem d_S_resolvedByStyles_16 : decode b_S_resolvedByStyles 16 = .ok (.ireturn, 1) := by decide +kernel
theorem d_S_resolvedByStyles_17 : decode b_S_resolvedByStyles 17 = .ok (.aload_n 0, 1) := by decide +kernel
theorem d_S_resolvedByStyles_18 : decode b_S_resolvedByStyles 18 = .ok (.iload_n 2, 1) := by decide +kernel
theorem d_S_resolvedByStyles_19 : decode b_S_resolvedByStyles 19 = .ok (.iload_n 3, 1) := by decide +kernel
theorem d_S_resolvedByStyles_20 : decode b_S_resolvedByStyles 20 = .ok (.invokevirtual 85, 3) := by decide +kernel
theorem d_S_resolvedByStyles_23 : decode b_S_resolvedByStyles 23 = .ok (.istore 5, 2) := by decide +kernel
theorem d_S_resolvedByStyles_25 : decode b_S_resolvedByStyles 25 = .ok (.iload 5, 2) := by decide +kernel
theorem d_S_resolvedByStyles_27 : decode b_S_resolvedByStyles 27 = .ok (.iconst (-1), 1) := by decide +kernel
theorem d_S_resolvedByStyles_28 : decode b_S_resolvedByStyles 28 = .ok (.if_icmp .eq 8, 3) := by decide +kernel
theorem d_S_resolvedByStyles_31 : decode b_S_resolvedByStyles 31 = .ok (.iload 5, 2) := by decide +kernel
theorem d_S_resolvedByStyles_33 : decode b_S_resolvedByStyles 33 = .ok (.goto 9, 3) := by decide +kernel
theorem d_S_resolvedByStyles_36 : decode b_S_resolvedByStyles 36 = .ok (.aload_n 0, 1) := by decide +kernel
theorem d_S_resolvedByStyles_37 : decode b_S_resolvedByStyles 37 = .ok (.getfield 25, 3) := by decide +kernel
theorem d_S_resolvedByStyles_40 : decode b_S_resolvedByStyles 40 = .ok (.iload_n 3, 1) := by decide +kernel
theorem d_S_resolvedByStyles_41 : decode b_S_resolvedByStyles 41 = .ok (.iaload, 1) := by decide +kernel
theorem d_S_resolvedByStyles_42 : decode b_S_resolvedByStyles 42 = .ok (.ireturn, 1) := by decide +kernel
theorem d_S_numberOfDraft_0 : decode b_S_numberOfDraft 0 = .ok (.aload_n 0, 1) := by decide +kernel
theorem d_S_numberOfDraft_1 : decode b_S_numberOfDraft 1 = .ok (.getfield 28, 3) := by decide +kernel
theorem d_S_numberOfDraft_4 : decode b_S_numberOfDraft 4 = .ok (.aload_n 0, 1) := by decide +kernel
theorem d_S_numberOfDraft_5 : decode b_S_numberOfDraft 5 = .ok (.getfield 38, 3) := by decide +kernel
theorem d_S_numberOfDraft_8 : decode b_S_numberOfDraft 8 = .ok (.invokevirtual 152, 3) := by decide +kernel
theorem d_S_numberOfDraft_11 : decode b_S_numberOfDraft 11 = .ok (.istore_n 1, 1) := by decide +kernel
theorem d_S_numberOfDraft_12 : decode b_S_numberOfDraft 12 = .ok (.iload_n 1, 1) := by decide +kernel
theorem d_S_numberOfDraft_13 : decode b_S_numberOfDraft 13 = .ok (.iconst (-1), 1) := by decide +kernel
theorem d_S_numberOfDraft_14 : decode b_S_numberOfDraft 14 = .ok (.if_icmp .eq 5, 3) := by decide +kernel
theorem d_S_numberOfDraft_17 : decode b_S_numberOfDraft 17 = .ok (.iload_n 1, 1) := by decide +kernel
theorem d_S_numberOfDraft_18 : decode b_S_numberOfDraft 18 = .ok (.ireturn, 1) := by decide +kernel
theorem d_S_numberOfDraft_19 : decode b_S_numberOfDraft 19 = .ok (.aload_n 0, 1) := by decide +kernel
theorem d_S_numberOfDraft_20 : decode b_S_numberOfDraft 20 = .ok (.getfield 28, 3) := by decide +kernel
theorem d_S_numberOfDraft_23 : decode b_S_numberOfDraft 23 = .ok (.invokevirtual 52, 3) := by decide +kernel
theorem d_S_numberOfDraft_26 : decode b_S_numberOfDraft 26 = .ok (.istore_n 2, 1) := by decide +kernel
theorem d_S_numberOfDraft_27 : decode b_S_numberOfDraft 27 = .ok (.iload_n 2, 1) := by decide +kernel
theorem d_S_numberOfDraft_28 : decode b_S_numberOfDraft 28 = .ok (.iconst (-1), 1) := by decide +kernel
theorem d_S_numberOfDraft_29 : decode b_S_numberOfDraft 29 = .ok (.if_icmp .ne 13, 3) := by decide +kernel
theorem d_S_numberOfDraft_32 : decode b_S_numberOfDraft 32 = .ok (.new 56, 3) := by decide +kernel
theorem d_S_numberOfDraft_35 : decode b_S_numberOfDraft 35 = .ok (.dup, 1) := by decide +kernel
theorem d_S_numberOfDraft_36 : decode b_S_numberOfDraft 36 = .ok (.ldc 156, 2) := by decide +kernel
theorem d_S_numberOfDraft_38 : decode b_S_numberOfDraft 38 = .ok (.invokespecial 60, 3) := by decide +kernel
theorem d_S_numberOfDraft_41 : decode b_S_numberOfDraft 41 = .ok (.athrow, 1) := by decide +kernel
theorem d_S_numberOfDraft_42 : decode b_S_numberOfDraft 42 = .ok (.aload_n 0, 1) := by decide +kernel
theorem d_S_numberOfDraft_43 : decode b_S_numberOfDraft 43 = .ok (.getfield 28, 3) := by decide +kernel
theorem d_S_numberOfDraft_46 : decode b_S_numberOfDraft 46 = .ok (.iload_n 2, 1) := by decide +kernel
theorem d_S_numberOfDraft_47 : decode b_S_numberOfDraft 47 = .ok (.invokevirtual 31, 3) := by decide +kernel
theorem d_S_numberOfDraft_50 : decode b_S_numberOfDraft 50 = .ok (.aload_n 0, 1) := by decide +kernel
theorem d_S_numberOfDraft_51 : decode b_S_numberOfDraft 51 = .ok (.getfield 38, 3) := by decide +kernel
theorem d_S_numberOfDraft_54 : decode b_S_numberOfDraft 54 = .ok (.iconst 0, 1) := by decide +kernel
theorem d_S_numberOfDraft_55 : decode b_S_numberOfDraft 55 = .ok (.aload_n 0, 1) := by decide +kernel
theorem d_S_numberOfDraft_56 : decode b_S_numberOfDraft 56 = .ok (.getfield 28, 3) := by decide +kernel
theorem d_S_numberOfDraft_59 : decode b_S_numberOfDraft 59 = .ok (.getfield 81, 3) := by decide +kernel
theorem d_S_numberOfDraft_62 : decode b_S_numberOfDraft 62 = .ok (.iload_n 2, 1) := by decide +kernel
theorem d_S_numberOfDraft_63 : decode b_S_numberOfDraft 63 = .ok (.aaload, 1) := by decide +kernel
theorem d_S_numberOfDraft_64 : decode b_S_numberOfDraft 64 = .ok (.iconst 0, 1) := by decide +kernel
theorem d_S_numberOfDraft_65 : decode b_S_numberOfDraft 65 = .ok (.bipush 24, 2) := by decide +kernel
theorem d_S_numberOfDraft_67 : decode b_S_numberOfDraft 67 = .ok (.invokestatic 158, 3) := by decide +kernel
theorem d_S_numberOfDraft_70 : decode b_S_numberOfDraft 70 = .ok (.iload_n 2, 1) := by decide +kernel
theorem d_S_numberOfDraft_71 : decode b_S_numberOfDraft 71 = .ok (.ireturn, 1) := by decide +kernel
theorem d_J_fill_0 : decode b_J_fill 0 = .ok (.iconst 0, 1) := by decide +kernel
theorem d_J_fill_1 : decode b_J_fill 1 = .ok (.istore_n 2, 1) := by decide +kernel
theorem d_J_fill_2 : decode b_J_fill 2 = .ok (.aload_n 0, 1) := by decide +kernel
theorem d_J_fill_3 : decode b_J_fill 3 = .ok (.arraylength, 1) := by decide +kernel
theorem d_J_fill_4 : decode b_J_fill 4 = .ok (.istore_n 3, 1) := by decide +kernel
theorem d_J_fill_5 : decode b_J_fill 5 = .ok (.iload_n 2, 1) := by decide +kernel
theorem d_J_fill_6 : decode b_J_fill 6 = .ok (.iload_n 3, 1) := by decide +kernel
theorem d_J_fill_7 : decode b_J_fill 7 = .ok (.if_icmp .ge 13, 3) := by decide +kernel
theorem d_J_fill_10 : decode b_J_fill 10 = .ok (.aload_n 0, 1) := by decide +kernel
theorem d_J_fill_11 : decode b_J_fill 11 = .ok (.iload_n 2, 1) := by decide +kernel
theorem d_J_fill_12 : decode b_J_fill 12 = .ok (.iload_n 1, 1) := by decide +kernel
theorem d_J_fill_13 : decode b_J_fill 13 = .ok (.iastore, 1) := by decide +kernel
theorem d_J_fill_14 : decode b_J_fill 14 = .ok (.iinc 2 1, 3) := by decide +kernel
theorem d_J_fill_17 : decode b_J_fill 17 = .ok (.goto (-12), 3) := by decide +kernel
theorem d_J_fill_20 : decode b_J_fill 20 = .ok (.return_, 1) := by decide +kernel
