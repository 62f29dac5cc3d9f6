/-! decode rows -/
theorem d_M_init_0 : decode b_M_init 0 = .ok (.aload_n 0, 1) := by decide +kernel
theorem d_M_init_1 : decode b_M_init 1 = .ok (.invokespecial 1, 3) := by decide +kernel
theorem d_M_init_4 : decode b_M_init 4 = .ok (.aload_n 0, 1) := by decide +kernel
theorem d_M_init_5 : decode b_M_init 5 = .ok (.bipush 64, 2) := by decide +kernel
theorem d_M_init_7 : decode b_M_init 7 = .ok (.newarray .int, 2) := by decide +kernel
theorem d_M_init_9 : decode b_M_init 9 = .ok (.putfield 7, 3) := by decide +kernel
theorem d_M_init_12 : decode b_M_init 12 = .ok (.aload_n 0, 1) := by decide +kernel
theorem d_M_init_13 : decode b_M_init 13 = .ok (.bipush 64, 2) := by decide +kernel
theorem d_M_init_15 : decode b_M_init 15 = .ok (.newarray .int, 2) := by decide +kernel
theorem d_M_init_17 : decode b_M_init 17 = .ok (.putfield 13, 3) := by decide +kernel
theorem d_M_init_20 : decode b_M_init 20 = .ok (.aload_n 0, 1) := by decide +kernel
theorem d_M_init_21 : decode b_M_init 21 = .ok (.sipush 1536, 3) := by decide +kernel
theorem d_M_init_24 : decode b_M_init 24 = .ok (.newarray .int, 2) := by decide +kernel
theorem d_M_init_26 : decode b_M_init 26 = .ok (.putfield 16, 3) := by decide +kernel
theorem d_M_init_29 : decode b_M_init 29 = .ok (.aload_n 0, 1) := by decide +kernel
theorem d_M_init_30 : decode b_M_init 30 = .ok (.bipush 24, 2) := by decide +kernel
theorem d_M_init_32 : decode b_M_init 32 = .ok (.newarray .int, 2) := by decide +kernel
theorem d_M_init_34 : decode b_M_init 34 = .ok (.putfield 19, 3) := by decide +kernel
theorem d_M_init_37 : decode b_M_init 37 = .ok (.aload_n 0, 1) := by decide +kernel
theorem d_M_init_38 : decode b_M_init 38 = .ok (.sipush 256, 3) := by decide +kernel
theorem d_M_init_41 : decode b_M_init 41 = .ok (.newarray .boolean, 2) := by decide +kernel
theorem d_M_init_43 : decode b_M_init 43 = .ok (.putfield 22, 3) := by decide +kernel
theorem d_M_init_46 : decode b_M_init 46 = .ok (.aload_n 0, 1) := by decide +kernel
theorem d_M_init_47 : decode b_M_init 47 = .ok (.sipush 256, 3) := by decide +kernel
theorem d_M_init_50 : decode b_M_init 50 = .ok (.newarray .boolean, 2) := by decide +kernel
theorem d_M_init_52 : decode b_M_init 52 = .ok (.putfield 26, 3) := by decide +kernel
theorem d_M_init_55 : decode b_M_init 55 = .ok (.aload_n 0, 1) := by decide +kernel
theorem d_M_init_56 : decode b_M_init 56 = .ok (.sipush 6144, 3) := by decide +kernel
theorem d_M_init_59 : decode b_M_init 59 = .ok (.newarray .int, 2) := by decide +kernel
theorem d_M_init_61 : decode b_M_init 61 = .ok (.putfield 29, 3) := by decide +kernel
theorem d_M_init_64 : decode b_M_init 64 = .ok (.aload_n 0, 1) := by decide +kernel
theorem d_M_init_65 : decode b_M_init 65 = .ok (.bipush 24, 2) := by decide +kernel
theorem d_M_init_67 : decode b_M_init 67 = .ok (.newarray .int, 2) := by decide +kernel
theorem d_M_init_69 : decode b_M_init 69 = .ok (.putfield 32, 3) := by decide +kernel
theorem d_M_init_72 : decode b_M_init 72 = .ok (.iconst 0, 1) := by decide +kernel
theorem d_M_init_73 : decode b_M_init 73 = .ok (.istore_n 1, 1) := by decide +kernel
theorem d_M_init_74 : decode b_M_init 74 = .ok (.iload_n 1, 1) := by decide +kernel
theorem d_M_init_75 : decode b_M_init 75 = .ok (.bipush 64, 2) := by decide +kernel
theorem d_M_init_77 : decode b_M_init 77 = .ok (.if_icmp .ge 16, 3) := by decide +kernel
theorem d_M_init_80 : decode b_M_init 80 = .ok (.aload_n 0, 1) := by decide +kernel
theorem d_M_init_81 : decode b_M_init 81 = .ok (.getfield 7, 3) := by decide +kernel
theorem d_M_init_84 : decode b_M_init 84 = .ok (.iload_n 1, 1) := by decide +kernel
theorem d_M_init_85 : decode b_M_init 85 = .ok (.iconst (-1), 1) := by decide +kernel
theorem d_M_init_86 : decode b_M_init 86 = .ok (.iastore, 1) := by decide +kernel
theorem d_M_init_87 : decode b_M_init 87 = .ok (.iinc 1 1, 3) := by decide +kernel
theorem d_M_init_90 : decode b_M_init 90 = .ok (.goto (-16), 3) := by decide +kernel
theorem d_M_init_93 : decode b_M_init 93 = .ok (.iconst 0, 1) := by decide +kernel
theorem d_M_init_94 : decode b_M_init 94 = .ok (.istore_n 1, 1) := by decide +kernel
theorem d_M_init_95 : decode b_M_init 95 = .ok (.iload_n 1, 1) := by decide +kernel
theorem d_M_init_96 : decode b_M_init 96 = .ok (.bipush 24, 2) := by decide +kernel
theorem d_M_init_98 : decode b_M_init 98 = .ok (.if_icmp .ge 16, 3) := by decide +kernel
theorem d_M_init_101 : decode b_M_init 101 = .ok (.aload_n 0, 1) := by decide +kernel
theorem d_M_init_102 : decode b_M_init 102 = .ok (.getfield 29, 3) := by decide +kernel
theorem d_M_init_105 : decode b_M_init 105 = .ok (.iload_n 1, 1) := by decide +kernel
theorem d_M_init_106 : decode b_M_init 106 = .ok (.iconst (-1), 1) := by decide +kernel
theorem d_M_init_107 : decode b_M_init 107 = .ok (.iastore, 1) := by decide +kernel
theorem d_M_init_108 : decode b_M_init 108 = .ok (.iinc 1 1, 3) := by decide +kernel
theorem d_M_init_111 : decode b_M_init 111 = .ok (.goto (-16), 3) := by decide +kernel
theorem d_M_init_114 : decode b_M_init 114 = .ok (.aload_n 0, 1) := by decide +kernel
theorem d_M_init_115 : decode b_M_init 115 = .ok (.getfield 22, 3) := by decide +kernel
theorem d_M_init_118 : decode b_M_init 118 = .ok (.iconst 0, 1) := by decide +kernel
theorem d_M_init_119 : decode b_M_init 119 = .ok (.iconst 1, 1) := by decide +kernel
theorem d_M_init_120 : decode b_M_init 120 = .ok (.bastore, 1) := by decide +kernel
theorem d_M_init_121 : decode b_M_init 121 = .ok (.return_, 1) := by decide +kernel
theorem d_M_thrown_0 : decode b_M_thrown 0 = .ok (.aload_n 0, 1) := by decide +kernel
theorem d_M_thrown_1 : decode b_M_thrown 1 = .ok (.getfield 35, 3) := by decide +kernel
theorem d_M_thrown_4 : decode b_M_thrown 4 = .ok (.ireturn, 1) := by decide +kernel
theorem d_M_in_0 : decode b_M_in 0 = .ok (.iload_n 0, 1) := by decide +kernel
theorem d_M_in_1 : decode b_M_in 1 = .ok (.iload_n 1, 1) := by decide +kernel
theorem d_M_in_2 : decode b_M_in 2 = .ok (.if_icmp .lt 12, 3) := by decide +kernel
theorem d_M_in_5 : decode b_M_in 5 = .ok (.iload_n 0, 1) := by decide +kernel
theorem d_M_in_6 : decode b_M_in 6 = .ok (.iload_n 2, 1) := by decide +kernel
theorem d_M_in_7 : decode b_M_in 7 = .ok (.if_icmp .gt 7, 3) := by decide +kernel
theorem d_M_in_10 : decode b_M_in 10 = .ok (.iconst 1, 1) := by decide +kernel
theorem d_M_in_11 : decode b_M_in 11 = .ok (.goto 4, 3) := by decide +kernel
theorem d_M_in_14 : decode b_M_in 14 = .ok (.iconst 0, 1) := by decide +kernel
theorem d_M_in_15 : decode b_M_in 15 = .ok (.ireturn, 1) := by decide +kernel
theorem d_M_isStyle_0 : decode b_M_isStyle 0 = .ok (.iload_n 1, 1) := by decide +kernel
theorem d_M_isStyle_1 : decode b_M_isStyle 1 = .ok (.iconst 0, 1) := by decide +kernel
theorem d_M_isStyle_2 : decode b_M_isStyle 2 = .ok (.bipush 63, 2) := by decide +kernel
theorem d_M_isStyle_4 : decode b_M_isStyle 4 = .ok (.invokestatic 39, 3) := by decide +kernel
theorem d_M_isStyle_7 : decode b_M_isStyle 7 = .ok (.ifCond .eq 16, 3) := by decide +kernel
theorem d_M_isStyle_10 : decode b_M_isStyle 10 = .ok (.aload_n 0, 1) := by decide +kernel
theorem d_M_isStyle_11 : decode b_M_isStyle 11 = .ok (.getfield 7, 3) := by decide +kernel
theorem d_M_isStyle_14 : decode b_M_isStyle 14 = .ok (.iload_n 1, 1) := by decide +kernel
theorem d_M_isStyle_15 : decode b_M_isStyle 15 = .ok (.iaload, 1) := by decide +kernel
theorem d_M_isStyle_16 : decode b_M_isStyle 16 = .ok (.ifCond .lt 7, 3) := by decide +kernel
theorem d_M_isStyle_19 : decode b_M_isStyle 19 = .ok (.iconst 1, 1) := by decide +kernel
theorem d_M_isStyle_20 : decode b_M_isStyle 20 = .ok (.goto 4, 3) := by decide +kernel
theorem d_M_isStyle_23 : decode b_M_isStyle 23 = .ok (.iconst 0, 1) := by decide +kernel
theorem d_M_isStyle_24 : decode b_M_isStyle 24 = .ok (.ireturn, 1) := by decide +kernel
theorem d_M_isOf_0 : decode b_M_isOf 0 = .ok (.iload_n 1, 1) := by decide +kernel
theorem d_M_isOf_1 : decode b_M_isOf 1 = .ok (.iconst (-1), 1) := by decide +kernel
theorem d_M_isOf_2 : decode b_M_isOf 2 = .ok (.if_icmp .eq 21, 3) := by decide +kernel
theorem d_M_isOf_5 : decode b_M_isOf 5 = .ok (.aload_n 0, 1) := by decide +kernel
theorem d_M_isOf_6 : decode b_M_isOf 6 = .ok (.iload_n 1, 1) := by decide +kernel
theorem d_M_isOf_7 : decode b_M_isOf 7 = .ok (.invokevirtual 43, 3) := by decide +kernel
theorem d_M_isOf_10 : decode b_M_isOf 10 = .ok (.ifCond .eq 17, 3) := by decide +kernel
theorem d_M_isOf_13 : decode b_M_isOf 13 = .ok (.aload_n 0, 1) := by decide +kernel
theorem d_M_isOf_14 : decode b_M_isOf 14 = .ok (.getfield 7, 3) := by decide +kernel
theorem d_M_isOf_17 : decode b_M_isOf 17 = .ok (.iload_n 1, 1) := by decide +kernel
theorem d_M_isOf_18 : decode b_M_isOf 18 = .ok (.iaload, 1) := by decide +kernel
theorem d_M_isOf_19 : decode b_M_isOf 19 = .ok (.iload_n 2, 1) := by decide +kernel
theorem d_M_isOf_20 : decode b_M_isOf 20 = .ok (.if_icmp .ne 7, 3) := by decide +kernel
theorem d_M_isOf_23 : decode b_M_isOf 23 = .ok (.iconst 1, 1) := by decide +kernel
theorem d_M_isOf_24 : decode b_M_isOf 24 = .ok (.goto 4, 3) := by decide +kernel
theorem d_M_isOf_27 : decode b_M_isOf 27 = .ok (.iconst 0, 1) := by decide +kernel
theorem d_M_isOf_28 : decode b_M_isOf 28 = .ok (.ireturn, 1) := by decide +kernel
theorem d_M_isSet_0 : decode b_M_isSet 0 = .ok (.iload_n 1, 1) := by decide +kernel
theorem d_M_isSet_1 : decode b_M_isSet 1 = .ok (.iconst 0, 1) := by decide +kernel
theorem d_M_isSet_2 : decode b_M_isSet 2 = .ok (.sipush 255, 3) := by decide +kernel
theorem d_M_isSet_5 : decode b_M_isSet 5 = .ok (.invokestatic 39, 3) := by decide +kernel
theorem d_M_isSet_8 : decode b_M_isSet 8 = .ok (.ifCond .eq 16, 3) := by decide +kernel
theorem d_M_isSet_11 : decode b_M_isSet 11 = .ok (.aload_n 0, 1) := by decide +kernel
theorem d_M_isSet_12 : decode b_M_isSet 12 = .ok (.getfield 22, 3) := by decide +kernel
theorem d_M_isSet_15 : decode b_M_isSet 15 = .ok (.iload_n 1, 1) := by decide +kernel
theorem d_M_isSet_16 : decode b_M_isSet 16 = .ok (.baload, 1) := by decide +kernel
theorem d_M_isSet_17 : decode b_M_isSet 17 = .ok (.ifCond .eq 7, 3) := by decide +kernel
theorem d_M_isSet_20 : decode b_M_isSet 20 = .ok (.iconst 1, 1) := by decide +kernel
theorem d_M_isSet_21 : decode b_M_isSet 21 = .ok (.goto 4, 3) := by decide +kernel
theorem d_M_isSet_24 : decode b_M_isSet 24 = .ok (.iconst 0, 1) := by decide +kernel
theorem d_M_isSet_25 : decode b_M_isSet 25 = .ok (.ireturn, 1) := by decide +kernel
theorem d_M_isProperty_0 : decode b_M_isProperty 0 = .ok (.iload_n 0, 1) := by decide +kernel
theorem d_M_isProperty_1 : decode b_M_isProperty 1 = .ok (.iconst 0, 1) := by decide +kernel
theorem d_M_isProperty_2 : decode b_M_isProperty 2 = .ok (.bipush 23, 2) := by decide +kernel
theorem d_M_isProperty_4 : decode b_M_isProperty 4 = .ok (.invokestatic 39, 3) := by decide +kernel
theorem d_M_isProperty_7 : decode b_M_isProperty 7 = .ok (.ireturn, 1) := by decide +kernel
theorem d_M_isValue_0 : decode b_M_isValue 0 = .ok (.iload_n 0, 1) := by decide +kernel
theorem d_M_isValue_1 : decode b_M_isValue 1 = .ok (.invokestatic 47, 3) := by decide +kernel
theorem d_M_isValue_4 : decode b_M_isValue 4 = .ok (.ifCond .eq 39, 3) := by decide +kernel
theorem d_M_isValue_7 : decode b_M_isValue 7 = .ok (.iload_n 1, 1) := by decide +kernel
theorem d_M_isValue_8 : decode b_M_isValue 8 = .ok (.iload_n 2, 1) := by decide +kernel
theorem d_M_isValue_9 : decode b_M_isValue 9 = .ok (.iload_n 0, 1) := by decide +kernel
theorem d_M_isValue_10 : decode b_M_isValue 10 = .ok (.bipush 8, 2) := by decide +kernel
theorem d_M_isValue_12 : decode b_M_isValue 12 = .ok (.if_icmp .ge 7, 3) := by decide +kernel
theorem d_M_isValue_15 : decode b_M_isValue 15 = .ok (.iconst 1, 1) := by decide +kernel
theorem d_M_isValue_16 : decode b_M_isValue 16 = .ok (.goto 17, 3) := by decide +kernel
theorem d_M_isValue_19 : decode b_M_isValue 19 = .ok (.iload_n 0, 1) := by decide +kernel
theorem d_M_isValue_20 : decode b_M_isValue 20 = .ok (.bipush 16, 2) := by decide +kernel
theorem d_M_isValue_22 : decode b_M_isValue 22 = .ok (.if_icmp .ge 9, 3) := by decide +kernel
theorem d_M_isValue_25 : decode b_M_isValue 25 = .ok (.sipush 255, 3) := by decide +kernel
theorem d_M_isValue_28 : decode b_M_isValue 28 = .ok (.goto 5, 3) := by decide +kernel
theorem d_M_isValue_31 : decode b_M_isValue 31 = .ok (.ldc 50, 2) := by decide +kernel
theorem d_M_isValue_33 : decode b_M_isValue 33 = .ok (.invokestatic 39, 3) := by decide +kernel
theorem d_M_isValue_36 : decode b_M_isValue 36 = .ok (.ifCond .eq 7, 3) := by decide +kernel
theorem d_M_isValue_39 : decode b_M_isValue 39 = .ok (.iconst 1, 1) := by decide +kernel
theorem d_M_isValue_40 : decode b_M_isValue 40 = .ok (.goto 4, 3) := by decide +kernel
theorem d_M_isValue_43 : decode b_M_isValue 43 = .ok (.iconst 0, 1) := by decide +kernel
theorem d_M_isValue_44 : decode b_M_isValue 44 = .ok (.ireturn, 1) := by decide +kernel
theorem d_M_make_0 : decode b_M_make 0 = .ok (.aload_n 0, 1) := by decide +kernel
theorem d_M_make_1 : decode b_M_make 1 = .ok (.iload_n 1, 1) := by decide +kernel
theorem d_M_make_2 : decode b_M_make 2 = .ok (.iconst 0, 1) := by decide +kernel
theorem d_M_make_3 : decode b_M_make 3 = .ok (.iconst 1, 1) := by decide +kernel
theorem d_M_make_4 : decode b_M_make 4 = .ok (.invokestatic 39, 3) := by decide +kernel
theorem d_M_make_7 : decode b_M_make 7 = .ok (.ifCond .eq 12, 3) := by decide +kernel
theorem d_M_make_10 : decode b_M_make 10 = .ok (.aload_n 0, 1) := by decide +kernel
theorem d_M_make_11 : decode b_M_make 11 = .ok (.iload_n 2, 1) := by decide +kernel
theorem d_M_make_12 : decode b_M_make 12 = .ok (.iload_n 1, 1) := by decide +kernel
theorem d_M_make_13 : decode b_M_make 13 = .ok (.invokevirtual 51, 3) := by decide +kernel
theorem d_M_make_16 : decode b_M_make 16 = .ok (.ifCond .ne 7, 3) := by decide +kernel
theorem d_M_make_19 : decode b_M_make 19 = .ok (.iconst 1, 1) := by decide +kernel
theorem d_M_make_20 : decode b_M_make 20 = .ok (.goto 4, 3) := by decide +kernel
theorem d_M_make_23 : decode b_M_make 23 = .ok (.iconst 0, 1) := by decide +kernel
theorem d_M_make_24 : decode b_M_make 24 = .ok (.putfield 35, 3) := by decide +kernel
theorem d_M_make_27 : decode b_M_make 27 = .ok (.aload_n 0, 1) := by decide +kernel
theorem d_M_make_28 : decode b_M_make 28 = .ok (.getfield 35, 3) := by decide +kernel
theorem d_M_make_31 : decode b_M_make 31 = .ok (.ifCond .le 5, 3) := by decide +kernel
theorem d_M_make_34 : decode b_M_make 34 = .ok (.iconst 0, 1) := by decide +kernel
theorem d_M_make_35 : decode b_M_make 35 = .ok (.ireturn, 1) := by decide +kernel
theorem d_M_make_36 : decode b_M_make 36 = .ok (.iconst 0, 1) := by decide +kernel
theorem d_M_make_37 : decode b_M_make 37 = .ok (.istore_n 3, 1) := by decide +kernel
theorem d_M_make_38 : decode b_M_make 38 = .ok (.iload_n 3, 1) := by decide +kernel
theorem d_M_make_39 : decode b_M_make 39 = .ok (.bipush 64, 2) := by decide +kernel
theorem d_M_make_41 : decode b_M_make 41 = .ok (.if_icmp .ge 18, 3) := by decide +kernel
theorem d_M_make_44 : decode b_M_make 44 = .ok (.aload_n 0, 1) := by decide +kernel
theorem d_M_make_45 : decode b_M_make 45 = .ok (.getfield 7, 3) := by decide +kernel
theorem d_M_make_48 : decode b_M_make 48 = .ok (.iload_n 3, 1) := by decide +kernel
theorem d_M_make_49 : decode b_M_make 49 = .ok (.iaload, 1) := by decide +kernel
theorem d_M_make_50 : decode b_M_make 50 = .ok (.ifCond .lt 9, 3) := by decide +kernel
theorem d_M_make_53 : decode b_M_make 53 = .ok (.iinc 3 1, 3) := by decide +kernel
theorem d_M_make_56 : decode b_M_make 56 = .ok (.goto (-18), 3) := by decide +kernel
theorem d_M_make_59 : decode b_M_make 59 = .ok (.aload_n 0, 1) := by decide +kernel
theorem d_M_make_60 : decode b_M_make 60 = .ok (.iload_n 3, 1) := by decide +kernel
theorem d_M_make_61 : decode b_M_make 61 = .ok (.bipush 64, 2) := by decide +kernel
theorem d_M_make_63 : decode b_M_make 63 = .ok (.if_icmp .ne 7, 3) := by decide +kernel
theorem d_M_make_66 : decode b_M_make 66 = .ok (.iconst 2, 1) := by decide +kernel
theorem d_M_make_67 : decode b_M_make 67 = .ok (.goto 4, 3) := by decide +kernel
theorem d_M_make_70 : decode b_M_make 70 = .ok (.iconst 0, 1) := by decide +kernel
theorem d_M_make_71 : decode b_M_make 71 = .ok (.putfield 35, 3) := by decide +kernel
theorem d_M_make_74 : decode b_M_make 74 = .ok (.aload_n 0, 1) := by decide +kernel
theorem d_M_make_75 : decode b_M_make 75 = .ok (.getfield 35, 3) := by decide +kernel
theorem d_M_make_78 : decode b_M_make 78 = .ok (.ifCond .le 5, 3) := by decide +kernel
theorem d_M_make_81 : decode b_M_make 81 = .ok (.iconst 0, 1) := by decide +kernel
theorem d_M_make_82 : decode b_M_make 82 = .ok (.ireturn, 1) := by decide +kernel
theorem d_M_make_83 : decode b_M_make 83 = .ok (.aload_n 0, 1) := by decide +kernel
theorem d_M_make_84 : decode b_M_make 84 = .ok (.getfield 7, 3) := by decide +kernel
theorem d_M_make_87 : decode b_M_make 87 = .ok (.iload_n 3, 1) := by decide +kernel
theorem d_M_make_88 : decode b_M_make 88 = .ok (.iload_n 1, 1) := by decide +kernel
theorem d_M_make_89 : decode b_M_make 89 = .ok (.iastore, 1) := by decide +kernel
theorem d_M_make_90 : decode b_M_make 90 = .ok (.aload_n 0, 1) := by decide +kernel
theorem d_M_make_91 : decode b_M_make 91 = .ok (.getfield 13, 3) := by decide +kernel
theorem d_M_make_94 : decode b_M_make 94 = .ok (.iload_n 3, 1) := by decide +kernel
theorem d_M_make_95 : decode b_M_make 95 = .ok (.iload_n 2, 1) := by decide +kernel
theorem d_M_make_96 : decode b_M_make 96 = .ok (.iastore, 1) := by decide +kernel
theorem d_M_make_97 : decode b_M_make 97 = .ok (.iconst 0, 1) := by decide +kernel
theorem d_M_make_98 : decode b_M_make 98 = .ok (.istore 4, 2) := by decide +kernel
theorem d_M_make_100 : decode b_M_make 100 = .ok (.iload 4, 2) := by decide +kernel
theorem d_M_make_102 : decode b_M_make 102 = .ok (.bipush 24, 2) := by decide +kernel
theorem d_M_make_104 : decode b_M_make 104 = .ok (.if_icmp .ge 22, 3) := by decide +kernel
theorem d_M_make_107 : decode b_M_make 107 = .ok (.aload_n 0, 1) := by decide +kernel
theorem d_M_make_108 : decode b_M_make 108 = .ok (.getfield 16, 3) := by decide +kernel
theorem d_M_make_111 : decode b_M_make 111 = .ok (.bipush 24, 2) := by decide +kernel
theorem d_M_make_113 : decode b_M_make 113 = .ok (.iload_n 3, 1) := by decide +kernel
theorem d_M_make_114 : decode b_M_make 114 = .ok (.imul, 1) := by decide +kernel
theorem d_M_make_115 : decode b_M_make 115 = .ok (.iload 4, 2) := by decide +kernel
theorem d_M_make_117 : decode b_M_make 117 = .ok (.iadd, 1) := by decide +kernel
theorem d_M_make_118 : decode b_M_make 118 = .ok (.iconst (-1), 1) := by decide +kernel
theorem d_M_make_119 : decode b_M_make 119 = .ok (.iastore, 1) := by decide +kernel
theorem d_M_make_120 : decode b_M_make 120 = .ok (.iinc 4 1, 3) := by decide +kernel
theorem d_M_make_123 : decode b_M_make 123 = .ok (.goto (-23), 3) := by decide +kernel
theorem d_M_make_126 : decode b_M_make 126 = .ok (.iload_n 3, 1) := by decide +kernel
theorem d_M_make_127 : decode b_M_make 127 = .ok (.ireturn, 1) := by decide +kernel
theorem d_M_drop_0 : decode b_M_drop 0 = .ok (.aload_n 0, 1) := by decide +kernel
theorem d_M_drop_1 : decode b_M_drop 1 = .ok (.aload_n 0, 1) := by decide +kernel
theorem d_M_drop_2 : decode b_M_drop 2 = .ok (.iload_n 1, 1) := by decide +kernel
theorem d_M_drop_3 : decode b_M_drop 3 = .ok (.invokevirtual 43, 3) := by decide +kernel
theorem d_M_drop_6 : decode b_M_drop 6 = .ok (.ifCond .eq 7, 3) := by decide +kernel
theorem d_M_drop_9 : decode b_M_drop 9 = .ok (.iconst 0, 1) := by decide +kernel
theorem d_M_drop_10 : decode b_M_drop 10 = .ok (.goto 4, 3) := by decide +kernel
theorem d_M_drop_13 : decode b_M_drop 13 = .ok (.iconst 1, 1) := by decide +kernel
theorem d_M_drop_14 : decode b_M_drop 14 = .ok (.putfield 35, 3) := by decide +kernel
theorem d_M_drop_17 : decode b_M_drop 17 = .ok (.aload_n 0, 1) := by decide +kernel
theorem d_M_drop_18 : decode b_M_drop 18 = .ok (.getfield 35, 3) := by decide +kernel
theorem d_M_drop_21 : decode b_M_drop 21 = .ok (.ifCond .le 5, 3) := by decide +kernel
theorem d_M_drop_24 : decode b_M_drop 24 = .ok (.iconst 0, 1) := by decide +kernel
theorem d_M_drop_25 : decode b_M_drop 25 = .ok (.ireturn, 1) := by decide +kernel
theorem d_M_drop_26 : decode b_M_drop 26 = .ok (.iconst 0, 1) := by decide +kernel
theorem d_M_drop_27 : decode b_M_drop 27 = .ok (.istore_n 2, 1) := by decide +kernel
theorem d_M_drop_28 : decode b_M_drop 28 = .ok (.iconst 0, 1) := by decide +kernel
theorem d_M_drop_29 : decode b_M_drop 29 = .ok (.istore_n 3, 1) := by decide +kernel
theorem d_M_drop_30 : decode b_M_drop 30 = .ok (.iload_n 3, 1) := by decide +kernel
theorem d_M_drop_31 : decode b_M_drop 31 = .ok (.bipush 64, 2) := by decide +kernel
theorem d_M_drop_33 : decode b_M_drop 33 = .ok (.if_icmp .ge 45, 3) := by decide +kernel
theorem d_M_drop_36 : decode b_M_drop 36 = .ok (.aload_n 0, 1) := by decide +kernel
theorem d_M_drop_37 : decode b_M_drop 37 = .ok (.iload_n 3, 1) := by decide +kernel
theorem d_M_drop_38 : decode b_M_drop 38 = .ok (.invokevirtual 43, 3) := by decide +kernel
theorem d_M_drop_41 : decode b_M_drop 41 = .ok (.ifCond .eq 31, 3) := by decide +kernel
theorem d_M_drop_44 : decode b_M_drop 44 = .ok (.aload_n 0, 1) := by decide +kernel
theorem d_M_drop_45 : decode b_M_drop 45 = .ok (.getfield 13, 3) := by decide +kernel
theorem d_M_drop_48 : decode b_M_drop 48 = .ok (.iload_n 3, 1) := by decide +kernel
theorem d_M_drop_49 : decode b_M_drop 49 = .ok (.iaload, 1) := by decide +kernel
theorem d_M_drop_50 : decode b_M_drop 50 = .ok (.iload_n 1, 1) := by decide +kernel
theorem d_M_drop_51 : decode b_M_drop 51 = .ok (.if_icmp .eq 6, 3) := by decide +kernel
theorem d_M_drop_54 : decode b_M_drop 54 = .ok (.goto 18, 3) := by decide +kernel
theorem d_M_drop_57 : decode b_M_drop 57 = .ok (.aload_n 0, 1) := by decide +kernel
theorem d_M_drop_58 : decode b_M_drop 58 = .ok (.getfield 13, 3) := by decide +kernel
theorem d_M_drop_61 : decode b_M_drop 61 = .ok (.iload_n 3, 1) := by decide +kernel
theorem d_M_drop_62 : decode b_M_drop 62 = .ok (.aload_n 0, 1) := by decide +kernel
theorem d_M_drop_63 : decode b_M_drop 63 = .ok (.getfield 13, 3) := by decide +kernel
theorem d_M_drop_66 : decode b_M_drop 66 = .ok (.iload_n 1, 1) := by decide +kernel
theorem d_M_drop_67 : decode b_M_drop 67 = .ok (.iaload, 1) := by decide +kernel
theorem d_M_drop_68 : decode b_M_drop 68 = .ok (.iastore, 1) := by decide +kernel
theorem d_M_drop_69 : decode b_M_drop 69 = .ok (.iinc 2 1, 3) := by decide +kernel
theorem d_M_drop_72 : decode b_M_drop 72 = .ok (.iinc 3 1, 3) := by decide +kernel
theorem d_M_drop_75 : decode b_M_drop 75 = .ok (.goto (-45), 3) := by decide +kernel
theorem d_M_drop_78 : decode b_M_drop 78 = .ok (.aload_n 0, 1) := by decide +kernel
theorem d_M_drop_79 : decode b_M_drop 79 = .ok (.getfield 7, 3) := by decide +kernel
theorem d_M_drop_82 : decode b_M_drop 82 = .ok (.iload_n 1, 1) := by decide +kernel
theorem d_M_drop_83 : decode b_M_drop 83 = .ok (.iconst (-1), 1) := by decide +kernel
theorem d_M_drop_84 : decode b_M_drop 84 = .ok (.iastore, 1) := by decide +kernel
theorem d_M_drop_85 : decode b_M_drop 85 = .ok (.iload_n 2, 1) := by decide +kernel
theorem d_M_drop_86 : decode b_M_drop 86 = .ok (.ireturn, 1) := by decide +kernel
theorem d_M_comes_0 : decode b_M_comes 0 = .ok (.iload_n 1, 1) := by decide +kernel
theorem d_M_comes_1 : decode b_M_comes 1 = .ok (.istore_n 3, 1) := by decide +kernel
theorem d_M_comes_2 : decode b_M_comes 2 = .ok (.iload_n 3, 1) := by decide +kernel
theorem d_M_comes_3 : decode b_M_comes 3 = .ok (.ifCond .lt 18, 3) := by decide +kernel
theorem d_M_comes_6 : decode b_M_comes 6 = .ok (.iload_n 3, 1) := by decide +kernel
theorem d_M_comes_7 : decode b_M_comes 7 = .ok (.iload_n 2, 1) := by decide +kernel
theorem d_M_comes_8 : decode b_M_comes 8 = .ok (.if_icmp .eq 13, 3) := by decide +kernel
theorem d_M_comes_11 : decode b_M_comes 11 = .ok (.aload_n 0, 1) := by decide +kernel
theorem d_M_comes_12 : decode b_M_comes 12 = .ok (.getfield 13, 3) := by decide +kernel
theorem d_M_comes_15 : decode b_M_comes 15 = .ok (.iload_n 3, 1) := by decide +kernel
theorem d_M_comes_16 : decode b_M_comes 16 = .ok (.iaload, 1) := by decide +kernel
theorem d_M_comes_17 : decode b_M_comes 17 = .ok (.istore_n 3, 1) := by decide +kernel
theorem d_M_comes_18 : decode b_M_comes 18 = .ok (.goto (-16), 3) := by decide +kernel
theorem d_M_comes_21 : decode b_M_comes 21 = .ok (.iload_n 3, 1) := by decide +kernel
theorem d_M_comes_22 : decode b_M_comes 22 = .ok (.iload_n 2, 1) := by decide +kernel
theorem d_M_comes_23 : decode b_M_comes 23 = .ok (.if_icmp .ne 7, 3) := by decide +kernel
theorem d_M_comes_26 : decode b_M_comes 26 = .ok (.iconst 1, 1) := by decide +kernel
theorem d_M_comes_27 : decode b_M_comes 27 = .ok (.goto 4, 3) := by decide +kernel
theorem d_M_comes_30 : decode b_M_comes 30 = .ok (.iconst 0, 1) := by decide +kernel
theorem d_M_comes_31 : decode b_M_comes 31 = .ok (.ireturn, 1) := by decide +kernel
theorem d_M_rebase_0 : decode b_M_rebase 0 = .ok (.aload_n 0, 1) := by decide +kernel
theorem d_M_rebase_1 : decode b_M_rebase 1 = .ok (.aload_n 0, 1) := by decide +kernel
theorem d_M_rebase_2 : decode b_M_rebase 2 = .ok (.iload_n 1, 1) := by decide +kernel
theorem d_M_rebase_3 : decode b_M_rebase 3 = .ok (.invokevirtual 43, 3) := by decide +kernel
theorem d_M_rebase_6 : decode b_M_rebase 6 = .ok (.ifCond .ne 7, 3) := by decide +kernel
theorem d_M_rebase_9 : decode b_M_rebase 9 = .ok (.iconst 1, 1) := by decide +kernel
theorem d_M_rebase_10 : decode b_M_rebase 10 = .ok (.goto 22, 3) := by decide +kernel
theorem d_M_rebase_13 : decode b_M_rebase 13 = .ok (.aload_n 0, 1) := by decide +kernel
theorem d_M_rebase_14 : decode b_M_rebase 14 = .ok (.iload_n 2, 1) := by decide +kernel
theorem d_M_rebase_15 : decode b_M_rebase 15 = .ok (.aload_n 0, 1) := by decide +kernel
theorem d_M_rebase_16 : decode b_M_rebase 16 = .ok (.getfield 7, 3) := by decide +kernel
theorem d_M_rebase_19 : decode b_M_rebase 19 = .ok (.iload_n 1, 1) := by decide +kernel
theorem d_M_rebase_20 : decode b_M_rebase 20 = .ok (.iaload, 1) := by decide +kernel
theorem d_M_rebase_21 : decode b_M_rebase 21 = .ok (.invokevirtual 51, 3) := by decide +kernel
theorem d_M_rebase_24 : decode b_M_rebase 24 = .ok (.ifCond .ne 7, 3) := by decide +kernel
theorem d_M_rebase_27 : decode b_M_rebase 27 = .ok (.iconst 2, 1) := by decide +kernel
theorem d_M_rebase_28 : decode b_M_rebase 28 = .ok (.goto 4, 3) := by decide +kernel
theorem d_M_rebase_31 : decode b_M_rebase 31 = .ok (.iconst 0, 1) := by decide +kernel
theorem d_M_rebase_32 : decode b_M_rebase 32 = .ok (.putfield 35, 3) := by decide +kernel
theorem d_M_rebase_35 : decode b_M_rebase 35 = .ok (.aload_n 0, 1) := by decide +kernel
theorem d_M_rebase_36 : decode b_M_rebase 36 = .ok (.getfield 35, 3) := by decide +kernel
theorem d_M_rebase_39 : decode b_M_rebase 39 = .ok (.ifCond .gt 16, 3) := by decide +kernel
theorem d_M_rebase_42 : decode b_M_rebase 42 = .ok (.iload_n 2, 1) := by decide +kernel
theorem d_M_rebase_43 : decode b_M_rebase 43 = .ok (.ifCond .lt 14, 3) := by decide +kernel
theorem d_M_rebase_46 : decode b_M_rebase 46 = .ok (.aload_n 0, 1) := by decide +kernel
theorem d_M_rebase_47 : decode b_M_rebase 47 = .ok (.iload_n 2, 1) := by decide +kernel
theorem d_M_rebase_48 : decode b_M_rebase 48 = .ok (.iload_n 1, 1) := by decide +kernel
theorem d_M_rebase_49 : decode b_M_rebase 49 = .ok (.invokevirtual 55, 3) := by decide +kernel
theorem d_M_rebase_52 : decode b_M_rebase 52 = .ok (.ifCond .eq 5, 3) := by decide +kernel
theorem d_M_rebase_55 : decode b_M_rebase 55 = .ok (.iconst 0, 1) := by decide +kernel
theorem d_M_rebase_56 : decode b_M_rebase 56 = .ok (.ireturn, 1) := by decide +kernel
theorem d_M_rebase_57 : decode b_M_rebase 57 = .ok (.aload_n 0, 1) := by decide +kernel
theorem d_M_rebase_58 : decode b_M_rebase 58 = .ok (.getfield 13, 3) := by decide +kernel
theorem d_M_rebase_61 : decode b_M_rebase 61 = .ok (.iload_n 1, 1) := by decide +kernel
theorem d_M_rebase_62 : decode b_M_rebase 62 = .ok (.iload_n 2, 1) := by decide +kernel
theorem d_M_rebase_63 : decode b_M_rebase 63 = .ok (.iastore, 1) := by decide +kernel
theorem d_M_rebase_64 : decode b_M_rebase 64 = .ok (.iconst 1, 1) := by decide +kernel
theorem d_M_rebase_65 : decode b_M_rebase 65 = .ok (.ireturn, 1) := by decide +kernel
theorem d_M_own_0 : decode b_M_own 0 = .ok (.aload_n 0, 1) := by decide +kernel
theorem d_M_own_1 : decode b_M_own 1 = .ok (.aload_n 0, 1) := by decide +kernel
theorem d_M_own_2 : decode b_M_own 2 = .ok (.iload_n 1, 1) := by decide +kernel
theorem d_M_own_3 : decode b_M_own 3 = .ok (.invokevirtual 43, 3) := by decide +kernel
theorem d_M_own_6 : decode b_M_own 6 = .ok (.ifCond .ne 7, 3) := by decide +kernel
theorem d_M_own_9 : decode b_M_own 9 = .ok (.iconst 1, 1) := by decide +kernel
theorem d_M_own_10 : decode b_M_own 10 = .ok (.goto 17, 3) := by decide +kernel
theorem d_M_own_13 : decode b_M_own 13 = .ok (.iload_n 2, 1) := by decide +kernel
theorem d_M_own_14 : decode b_M_own 14 = .ok (.iload_n 3, 1) := by decide +kernel
theorem d_M_own_15 : decode b_M_own 15 = .ok (.iconst (-1), 1) := by decide +kernel
theorem d_M_own_16 : decode b_M_own 16 = .ok (.invokestatic 58, 3) := by decide +kernel
theorem d_M_own_19 : decode b_M_own 19 = .ok (.ifCond .ne 7, 3) := by decide +kernel
theorem d_M_own_22 : decode b_M_own 22 = .ok (.iconst 2, 1) := by decide +kernel
theorem d_M_own_23 : decode b_M_own 23 = .ok (.goto 4, 3) := by decide +kernel
theorem d_M_own_26 : decode b_M_own 26 = .ok (.iconst 0, 1) := by decide +kernel
theorem d_M_own_27 : decode b_M_own 27 = .ok (.putfield 35, 3) := by decide +kernel
theorem d_M_own_30 : decode b_M_own 30 = .ok (.aload_n 0, 1) := by decide +kernel
theorem d_M_own_31 : decode b_M_own 31 = .ok (.getfield 35, 3) := by decide +kernel
theorem d_M_own_34 : decode b_M_own 34 = .ok (.ifCond .ne 15, 3) := by decide +kernel
theorem d_M_own_37 : decode b_M_own 37 = .ok (.aload_n 0, 1) := by decide +kernel
theorem d_M_own_38 : decode b_M_own 38 = .ok (.getfield 16, 3) := by decide +kernel
theorem d_M_own_41 : decode b_M_own 41 = .ok (.bipush 24, 2) := by decide +kernel
theorem d_M_own_43 : decode b_M_own 43 = .ok (.iload_n 1, 1) := by decide +kernel
theorem d_M_own_44 : decode b_M_own 44 = .ok (.imul, 1) := by decide +kernel
theorem d_M_own_45 : decode b_M_own 45 = .ok (.iload_n 2, 1) := by decide +kernel
theorem d_M_own_46 : decode b_M_own 46 = .ok (.iadd, 1) := by decide +kernel
theorem d_M_own_47 : decode b_M_own 47 = .ok (.iload_n 3, 1) := by decide +kernel
theorem d_M_own_48 : decode b_M_own 48 = .ok (.iastore, 1) := by decide +kernel
theorem d_M_own_49 : decode b_M_own 49 = .ok (.return_, 1) := by decide +kernel
theorem d_M_first_0 : decode b_M_first 0 = .ok (.iload_n 1, 1) := by decide +kernel
theorem d_M_first_1 : decode b_M_first 1 = .ok (.istore_n 3, 1) := by decide +kernel
theorem d_M_first_2 : decode b_M_first 2 = .ok (.iload_n 3, 1) := by decide +kernel
theorem d_M_first_3 : decode b_M_first 3 = .ok (.ifCond .lt 27, 3) := by decide +kernel
theorem d_M_first_6 : decode b_M_first 6 = .ok (.aload_n 0, 1) := by decide +kernel
theorem d_M_first_7 : decode b_M_first 7 = .ok (.getfield 16, 3) := by decide +kernel
theorem d_M_first_10 : decode b_M_first 10 = .ok (.bipush 24, 2) := by decide +kernel
theorem d_M_first_12 : decode b_M_first 12 = .ok (.iload_n 3, 1) := by decide +kernel
theorem d_M_first_13 : decode b_M_first 13 = .ok (.imul, 1) := by decide +kernel
theorem d_M_first_14 : decode b_M_first 14 = .ok (.iload_n 2, 1) := by decide +kernel
theorem d_M_first_15 : decode b_M_first 15 = .ok (.iadd, 1) := by decide +kernel
theorem d_M_first_16 : decode b_M_first 16 = .ok (.iaload, 1) := by decide +kernel
theorem d_M_first_17 : decode b_M_first 17 = .ok (.ifCond .ge 13, 3) := by decide +kernel
theorem d_M_first_20 : decode b_M_first 20 = .ok (.aload_n 0, 1) := by decide +kernel
theorem d_M_first_21 : decode b_M_first 21 = .ok (.getfield 13, 3) := by decide +kernel
theorem d_M_first_24 : decode b_M_first 24 = .ok (.iload_n 3, 1) := by decide +kernel
theorem d_M_first_25 : decode b_M_first 25 = .ok (.iaload, 1) := by decide +kernel
theorem d_M_first_26 : decode b_M_first 26 = .ok (.istore_n 3, 1) := by decide +kernel
theorem d_M_first_27 : decode b_M_first 27 = .ok (.goto (-25), 3) := by decide +kernel
theorem d_M_first_30 : decode b_M_first 30 = .ok (.iload_n 3, 1) := by decide +kernel
theorem d_M_first_31 : decode b_M_first 31 = .ok (.ireturn, 1) := by decide +kernel
theorem d_M_valueOf_0 : decode b_M_valueOf 0 = .ok (.iload_n 1, 1) := by decide +kernel
theorem d_M_valueOf_1 : decode b_M_valueOf 1 = .ok (.ifCond .ge 7, 3) := by decide +kernel
theorem d_M_valueOf_4 : decode b_M_valueOf 4 = .ok (.iconst (-1), 1) := by decide +kernel
theorem d_M_valueOf_5 : decode b_M_valueOf 5 = .ok (.goto 9, 3) := by decide +kernel
theorem d_M_valueOf_8 : decode b_M_valueOf 8 = .ok (.aload_n 0, 1) := by decide +kernel
theorem d_M_valueOf_9 : decode b_M_valueOf 9 = .ok (.iload_n 1, 1) := by decide +kernel
theorem d_M_valueOf_10 : decode b_M_valueOf 10 = .ok (.iload_n 2, 1) := by decide +kernel
theorem d_M_valueOf_11 : decode b_M_valueOf 11 = .ok (.invokevirtual 61, 3) := by decide +kernel
theorem d_M_valueOf_14 : decode b_M_valueOf 14 = .ok (.istore_n 3, 1) := by decide +kernel
theorem d_M_valueOf_15 : decode b_M_valueOf 15 = .ok (.iload_n 3, 1) := by decide +kernel
theorem d_M_valueOf_16 : decode b_M_valueOf 16 = .ok (.ifCond .ge 7, 3) := by decide +kernel
theorem d_M_valueOf_19 : decode b_M_valueOf 19 = .ok (.iconst (-1), 1) := by decide +kernel
theorem d_M_valueOf_20 : decode b_M_valueOf 20 = .ok (.goto 14, 3) := by decide +kernel
theorem d_M_valueOf_23 : decode b_M_valueOf 23 = .ok (.aload_n 0, 1) := by decide +kernel
theorem d_M_valueOf_24 : decode b_M_valueOf 24 = .ok (.getfield 16, 3) := by decide +kernel
theorem d_M_valueOf_27 : decode b_M_valueOf 27 = .ok (.bipush 24, 2) := by decide +kernel
theorem d_M_valueOf_29 : decode b_M_valueOf 29 = .ok (.iload_n 3, 1) := by decide +kernel
theorem d_M_valueOf_30 : decode b_M_valueOf 30 = .ok (.imul, 1) := by decide +kernel
theorem d_M_valueOf_31 : decode b_M_valueOf 31 = .ok (.iload_n 2, 1) := by decide +kernel
theorem d_M_valueOf_32 : decode b_M_valueOf 32 = .ok (.iadd, 1) := by decide +kernel
theorem d_M_valueOf_33 : decode b_M_valueOf 33 = .ok (.iaload, 1) := by decide +kernel
theorem d_M_valueOf_34 : decode b_M_valueOf 34 = .ok (.ireturn, 1) := by decide +kernel
theorem d_M_value_0 : decode b_M_value 0 = .ok (.aload_n 0, 1) := by decide +kernel
theorem d_M_value_1 : decode b_M_value 1 = .ok (.aload_n 0, 1) := by decide +kernel
theorem d_M_value_2 : decode b_M_value 2 = .ok (.iload_n 1, 1) := by decide +kernel
theorem d_M_value_3 : decode b_M_value 3 = .ok (.invokevirtual 43, 3) := by decide +kernel
theorem d_M_value_6 : decode b_M_value 6 = .ok (.ifCond .ne 7, 3) := by decide +kernel
theorem d_M_value_9 : decode b_M_value 9 = .ok (.iconst 1, 1) := by decide +kernel
theorem d_M_value_10 : decode b_M_value 10 = .ok (.goto 15, 3) := by decide +kernel
theorem d_M_value_13 : decode b_M_value 13 = .ok (.iload_n 2, 1) := by decide +kernel
theorem d_M_value_14 : decode b_M_value 14 = .ok (.invokestatic 47, 3) := by decide +kernel
theorem d_M_value_17 : decode b_M_value 17 = .ok (.ifCond .ne 7, 3) := by decide +kernel
theorem d_M_value_20 : decode b_M_value 20 = .ok (.iconst 2, 1) := by decide +kernel
theorem d_M_value_21 : decode b_M_value 21 = .ok (.goto 4, 3) := by decide +kernel
theorem d_M_value_24 : decode b_M_value 24 = .ok (.iconst 0, 1) := by decide +kernel
theorem d_M_value_25 : decode b_M_value 25 = .ok (.putfield 35, 3) := by decide +kernel
theorem d_M_value_28 : decode b_M_value 28 = .ok (.aload_n 0, 1) := by decide +kernel
theorem d_M_value_29 : decode b_M_value 29 = .ok (.getfield 35, 3) := by decide +kernel
theorem d_M_value_32 : decode b_M_value 32 = .ok (.ifCond .le 7, 3) := by decide +kernel
theorem d_M_value_35 : decode b_M_value 35 = .ok (.iconst 0, 1) := by decide +kernel
theorem d_M_value_36 : decode b_M_value 36 = .ok (.goto 9, 3) := by decide +kernel
theorem d_M_value_39 : decode b_M_value 39 = .ok (.aload_n 0, 1) := by decide +kernel
theorem d_M_value_40 : decode b_M_value 40 = .ok (.iload_n 1, 1) := by decide +kernel
theorem d_M_value_41 : decode b_M_value 41 = .ok (.iload_n 2, 1) := by decide +kernel
theorem d_M_value_42 : decode b_M_value 42 = .ok (.invokevirtual 65, 3) := by decide +kernel
theorem d_M_value_45 : decode b_M_value 45 = .ok (.ireturn, 1) := by decide +kernel
theorem d_M_giver_0 : decode b_M_giver 0 = .ok (.aload_n 0, 1) := by decide +kernel
theorem d_M_giver_1 : decode b_M_giver 1 = .ok (.aload_n 0, 1) := by decide +kernel
theorem d_M_giver_2 : decode b_M_giver 2 = .ok (.iload_n 1, 1) := by decide +kernel
theorem d_M_giver_3 : decode b_M_giver 3 = .ok (.invokevirtual 43, 3) := by decide +kernel
theorem d_M_giver_6 : decode b_M_giver 6 = .ok (.ifCond .ne 7, 3) := by decide +kernel
theorem d_M_giver_9 : decode b_M_giver 9 = .ok (.iconst 1, 1) := by decide +kernel
theorem d_M_giver_10 : decode b_M_giver 10 = .ok (.goto 15, 3) := by decide +kernel
theorem d_M_giver_13 : decode b_M_giver 13 = .ok (.iload_n 2, 1) := by decide +kernel
theorem d_M_giver_14 : decode b_M_giver 14 = .ok (.invokestatic 47, 3) := by decide +kernel
theorem d_M_giver_17 : decode b_M_giver 17 = .ok (.ifCond .ne 7, 3) := by decide +kernel
theorem d_M_giver_20 : decode b_M_giver 20 = .ok (.iconst 2, 1) := by decide +kernel
theorem d_M_giver_21 : decode b_M_giver 21 = .ok (.goto 4, 3) := by decide +kernel
theorem d_M_giver_24 : decode b_M_giver 24 = .ok (.iconst 0, 1) := by decide +kernel
theorem d_M_giver_25 : decode b_M_giver 25 = .ok (.putfield 35, 3) := by decide +kernel
theorem d_M_giver_28 : decode b_M_giver 28 = .ok (.aload_n 0, 1) := by decide +kernel
theorem d_M_giver_29 : decode b_M_giver 29 = .ok (.getfield 35, 3) := by decide +kernel
theorem d_M_giver_32 : decode b_M_giver 32 = .ok (.ifCond .le 7, 3) := by decide +kernel
theorem d_M_giver_35 : decode b_M_giver 35 = .ok (.iconst 0, 1) := by decide +kernel
theorem d_M_giver_36 : decode b_M_giver 36 = .ok (.goto 9, 3) := by decide +kernel
theorem d_M_giver_39 : decode b_M_giver 39 = .ok (.aload_n 0, 1) := by decide +kernel
theorem d_M_giver_40 : decode b_M_giver 40 = .ok (.iload_n 1, 1) := by decide +kernel
theorem d_M_giver_41 : decode b_M_giver 41 = .ok (.iload_n 2, 1) := by decide +kernel
theorem d_M_giver_42 : decode b_M_giver 42 = .ok (.invokevirtual 61, 3) := by decide +kernel
theorem d_M_giver_45 : decode b_M_giver 45 = .ok (.ireturn, 1) := by decide +kernel
theorem d_M_chain_0 : decode b_M_chain 0 = .ok (.iconst 0, 1) := by decide +kernel
theorem d_M_chain_1 : decode b_M_chain 1 = .ok (.istore_n 2, 1) := by decide +kernel
theorem d_M_chain_2 : decode b_M_chain 2 = .ok (.iload_n 1, 1) := by decide +kernel
theorem d_M_chain_3 : decode b_M_chain 3 = .ok (.istore_n 3, 1) := by decide +kernel
theorem d_M_chain_4 : decode b_M_chain 4 = .ok (.iload_n 3, 1) := by decide +kernel
theorem d_M_chain_5 : decode b_M_chain 5 = .ok (.ifCond .lt 16, 3) := by decide +kernel
theorem d_M_chain_8 : decode b_M_chain 8 = .ok (.iinc 2 1, 3) := by decide +kernel
theorem d_M_chain_11 : decode b_M_chain 11 = .ok (.aload_n 0, 1) := by decide +kernel
theorem d_M_chain_12 : decode b_M_chain 12 = .ok (.getfield 13, 3) := by decide +kernel
theorem d_M_chain_15 : decode b_M_chain 15 = .ok (.iload_n 3, 1) := by decide +kernel
theorem d_M_chain_16 : decode b_M_chain 16 = .ok (.iaload, 1) := by decide +kernel
theorem d_M_chain_17 : decode b_M_chain 17 = .ok (.istore_n 3, 1) := by decide +kernel
theorem d_M_chain_18 : decode b_M_chain 18 = .ok (.goto (-14), 3) := by decide +kernel
theorem d_M_chain_21 : decode b_M_chain 21 = .ok (.iload_n 2, 1) := by decide +kernel
theorem d_M_chain_22 : decode b_M_chain 22 = .ok (.ireturn, 1) := by decide +kernel
theorem d_M_owned_0 : decode b_M_owned 0 = .ok (.iconst 0, 1) := by decide +kernel
theorem d_M_owned_1 : decode b_M_owned 1 = .ok (.istore_n 2, 1) := by decide +kernel
theorem d_M_owned_2 : decode b_M_owned 2 = .ok (.iconst 0, 1) := by decide +kernel
theorem d_M_owned_3 : decode b_M_owned 3 = .ok (.istore_n 3, 1) := by decide +kernel
theorem d_M_owned_4 : decode b_M_owned 4 = .ok (.iload_n 3, 1) := by decide +kernel
theorem d_M_owned_5 : decode b_M_owned 5 = .ok (.bipush 24, 2) := by decide +kernel
theorem d_M_owned_7 : decode b_M_owned 7 = .ok (.if_icmp .ge 31, 3) := by decide +kernel
theorem d_M_owned_10 : decode b_M_owned 10 = .ok (.iload_n 2, 1) := by decide +kernel
theorem d_M_owned_11 : decode b_M_owned 11 = .ok (.aload_n 0, 1) := by decide +kernel
theorem d_M_owned_12 : decode b_M_owned 12 = .ok (.getfield 16, 3) := by decide +kernel
theorem d_M_owned_15 : decode b_M_owned 15 = .ok (.bipush 24, 2) := by decide +kernel
theorem d_M_owned_17 : decode b_M_owned 17 = .ok (.iload_n 1, 1) := by decide +kernel
theorem d_M_owned_18 : decode b_M_owned 18 = .ok (.imul, 1) := by decide +kernel
theorem d_M_owned_19 : decode b_M_owned 19 = .ok (.iload_n 3, 1) := by decide +kernel
theorem d_M_owned_20 : decode b_M_owned 20 = .ok (.iadd, 1) := by decide +kernel
theorem d_M_owned_21 : decode b_M_owned 21 = .ok (.iaload, 1) := by decide +kernel
theorem d_M_owned_22 : decode b_M_owned 22 = .ok (.ifCond .lt 7, 3) := by decide +kernel
theorem d_M_owned_25 : decode b_M_owned 25 = .ok (.iconst 1, 1) := by decide +kernel
theorem d_M_owned_26 : decode b_M_owned 26 = .ok (.goto 4, 3) := by decide +kernel
theorem d_M_owned_29 : decode b_M_owned 29 = .ok (.iconst 0, 1) := by decide +kernel
theorem d_M_owned_30 : decode b_M_owned 30 = .ok (.iadd, 1) := by decide +kernel
theorem d_M_owned_31 : decode b_M_owned 31 = .ok (.istore_n 2, 1) := by decide +kernel
theorem d_M_owned_32 : decode b_M_owned 32 = .ok (.iinc 3 1, 3) := by decide +kernel
theorem d_M_owned_35 : decode b_M_owned 35 = .ok (.goto (-31), 3) := by decide +kernel
theorem d_M_owned_38 : decode b_M_owned 38 = .ok (.iload_n 2, 1) := by decide +kernel
theorem d_M_owned_39 : decode b_M_owned 39 = .ok (.ireturn, 1) := by decide +kernel
theorem d_M_style_0 : decode b_M_style 0 = .ok (.aload_n 0, 1) := by decide +kernel
theorem d_M_style_1 : decode b_M_style 1 = .ok (.aload_n 0, 1) := by decide +kernel
theorem d_M_style_2 : decode b_M_style 2 = .ok (.iload_n 1, 1) := by decide +kernel
theorem d_M_style_3 : decode b_M_style 3 = .ok (.invokevirtual 43, 3) := by decide +kernel
theorem d_M_style_6 : decode b_M_style 6 = .ok (.ifCond .ne 7, 3) := by decide +kernel
theorem d_M_style_9 : decode b_M_style 9 = .ok (.iconst 1, 1) := by decide +kernel
theorem d_M_style_10 : decode b_M_style 10 = .ok (.goto 17, 3) := by decide +kernel
theorem d_M_style_13 : decode b_M_style 13 = .ok (.iload_n 2, 1) := by decide +kernel
theorem d_M_style_14 : decode b_M_style 14 = .ok (.iconst 0, 1) := by decide +kernel
theorem d_M_style_15 : decode b_M_style 15 = .ok (.iconst 4, 1) := by decide +kernel
theorem d_M_style_16 : decode b_M_style 16 = .ok (.invokestatic 39, 3) := by decide +kernel
theorem d_M_style_19 : decode b_M_style 19 = .ok (.ifCond .ne 7, 3) := by decide +kernel
theorem d_M_style_22 : decode b_M_style 22 = .ok (.iconst 2, 1) := by decide +kernel
theorem d_M_style_23 : decode b_M_style 23 = .ok (.goto 4, 3) := by decide +kernel
theorem d_M_style_26 : decode b_M_style 26 = .ok (.iconst 0, 1) := by decide +kernel
theorem d_M_style_27 : decode b_M_style 27 = .ok (.putfield 35, 3) := by decide +kernel
theorem d_M_style_30 : decode b_M_style 30 = .ok (.aload_n 0, 1) := by decide +kernel
theorem d_M_style_31 : decode b_M_style 31 = .ok (.getfield 35, 3) := by decide +kernel
theorem d_M_style_34 : decode b_M_style 34 = .ok (.ifCond .le 5, 3) := by decide +kernel
theorem d_M_style_37 : decode b_M_style 37 = .ok (.iconst 0, 1) := by decide +kernel
theorem d_M_style_38 : decode b_M_style 38 = .ok (.ireturn, 1) := by decide +kernel
theorem d_M_style_39 : decode b_M_style 39 = .ok (.iconst 0, 1) := by decide +kernel
theorem d_M_style_40 : decode b_M_style 40 = .ok (.istore_n 3, 1) := by decide +kernel
theorem d_M_style_41 : decode b_M_style 41 = .ok (.iconst 0, 1) := by decide +kernel
theorem d_M_style_42 : decode b_M_style 42 = .ok (.istore 4, 2) := by decide +kernel
theorem d_M_style_44 : decode b_M_style 44 = .ok (.iload 4, 2) := by decide +kernel
theorem d_M_style_46 : decode b_M_style 46 = .ok (.bipush 64, 2) := by decide +kernel
theorem d_M_style_48 : decode b_M_style 48 = .ok (.if_icmp .ge 42, 3) := by decide +kernel
theorem d_M_style_51 : decode b_M_style 51 = .ok (.iload_n 3, 1) := by decide +kernel
theorem d_M_style_52 : decode b_M_style 52 = .ok (.iload 4, 2) := by decide +kernel
theorem d_M_style_54 : decode b_M_style 54 = .ok (.iload_n 1, 1) := by decide +kernel
theorem d_M_style_55 : decode b_M_style 55 = .ok (.if_icmp .eq 26, 3) := by decide +kernel
theorem d_M_style_58 : decode b_M_style 58 = .ok (.aload_n 0, 1) := by decide +kernel
theorem d_M_style_59 : decode b_M_style 59 = .ok (.iload 4, 2) := by decide +kernel
theorem d_M_style_61 : decode b_M_style 61 = .ok (.invokevirtual 43, 3) := by decide +kernel
theorem d_M_style_64 : decode b_M_style 64 = .ok (.ifCond .eq 17, 3) := by decide +kernel
theorem d_M_style_67 : decode b_M_style 67 = .ok (.aload_n 0, 1) := by decide +kernel
theorem d_M_style_68 : decode b_M_style 68 = .ok (.iload 4, 2) := by decide +kernel
theorem d_M_style_70 : decode b_M_style 70 = .ok (.iload_n 1, 1) := by decide +kernel
theorem d_M_style_71 : decode b_M_style 71 = .ok (.invokevirtual 55, 3) := by decide +kernel
theorem d_M_style_74 : decode b_M_style 74 = .ok (.ifCond .eq 7, 3) := by decide +kernel
theorem d_M_style_77 : decode b_M_style 77 = .ok (.iconst 1, 1) := by decide +kernel
theorem d_M_style_78 : decode b_M_style 78 = .ok (.goto 4, 3) := by decide +kernel
theorem d_M_style_81 : decode b_M_style 81 = .ok (.iconst 0, 1) := by decide +kernel
theorem d_M_style_82 : decode b_M_style 82 = .ok (.iadd, 1) := by decide +kernel
theorem d_M_style_83 : decode b_M_style 83 = .ok (.istore_n 3, 1) := by decide +kernel
theorem d_M_style_84 : decode b_M_style 84 = .ok (.iinc 4 1, 3) := by decide +kernel
theorem d_M_style_87 : decode b_M_style 87 = .ok (.goto (-43), 3) := by decide +kernel
theorem d_M_style_90 : decode b_M_style 90 = .ok (.iload_n 2, 1) := by decide +kernel
theorem d_M_style_91 : decode b_M_style 91 = .ok (.ifCond .ne 11, 3) := by decide +kernel
theorem d_M_style_94 : decode b_M_style 94 = .ok (.aload_n 0, 1) := by decide +kernel
theorem d_M_style_95 : decode b_M_style 95 = .ok (.iload_n 1, 1) := by decide +kernel
theorem d_M_style_96 : decode b_M_style 96 = .ok (.invokevirtual 68, 3) := by decide +kernel
theorem d_M_style_99 : decode b_M_style 99 = .ok (.goto 45, 3) := by decide +kernel
theorem d_M_style_102 : decode b_M_style 102 = .ok (.iload_n 2, 1) := by decide +kernel
theorem d_M_style_103 : decode b_M_style 103 = .ok (.iconst 1, 1) := by decide +kernel
theorem d_M_style_104 : decode b_M_style 104 = .ok (.if_icmp .ne 7, 3) := by decide +kernel
theorem d_M_style_107 : decode b_M_style 107 = .ok (.iload_n 3, 1) := by decide +kernel
theorem d_M_style_108 : decode b_M_style 108 = .ok (.goto 36, 3) := by decide +kernel
theorem d_M_style_111 : decode b_M_style 111 = .ok (.iload_n 2, 1) := by decide +kernel
theorem d_M_style_112 : decode b_M_style 112 = .ok (.iconst 2, 1) := by decide +kernel
theorem d_M_style_113 : decode b_M_style 113 = .ok (.if_icmp .ne 12, 3) := by decide +kernel
theorem d_M_style_116 : decode b_M_style 116 = .ok (.aload_n 0, 1) := by decide +kernel
theorem d_M_style_117 : decode b_M_style 117 = .ok (.getfield 13, 3) := by decide +kernel
theorem d_M_style_120 : decode b_M_style 120 = .ok (.iload_n 1, 1) := by decide +kernel
theorem d_M_style_121 : decode b_M_style 121 = .ok (.iaload, 1) := by decide +kernel
theorem d_M_style_122 : decode b_M_style 122 = .ok (.goto 22, 3) := by decide +kernel
theorem d_M_style_125 : decode b_M_style 125 = .ok (.iload_n 2, 1) := by decide +kernel
theorem d_M_style_126 : decode b_M_style 126 = .ok (.iconst 3, 1) := by decide +kernel
theorem d_M_style_127 : decode b_M_style 127 = .ok (.if_icmp .ne 12, 3) := by decide +kernel
theorem d_M_style_130 : decode b_M_style 130 = .ok (.aload_n 0, 1) := by decide +kernel
theorem d_M_style_131 : decode b_M_style 131 = .ok (.getfield 7, 3) := by decide +kernel
theorem d_M_style_134 : decode b_M_style 134 = .ok (.iload_n 1, 1) := by decide +kernel
theorem d_M_style_135 : decode b_M_style 135 = .ok (.iaload, 1) := by decide +kernel
theorem d_M_style_136 : decode b_M_style 136 = .ok (.goto 8, 3) := by decide +kernel
theorem d_M_style_139 : decode b_M_style 139 = .ok (.aload_n 0, 1) := by decide +kernel
theorem d_M_style_140 : decode b_M_style 140 = .ok (.iload_n 1, 1) := by decide +kernel
theorem d_M_style_141 : decode b_M_style 141 = .ok (.invokevirtual 72, 3) := by decide +kernel
theorem d_M_style_144 : decode b_M_style 144 = .ok (.ireturn, 1) := by decide +kernel
theorem d_M_usual_0 : decode b_M_usual 0 = .ok (.aload_n 0, 1) := by decide +kernel
theorem d_M_usual_1 : decode b_M_usual 1 = .ok (.iload_n 1, 1) := by decide +kernel
theorem d_M_usual_2 : decode b_M_usual 2 = .ok (.iload_n 2, 1) := by decide +kernel
theorem d_M_usual_3 : decode b_M_usual 3 = .ok (.iconst 0, 1) := by decide +kernel
theorem d_M_usual_4 : decode b_M_usual 4 = .ok (.invokestatic 58, 3) := by decide +kernel
theorem d_M_usual_7 : decode b_M_usual 7 = .ok (.ifCond .eq 7, 3) := by decide +kernel
theorem d_M_usual_10 : decode b_M_usual 10 = .ok (.iconst 0, 1) := by decide +kernel
theorem d_M_usual_11 : decode b_M_usual 11 = .ok (.goto 4, 3) := by decide +kernel
theorem d_M_usual_14 : decode b_M_usual 14 = .ok (.iconst 1, 1) := by decide +kernel
theorem d_M_usual_15 : decode b_M_usual 15 = .ok (.putfield 35, 3) := by decide +kernel
theorem d_M_usual_18 : decode b_M_usual 18 = .ok (.aload_n 0, 1) := by decide +kernel
theorem d_M_usual_19 : decode b_M_usual 19 = .ok (.getfield 35, 3) := by decide +kernel
theorem d_M_usual_22 : decode b_M_usual 22 = .ok (.ifCond .ne 10, 3) := by decide +kernel
theorem d_M_usual_25 : decode b_M_usual 25 = .ok (.aload_n 0, 1) := by decide +kernel
theorem d_M_usual_26 : decode b_M_usual 26 = .ok (.getfield 19, 3) := by decide +kernel
theorem d_M_usual_29 : decode b_M_usual 29 = .ok (.iload_n 1, 1) := by decide +kernel
theorem d_M_usual_30 : decode b_M_usual 30 = .ok (.iload_n 2, 1) := by decide +kernel
theorem d_M_usual_31 : decode b_M_usual 31 = .ok (.iastore, 1) := by decide +kernel
theorem d_M_usual_32 : decode b_M_usual 32 = .ok (.return_, 1) := by decide +kernel
theorem d_M_want_0 : decode b_M_want 0 = .ok (.iconst 0, 1) := by decide +kernel
theorem d_M_want_1 : decode b_M_want 1 = .ok (.istore_n 2, 1) := by decide +kernel
theorem d_M_want_2 : decode b_M_want 2 = .ok (.iload_n 2, 1) := by decide +kernel
theorem d_M_want_3 : decode b_M_want 3 = .ok (.bipush 24, 2) := by decide +kernel
theorem d_M_want_5 : decode b_M_want 5 = .ok (.if_icmp .ge 26, 3) := by decide +kernel
theorem d_M_want_8 : decode b_M_want 8 = .ok (.aload_n 0, 1) := by decide +kernel
theorem d_M_want_9 : decode b_M_want 9 = .ok (.getfield 32, 3) := by decide +kernel
theorem d_M_want_12 : decode b_M_want 12 = .ok (.iload_n 2, 1) := by decide +kernel
theorem d_M_want_13 : decode b_M_want 13 = .ok (.aload_n 0, 1) := by decide +kernel
theorem d_M_want_14 : decode b_M_want 14 = .ok (.getfield 29, 3) := by decide +kernel
theorem d_M_want_17 : decode b_M_want 17 = .ok (.bipush 24, 2) := by decide +kernel
theorem d_M_want_19 : decode b_M_want 19 = .ok (.iload_n 1, 1) := by decide +kernel
theorem d_M_want_20 : decode b_M_want 20 = .ok (.imul, 1) := by decide +kernel
theorem d_M_want_21 : decode b_M_want 21 = .ok (.iload_n 2, 1) := by decide +kernel
theorem d_M_want_22 : decode b_M_want 22 = .ok (.iadd, 1) := by decide +kernel
theorem d_M_want_23 : decode b_M_want 23 = .ok (.iaload, 1) := by decide +kernel
theorem d_M_want_24 : decode b_M_want 24 = .ok (.iastore, 1) := by decide +kernel
theorem d_M_want_25 : decode b_M_want 25 = .ok (.iinc 2 1, 3) := by decide +kernel
theorem d_M_want_28 : decode b_M_want 28 = .ok (.goto (-26), 3) := by decide +kernel
theorem d_M_want_31 : decode b_M_want 31 = .ok (.return_, 1) := by decide +kernel
theorem d_M_isWanted_0 : decode b_M_isWanted 0 = .ok (.aload_n 0, 1) := by decide +kernel
theorem d_M_isWanted_1 : decode b_M_isWanted 1 = .ok (.getfield 22, 3) := by decide +kernel
theorem d_M_isWanted_4 : decode b_M_isWanted 4 = .ok (.iload_n 1, 1) := by decide +kernel
theorem d_M_isWanted_5 : decode b_M_isWanted 5 = .ok (.baload, 1) := by decide +kernel
theorem d_M_isWanted_6 : decode b_M_isWanted 6 = .ok (.istore_n 2, 1) := by decide +kernel
theorem d_M_isWanted_7 : decode b_M_isWanted 7 = .ok (.iconst 0, 1) := by decide +kernel
theorem d_M_isWanted_8 : decode b_M_isWanted 8 = .ok (.istore_n 3, 1) := by decide +kernel
theorem d_M_isWanted_9 : decode b_M_isWanted 9 = .ok (.iload_n 3, 1) := by decide +kernel
theorem d_M_isWanted_10 : decode b_M_isWanted 10 = .ok (.bipush 24, 2) := by decide +kernel
theorem d_M_isWanted_12 : decode b_M_isWanted 12 = .ok (.if_icmp .ge 39, 3) := by decide +kernel
theorem d_M_isWanted_15 : decode b_M_isWanted 15 = .ok (.iload_n 2, 1) := by decide +kernel
theorem d_M_isWanted_16 : decode b_M_isWanted 16 = .ok (.ifCond .eq 27, 3) := by decide +kernel
theorem d_M_isWanted_19 : decode b_M_isWanted 19 = .ok (.aload_n 0, 1) := by decide +kernel
theorem d_M_isWanted_20 : decode b_M_isWanted 20 = .ok (.getfield 29, 3) := by decide +kernel
theorem d_M_isWanted_23 : decode b_M_isWanted 23 = .ok (.bipush 24, 2) := by decide +kernel
theorem d_M_isWanted_25 : decode b_M_isWanted 25 = .ok (.iload_n 1, 1) := by decide +kernel
theorem d_M_isWanted_26 : decode b_M_isWanted 26 = .ok (.imul, 1) := by decide +kernel
theorem d_M_isWanted_27 : decode b_M_isWanted 27 = .ok (.iload_n 3, 1) := by decide +kernel
theorem d_M_isWanted_28 : decode b_M_isWanted 28 = .ok (.iadd, 1) := by decide +kernel
theorem d_M_isWanted_29 : decode b_M_isWanted 29 = .ok (.iaload, 1) := by decide +kernel
theorem d_M_isWanted_30 : decode b_M_isWanted 30 = .ok (.aload_n 0, 1) := by decide +kernel
theorem d_M_isWanted_31 : decode b_M_isWanted 31 = .ok (.getfield 32, 3) := by decide +kernel
theorem d_M_isWanted_34 : decode b_M_isWanted 34 = .ok (.iload_n 3, 1) := by decide +kernel
theorem d_M_isWanted_35 : decode b_M_isWanted 35 = .ok (.iaload, 1) := by decide +kernel
theorem d_M_isWanted_36 : decode b_M_isWanted 36 = .ok (.if_icmp .ne 7, 3) := by decide +kernel
theorem d_M_isWanted_39 : decode b_M_isWanted 39 = .ok (.iconst 1, 1) := by decide +kernel
theorem d_M_isWanted_40 : decode b_M_isWanted 40 = .ok (.goto 4, 3) := by decide +kernel
theorem d_M_isWanted_43 : decode b_M_isWanted 43 = .ok (.iconst 0, 1) := by decide +kernel
theorem d_M_isWanted_44 : decode b_M_isWanted 44 = .ok (.istore_n 2, 1) := by decide +kernel
theorem d_M_isWanted_45 : decode b_M_isWanted 45 = .ok (.iinc 3 1, 3) := by decide +kernel
theorem d_M_isWanted_48 : decode b_M_isWanted 48 = .ok (.goto (-39), 3) := by decide +kernel
theorem d_M_isWanted_51 : decode b_M_isWanted 51 = .ok (.iload_n 2, 1) := by decide +kernel
theorem d_M_isWanted_52 : decode b_M_isWanted 52 = .ok (.ireturn, 1) := by decide +kernel
theorem d_M_found_0 : decode b_M_found 0 = .ok (.iconst 0, 1) := by decide +kernel
theorem d_M_found_1 : decode b_M_found 1 = .ok (.istore_n 2, 1) := by decide +kernel
theorem d_M_found_2 : decode b_M_found 2 = .ok (.iload_n 2, 1) := by decide +kernel
theorem d_M_found_3 : decode b_M_found 3 = .ok (.sipush 256, 3) := by decide +kernel
theorem d_M_found_6 : decode b_M_found 6 = .ok (.if_icmp .ge 19, 3) := by decide +kernel
theorem d_M_found_9 : decode b_M_found 9 = .ok (.aload_n 0, 1) := by decide +kernel
theorem d_M_found_10 : decode b_M_found 10 = .ok (.iload_n 2, 1) := by decide +kernel
theorem d_M_found_11 : decode b_M_found 11 = .ok (.invokevirtual 75, 3) := by decide +kernel
theorem d_M_found_14 : decode b_M_found 14 = .ok (.ifCond .eq 5, 3) := by decide +kernel
theorem d_M_found_17 : decode b_M_found 17 = .ok (.iload_n 2, 1) := by decide +kernel
theorem d_M_found_18 : decode b_M_found 18 = .ok (.ireturn, 1) := by decide +kernel
theorem d_M_found_19 : decode b_M_found 19 = .ok (.iinc 2 1, 3) := by decide +kernel
theorem d_M_found_22 : decode b_M_found 22 = .ok (.goto (-20), 3) := by decide +kernel
theorem d_M_found_25 : decode b_M_found 25 = .ok (.iconst 0, 1) := by decide +kernel
theorem d_M_found_26 : decode b_M_found 26 = .ok (.istore_n 2, 1) := by decide +kernel
theorem d_M_found_27 : decode b_M_found 27 = .ok (.iload_n 2, 1) := by decide +kernel
theorem d_M_found_28 : decode b_M_found 28 = .ok (.sipush 256, 3) := by decide +kernel
theorem d_M_found_31 : decode b_M_found 31 = .ok (.if_icmp .ge 18, 3) := by decide +kernel
theorem d_M_found_34 : decode b_M_found 34 = .ok (.aload_n 0, 1) := by decide +kernel
theorem d_M_found_35 : decode b_M_found 35 = .ok (.getfield 22, 3) := by decide +kernel
theorem d_M_found_38 : decode b_M_found 38 = .ok (.iload_n 2, 1) := by decide +kernel
theorem d_M_found_39 : decode b_M_found 39 = .ok (.baload, 1) := by decide +kernel
theorem d_M_found_40 : decode b_M_found 40 = .ok (.ifCond .eq 9, 3) := by decide +kernel
theorem d_M_found_43 : decode b_M_found 43 = .ok (.iinc 2 1, 3) := by decide +kernel
theorem d_M_found_46 : decode b_M_found 46 = .ok (.goto (-19), 3) := by decide +kernel
theorem d_M_found_49 : decode b_M_found 49 = .ok (.aload_n 0, 1) := by decide +kernel
theorem d_M_found_50 : decode b_M_found 50 = .ok (.iload_n 2, 1) := by decide +kernel
theorem d_M_found_51 : decode b_M_found 51 = .ok (.sipush 256, 3) := by decide +kernel
theorem d_M_found_54 : decode b_M_found 54 = .ok (.if_icmp .ne 7, 3) := by decide +kernel
theorem d_M_found_57 : decode b_M_found 57 = .ok (.iload_n 1, 1) := by decide +kernel
theorem d_M_found_58 : decode b_M_found 58 = .ok (.goto 4, 3) := by decide +kernel
theorem d_M_found_61 : decode b_M_found 61 = .ok (.iconst 0, 1) := by decide +kernel
theorem d_M_found_62 : decode b_M_found 62 = .ok (.putfield 35, 3) := by decide +kernel
theorem d_M_found_65 : decode b_M_found 65 = .ok (.aload_n 0, 1) := by decide +kernel
theorem d_M_found_66 : decode b_M_found 66 = .ok (.getfield 35, 3) := by decide +kernel
theorem d_M_found_69 : decode b_M_found 69 = .ok (.ifCond .le 5, 3) := by decide +kernel
theorem d_M_found_72 : decode b_M_found 72 = .ok (.iconst 0, 1) := by decide +kernel
theorem d_M_found_73 : decode b_M_found 73 = .ok (.ireturn, 1) := by decide +kernel
theorem d_M_found_74 : decode b_M_found 74 = .ok (.aload_n 0, 1) := by decide +kernel
theorem d_M_found_75 : decode b_M_found 75 = .ok (.getfield 22, 3) := by decide +kernel
theorem d_M_found_78 : decode b_M_found 78 = .ok (.iload_n 2, 1) := by decide +kernel
theorem d_M_found_79 : decode b_M_found 79 = .ok (.iconst 1, 1) := by decide +kernel
theorem d_M_found_80 : decode b_M_found 80 = .ok (.bastore, 1) := by decide +kernel
theorem d_M_found_81 : decode b_M_found 81 = .ok (.aload_n 0, 1) := by decide +kernel
theorem d_M_found_82 : decode b_M_found 82 = .ok (.getfield 26, 3) := by decide +kernel
theorem d_M_found_85 : decode b_M_found 85 = .ok (.iload_n 2, 1) := by decide +kernel
theorem d_M_found_86 : decode b_M_found 86 = .ok (.iconst 0, 1) := by decide +kernel
theorem d_M_found_87 : decode b_M_found 87 = .ok (.bastore, 1) := by decide +kernel
theorem d_M_found_88 : decode b_M_found 88 = .ok (.iconst 0, 1) := by decide +kernel
theorem d_M_found_89 : decode b_M_found 89 = .ok (.istore_n 3, 1) := by decide +kernel
theorem d_M_found_90 : decode b_M_found 90 = .ok (.iload_n 3, 1) := by decide +kernel
theorem d_M_found_91 : decode b_M_found 91 = .ok (.bipush 24, 2) := by decide +kernel
theorem d_M_found_93 : decode b_M_found 93 = .ok (.if_icmp .ge 26, 3) := by decide +kernel
theorem d_M_found_96 : decode b_M_found 96 = .ok (.aload_n 0, 1) := by decide +kernel
theorem d_M_found_97 : decode b_M_found 97 = .ok (.getfield 29, 3) := by decide +kernel
theorem d_M_found_100 : decode b_M_found 100 = .ok (.bipush 24, 2) := by decide +kernel
theorem d_M_found_102 : decode b_M_found 102 = .ok (.iload_n 2, 1) := by decide +kernel
theorem d_M_found_103 : decode b_M_found 103 = .ok (.imul, 1) := by decide +kernel
theorem d_M_found_104 : decode b_M_found 104 = .ok (.iload_n 3, 1) := by decide +kernel
theorem d_M_found_105 : decode b_M_found 105 = .ok (.iadd, 1) := by decide +kernel
theorem d_M_found_106 : decode b_M_found 106 = .ok (.aload_n 0, 1) := by decide +kernel
theorem d_M_found_107 : decode b_M_found 107 = .ok (.getfield 32, 3) := by decide +kernel
theorem d_M_found_110 : decode b_M_found 110 = .ok (.iload_n 3, 1) := by decide +kernel
theorem d_M_found_111 : decode b_M_found 111 = .ok (.iaload, 1) := by decide +kernel
theorem d_M_found_112 : decode b_M_found 112 = .ok (.iastore, 1) := by decide +kernel
theorem d_M_found_113 : decode b_M_found 113 = .ok (.iinc 3 1, 3) := by decide +kernel
theorem d_M_found_116 : decode b_M_found 116 = .ok (.goto (-26), 3) := by decide +kernel
theorem d_M_found_119 : decode b_M_found 119 = .ok (.iload_n 2, 1) := by decide +kernel
theorem d_M_found_120 : decode b_M_found 120 = .ok (.ireturn, 1) := by decide +kernel
theorem d_M_with_0 : decode b_M_with 0 = .ok (.aload_n 0, 1) := by decide +kernel
theorem d_M_with_1 : decode b_M_with 1 = .ok (.aload_n 0, 1) := by decide +kernel
theorem d_M_with_2 : decode b_M_with 2 = .ok (.iload_n 1, 1) := by decide +kernel
theorem d_M_with_3 : decode b_M_with 3 = .ok (.invokevirtual 78, 3) := by decide +kernel
theorem d_M_with_6 : decode b_M_with 6 = .ok (.ifCond .ne 7, 3) := by decide +kernel
theorem d_M_with_9 : decode b_M_with 9 = .ok (.iconst 1, 1) := by decide +kernel
theorem d_M_with_10 : decode b_M_with 10 = .ok (.goto 17, 3) := by decide +kernel
theorem d_M_with_13 : decode b_M_with 13 = .ok (.iload_n 2, 1) := by decide +kernel
theorem d_M_with_14 : decode b_M_with 14 = .ok (.iload_n 3, 1) := by decide +kernel
theorem d_M_with_15 : decode b_M_with 15 = .ok (.iconst (-1), 1) := by decide +kernel
theorem d_M_with_16 : decode b_M_with 16 = .ok (.invokestatic 58, 3) := by decide +kernel
theorem d_M_with_19 : decode b_M_with 19 = .ok (.ifCond .ne 7, 3) := by decide +kernel
theorem d_M_with_22 : decode b_M_with 22 = .ok (.iconst 2, 1) := by decide +kernel
theorem d_M_with_23 : decode b_M_with 23 = .ok (.goto 4, 3) := by decide +kernel
theorem d_M_with_26 : decode b_M_with 26 = .ok (.iconst 0, 1) := by decide +kernel
theorem d_M_with_27 : decode b_M_with 27 = .ok (.putfield 35, 3) := by decide +kernel
theorem d_M_with_30 : decode b_M_with 30 = .ok (.aload_n 0, 1) := by decide +kernel
theorem d_M_with_31 : decode b_M_with 31 = .ok (.getfield 35, 3) := by decide +kernel
theorem d_M_with_34 : decode b_M_with 34 = .ok (.ifCond .le 5, 3) := by decide +kernel
theorem d_M_with_37 : decode b_M_with 37 = .ok (.iconst 0, 1) := by decide +kernel
theorem d_M_with_38 : decode b_M_with 38 = .ok (.ireturn, 1) := by decide +kernel
theorem d_M_with_39 : decode b_M_with 39 = .ok (.aload_n 0, 1) := by decide +kernel
theorem d_M_with_40 : decode b_M_with 40 = .ok (.iload_n 1, 1) := by decide +kernel
theorem d_M_with_41 : decode b_M_with 41 = .ok (.invokevirtual 81, 3) := by decide +kernel
theorem d_M_with_44 : decode b_M_with 44 = .ok (.aload_n 0, 1) := by decide +kernel
theorem d_M_with_45 : decode b_M_with 45 = .ok (.getfield 32, 3) := by decide +kernel
theorem d_M_with_48 : decode b_M_with 48 = .ok (.iload_n 2, 1) := by decide +kernel
theorem d_M_with_49 : decode b_M_with 49 = .ok (.iload_n 3, 1) := by decide +kernel
theorem d_M_with_50 : decode b_M_with 50 = .ok (.iastore, 1) := by decide +kernel
theorem d_M_with_51 : decode b_M_with 51 = .ok (.aload_n 0, 1) := by decide +kernel
theorem d_M_with_52 : decode b_M_with 52 = .ok (.iconst 3, 1) := by decide +kernel
theorem d_M_with_53 : decode b_M_with 53 = .ok (.invokevirtual 85, 3) := by decide +kernel
theorem d_M_with_56 : decode b_M_with 56 = .ok (.ireturn, 1) := by decide +kernel
theorem d_M_over_0 : decode b_M_over 0 = .ok (.aload_n 0, 1) := by decide +kernel
theorem d_M_over_1 : decode b_M_over 1 = .ok (.aload_n 0, 1) := by decide +kernel
theorem d_M_over_2 : decode b_M_over 2 = .ok (.iload_n 1, 1) := by decide +kernel
theorem d_M_over_3 : decode b_M_over 3 = .ok (.invokevirtual 78, 3) := by decide +kernel
theorem d_M_over_6 : decode b_M_over 6 = .ok (.ifCond .eq 11, 3) := by decide +kernel
theorem d_M_over_9 : decode b_M_over 9 = .ok (.aload_n 0, 1) := by decide +kernel
theorem d_M_over_10 : decode b_M_over 10 = .ok (.iload_n 2, 1) := by decide +kernel
theorem d_M_over_11 : decode b_M_over 11 = .ok (.invokevirtual 78, 3) := by decide +kernel
theorem d_M_over_14 : decode b_M_over 14 = .ok (.ifCond .ne 7, 3) := by decide +kernel
theorem d_M_over_17 : decode b_M_over 17 = .ok (.iconst 1, 1) := by decide +kernel
theorem d_M_over_18 : decode b_M_over 18 = .ok (.goto 4, 3) := by decide +kernel
theorem d_M_over_21 : decode b_M_over 21 = .ok (.iconst 0, 1) := by decide +kernel
theorem d_M_over_22 : decode b_M_over 22 = .ok (.putfield 35, 3) := by decide +kernel
theorem d_M_over_25 : decode b_M_over 25 = .ok (.aload_n 0, 1) := by decide +kernel
theorem d_M_over_26 : decode b_M_over 26 = .ok (.getfield 35, 3) := by decide +kernel
theorem d_M_over_29 : decode b_M_over 29 = .ok (.ifCond .le 5, 3) := by decide +kernel
theorem d_M_over_32 : decode b_M_over 32 = .ok (.iconst 0, 1) := by decide +kernel
theorem d_M_over_33 : decode b_M_over 33 = .ok (.ireturn, 1) := by decide +kernel
theorem d_M_over_34 : decode b_M_over 34 = .ok (.aload_n 0, 1) := by decide +kernel
theorem d_M_over_35 : decode b_M_over 35 = .ok (.iload_n 1, 1) := by decide +kernel
theorem d_M_over_36 : decode b_M_over 36 = .ok (.invokevirtual 81, 3) := by decide +kernel
theorem d_M_over_39 : decode b_M_over 39 = .ok (.iconst 0, 1) := by decide +kernel
theorem d_M_over_40 : decode b_M_over 40 = .ok (.istore_n 3, 1) := by decide +kernel
theorem d_M_over_41 : decode b_M_over 41 = .ok (.iload_n 3, 1) := by decide +kernel
theorem d_M_over_42 : decode b_M_over 42 = .ok (.bipush 24, 2) := by decide +kernel
theorem d_M_over_44 : decode b_M_over 44 = .ok (.if_icmp .ge 49, 3) := by decide +kernel
theorem d_M_over_47 : decode b_M_over 47 = .ok (.aload_n 0, 1) := by decide +kernel
theorem d_M_over_48 : decode b_M_over 48 = .ok (.getfield 32, 3) := by decide +kernel
theorem d_M_over_51 : decode b_M_over 51 = .ok (.iload_n 3, 1) := by decide +kernel
theorem d_M_over_52 : decode b_M_over 52 = .ok (.aload_n 0, 1) := by decide +kernel
theorem d_M_over_53 : decode b_M_over 53 = .ok (.getfield 29, 3) := by decide +kernel
theorem d_M_over_56 : decode b_M_over 56 = .ok (.bipush 24, 2) := by decide +kernel
theorem d_M_over_58 : decode b_M_over 58 = .ok (.iload_n 2, 1) := by decide +kernel
theorem d_M_over_59 : decode b_M_over 59 = .ok (.imul, 1) := by decide +kernel
theorem d_M_over_60 : decode b_M_over 60 = .ok (.iload_n 3, 1) := by decide +kernel
theorem d_M_over_61 : decode b_M_over 61 = .ok (.iadd, 1) := by decide +kernel
theorem d_M_over_62 : decode b_M_over 62 = .ok (.iaload, 1) := by decide +kernel
theorem d_M_over_63 : decode b_M_over 63 = .ok (.ifCond .lt 17, 3) := by decide +kernel
theorem d_M_over_66 : decode b_M_over 66 = .ok (.aload_n 0, 1) := by decide +kernel
theorem d_M_over_67 : decode b_M_over 67 = .ok (.getfield 29, 3) := by decide +kernel
theorem d_M_over_70 : decode b_M_over 70 = .ok (.bipush 24, 2) := by decide +kernel
theorem d_M_over_72 : decode b_M_over 72 = .ok (.iload_n 2, 1) := by decide +kernel
theorem d_M_over_73 : decode b_M_over 73 = .ok (.imul, 1) := by decide +kernel
theorem d_M_over_74 : decode b_M_over 74 = .ok (.iload_n 3, 1) := by decide +kernel
theorem d_M_over_75 : decode b_M_over 75 = .ok (.iadd, 1) := by decide +kernel
theorem d_M_over_76 : decode b_M_over 76 = .ok (.iaload, 1) := by decide +kernel
theorem d_M_over_77 : decode b_M_over 77 = .ok (.goto 9, 3) := by decide +kernel
theorem d_M_over_80 : decode b_M_over 80 = .ok (.aload_n 0, 1) := by decide +kernel
theorem d_M_over_81 : decode b_M_over 81 = .ok (.getfield 32, 3) := by decide +kernel
theorem d_M_over_84 : decode b_M_over 84 = .ok (.iload_n 3, 1) := by decide +kernel
theorem d_M_over_85 : decode b_M_over 85 = .ok (.iaload, 1) := by decide +kernel
theorem d_M_over_86 : decode b_M_over 86 = .ok (.iastore, 1) := by decide +kernel
theorem d_M_over_87 : decode b_M_over 87 = .ok (.iinc 3 1, 3) := by decide +kernel
theorem d_M_over_90 : decode b_M_over 90 = .ok (.goto (-49), 3) := by decide +kernel
theorem d_M_over_93 : decode b_M_over 93 = .ok (.aload_n 0, 1) := by decide +kernel
theorem d_M_over_94 : decode b_M_over 94 = .ok (.iconst 2, 1) := by decide +kernel
theorem d_M_over_95 : decode b_M_over 95 = .ok (.invokevirtual 85, 3) := by decide +kernel
theorem d_M_over_98 : decode b_M_over 98 = .ok (.ireturn, 1) := by decide +kernel
theorem d_M_beneath_0 : decode b_M_beneath 0 = .ok (.aload_n 0, 1) := by decide +kernel
theorem d_M_beneath_1 : decode b_M_beneath 1 = .ok (.iload_n 1, 1) := by decide +kernel
theorem d_M_beneath_2 : decode b_M_beneath 2 = .ok (.iload_n 3, 1) := by decide +kernel
theorem d_M_beneath_3 : decode b_M_beneath 3 = .ok (.invokevirtual 65, 3) := by decide +kernel
theorem d_M_beneath_6 : decode b_M_beneath 6 = .ok (.istore 4, 2) := by decide +kernel
theorem d_M_beneath_8 : decode b_M_beneath 8 = .ok (.iload 4, 2) := by decide +kernel
theorem d_M_beneath_10 : decode b_M_beneath 10 = .ok (.ifCond .ge 12, 3) := by decide +kernel
theorem d_M_beneath_13 : decode b_M_beneath 13 = .ok (.aload_n 0, 1) := by decide +kernel
theorem d_M_beneath_14 : decode b_M_beneath 14 = .ok (.iload_n 2, 1) := by decide +kernel
theorem d_M_beneath_15 : decode b_M_beneath 15 = .ok (.iload_n 3, 1) := by decide +kernel
theorem d_M_beneath_16 : decode b_M_beneath 16 = .ok (.invokevirtual 65, 3) := by decide +kernel
theorem d_M_beneath_19 : decode b_M_beneath 19 = .ok (.goto 5, 3) := by decide +kernel
theorem d_M_beneath_22 : decode b_M_beneath 22 = .ok (.iload 4, 2) := by decide +kernel
theorem d_M_beneath_24 : decode b_M_beneath 24 = .ok (.istore 4, 2) := by decide +kernel
theorem d_M_beneath_26 : decode b_M_beneath 26 = .ok (.iload 4, 2) := by decide +kernel
theorem d_M_beneath_28 : decode b_M_beneath 28 = .ok (.ifCond .ge 12, 3) := by decide +kernel
theorem d_M_beneath_31 : decode b_M_beneath 31 = .ok (.aload_n 0, 1) := by decide +kernel
theorem d_M_beneath_32 : decode b_M_beneath 32 = .ok (.getfield 19, 3) := by decide +kernel
theorem d_M_beneath_35 : decode b_M_beneath 35 = .ok (.iload_n 3, 1) := by decide +kernel
theorem d_M_beneath_36 : decode b_M_beneath 36 = .ok (.iaload, 1) := by decide +kernel
theorem d_M_beneath_37 : decode b_M_beneath 37 = .ok (.goto 5, 3) := by decide +kernel
theorem d_M_beneath_40 : decode b_M_beneath 40 = .ok (.iload 4, 2) := by decide +kernel
theorem d_M_beneath_42 : decode b_M_beneath 42 = .ok (.ireturn, 1) := by decide +kernel
theorem d_M_areStyles_0 : decode b_M_areStyles 0 = .ok (.aload_n 0, 1) := by decide +kernel
theorem d_M_areStyles_1 : decode b_M_areStyles 1 = .ok (.iload_n 1, 1) := by decide +kernel
theorem d_M_areStyles_2 : decode b_M_areStyles 2 = .ok (.iconst 0, 1) := by decide +kernel
theorem d_M_areStyles_3 : decode b_M_areStyles 3 = .ok (.invokevirtual 51, 3) := by decide +kernel
theorem d_M_areStyles_6 : decode b_M_areStyles 6 = .ok (.ifCond .eq 16, 3) := by decide +kernel
theorem d_M_areStyles_9 : decode b_M_areStyles 9 = .ok (.aload_n 0, 1) := by decide +kernel
theorem d_M_areStyles_10 : decode b_M_areStyles 10 = .ok (.iload_n 2, 1) := by decide +kernel
theorem d_M_areStyles_11 : decode b_M_areStyles 11 = .ok (.iconst 1, 1) := by decide +kernel
theorem d_M_areStyles_12 : decode b_M_areStyles 12 = .ok (.invokevirtual 51, 3) := by decide +kernel
theorem d_M_areStyles_15 : decode b_M_areStyles 15 = .ok (.ifCond .eq 7, 3) := by decide +kernel
theorem d_M_areStyles_18 : decode b_M_areStyles 18 = .ok (.iconst 1, 1) := by decide +kernel
theorem d_M_areStyles_19 : decode b_M_areStyles 19 = .ok (.goto 4, 3) := by decide +kernel
theorem d_M_areStyles_22 : decode b_M_areStyles 22 = .ok (.iconst 0, 1) := by decide +kernel
theorem d_M_areStyles_23 : decode b_M_areStyles 23 = .ok (.ireturn, 1) := by decide +kernel
theorem d_M_lean_0 : decode b_M_lean 0 = .ok (.aload_n 0, 1) := by decide +kernel
theorem d_M_lean_1 : decode b_M_lean 1 = .ok (.aload_n 0, 1) := by decide +kernel
theorem d_M_lean_2 : decode b_M_lean 2 = .ok (.iload_n 1, 1) := by decide +kernel
theorem d_M_lean_3 : decode b_M_lean 3 = .ok (.invokevirtual 78, 3) := by decide +kernel
theorem d_M_lean_6 : decode b_M_lean 6 = .ok (.ifCond .ne 7, 3) := by decide +kernel
theorem d_M_lean_9 : decode b_M_lean 9 = .ok (.iconst 1, 1) := by decide +kernel
theorem d_M_lean_10 : decode b_M_lean 10 = .ok (.goto 17, 3) := by decide +kernel
theorem d_M_lean_13 : decode b_M_lean 13 = .ok (.aload_n 0, 1) := by decide +kernel
theorem d_M_lean_14 : decode b_M_lean 14 = .ok (.iload_n 2, 1) := by decide +kernel
theorem d_M_lean_15 : decode b_M_lean 15 = .ok (.iload_n 3, 1) := by decide +kernel
theorem d_M_lean_16 : decode b_M_lean 16 = .ok (.invokevirtual 88, 3) := by decide +kernel
theorem d_M_lean_19 : decode b_M_lean 19 = .ok (.ifCond .ne 7, 3) := by decide +kernel
theorem d_M_lean_22 : decode b_M_lean 22 = .ok (.iconst 2, 1) := by decide +kernel
theorem d_M_lean_23 : decode b_M_lean 23 = .ok (.goto 4, 3) := by decide +kernel
theorem d_M_lean_26 : decode b_M_lean 26 = .ok (.iconst 0, 1) := by decide +kernel
theorem d_M_lean_27 : decode b_M_lean 27 = .ok (.putfield 35, 3) := by decide +kernel
theorem d_M_lean_30 : decode b_M_lean 30 = .ok (.aload_n 0, 1) := by decide +kernel
theorem d_M_lean_31 : decode b_M_lean 31 = .ok (.getfield 35, 3) := by decide +kernel
theorem d_M_lean_34 : decode b_M_lean 34 = .ok (.ifCond .le 5, 3) := by decide +kernel
theorem d_M_lean_37 : decode b_M_lean 37 = .ok (.iconst 0, 1) := by decide +kernel
theorem d_M_lean_38 : decode b_M_lean 38 = .ok (.ireturn, 1) := by decide +kernel
theorem d_M_lean_39 : decode b_M_lean 39 = .ok (.aload_n 0, 1) := by decide +kernel
theorem d_M_lean_40 : decode b_M_lean 40 = .ok (.iload_n 1, 1) := by decide +kernel
theorem d_M_lean_41 : decode b_M_lean 41 = .ok (.invokevirtual 81, 3) := by decide +kernel
theorem d_M_lean_44 : decode b_M_lean 44 = .ok (.iconst 0, 1) := by decide +kernel
theorem d_M_lean_45 : decode b_M_lean 45 = .ok (.istore 4, 2) := by decide +kernel
theorem d_M_lean_47 : decode b_M_lean 47 = .ok (.iload 4, 2) := by decide +kernel
theorem d_M_lean_49 : decode b_M_lean 49 = .ok (.bipush 24, 2) := by decide +kernel
theorem d_M_lean_51 : decode b_M_lean 51 = .ok (.if_icmp .ge 45, 3) := by decide +kernel
theorem d_M_lean_54 : decode b_M_lean 54 = .ok (.aload_n 0, 1) := by decide +kernel
theorem d_M_lean_55 : decode b_M_lean 55 = .ok (.getfield 32, 3) := by decide +kernel
theorem d_M_lean_58 : decode b_M_lean 58 = .ok (.iload 4, 2) := by decide +kernel
theorem d_M_lean_60 : decode b_M_lean 60 = .ok (.aload_n 0, 1) := by decide +kernel
theorem d_M_lean_61 : decode b_M_lean 61 = .ok (.getfield 32, 3) := by decide +kernel
theorem d_M_lean_64 : decode b_M_lean 64 = .ok (.iload 4, 2) := by decide +kernel
theorem d_M_lean_66 : decode b_M_lean 66 = .ok (.iaload, 1) := by decide +kernel
theorem d_M_lean_67 : decode b_M_lean 67 = .ok (.aload_n 0, 1) := by decide +kernel
theorem d_M_lean_68 : decode b_M_lean 68 = .ok (.iload_n 2, 1) := by decide +kernel
theorem d_M_lean_69 : decode b_M_lean 69 = .ok (.iload_n 3, 1) := by decide +kernel
theorem d_M_lean_70 : decode b_M_lean 70 = .ok (.iload 4, 2) := by decide +kernel
theorem d_M_lean_72 : decode b_M_lean 72 = .ok (.invokevirtual 91, 3) := by decide +kernel
theorem d_M_lean_75 : decode b_M_lean 75 = .ok (.if_icmp .ne 7, 3) := by decide +kernel
theorem d_M_lean_78 : decode b_M_lean 78 = .ok (.iconst (-1), 1) := by decide +kernel
theorem d_M_lean_79 : decode b_M_lean 79 = .ok (.goto 10, 3) := by decide +kernel
theorem d_M_lean_82 : decode b_M_lean 82 = .ok (.aload_n 0, 1) := by decide +kernel
theorem d_M_lean_83 : decode b_M_lean 83 = .ok (.getfield 32, 3) := by decide +kernel
theorem d_M_lean_86 : decode b_M_lean 86 = .ok (.iload 4, 2) := by decide +kernel
theorem d_M_lean_88 : decode b_M_lean 88 = .ok (.iaload, 1) := by decide +kernel
theorem d_M_lean_89 : decode b_M_lean 89 = .ok (.iastore, 1) := by decide +kernel
theorem d_M_lean_90 : decode b_M_lean 90 = .ok (.iinc 4 1, 3) := by decide +kernel
theorem d_M_lean_93 : decode b_M_lean 93 = .ok (.goto (-46), 3) := by decide +kernel
theorem d_M_lean_96 : decode b_M_lean 96 = .ok (.aload_n 0, 1) := by decide +kernel
theorem d_M_lean_97 : decode b_M_lean 97 = .ok (.iconst 3, 1) := by decide +kernel
theorem d_M_lean_98 : decode b_M_lean 98 = .ok (.invokevirtual 85, 3) := by decide +kernel
theorem d_M_lean_101 : decode b_M_lean 101 = .ok (.ireturn, 1) := by decide +kernel
theorem d_M_get_0 : decode b_M_get 0 = .ok (.aload_n 0, 1) := by decide +kernel
theorem d_M_get_1 : decode b_M_get 1 = .ok (.aload_n 0, 1) := by decide +kernel
theorem d_M_get_2 : decode b_M_get 2 = .ok (.iload_n 1, 1) := by decide +kernel
theorem d_M_get_3 : decode b_M_get 3 = .ok (.invokevirtual 78, 3) := by decide +kernel
theorem d_M_get_6 : decode b_M_get 6 = .ok (.ifCond .ne 7, 3) := by decide +kernel
theorem d_M_get_9 : decode b_M_get 9 = .ok (.iconst 1, 1) := by decide +kernel
theorem d_M_get_10 : decode b_M_get 10 = .ok (.goto 15, 3) := by decide +kernel
theorem d_M_get_13 : decode b_M_get 13 = .ok (.iload_n 2, 1) := by decide +kernel
theorem d_M_get_14 : decode b_M_get 14 = .ok (.invokestatic 47, 3) := by decide +kernel
theorem d_M_get_17 : decode b_M_get 17 = .ok (.ifCond .ne 7, 3) := by decide +kernel
theorem d_M_get_20 : decode b_M_get 20 = .ok (.iconst 2, 1) := by decide +kernel
theorem d_M_get_21 : decode b_M_get 21 = .ok (.goto 4, 3) := by decide +kernel
theorem d_M_get_24 : decode b_M_get 24 = .ok (.iconst 0, 1) := by decide +kernel
theorem d_M_get_25 : decode b_M_get 25 = .ok (.putfield 35, 3) := by decide +kernel
theorem d_M_get_28 : decode b_M_get 28 = .ok (.aload_n 0, 1) := by decide +kernel
theorem d_M_get_29 : decode b_M_get 29 = .ok (.getfield 35, 3) := by decide +kernel
theorem d_M_get_32 : decode b_M_get 32 = .ok (.ifCond .le 7, 3) := by decide +kernel
theorem d_M_get_35 : decode b_M_get 35 = .ok (.iconst 0, 1) := by decide +kernel
theorem d_M_get_36 : decode b_M_get 36 = .ok (.goto 14, 3) := by decide +kernel
theorem d_M_get_39 : decode b_M_get 39 = .ok (.aload_n 0, 1) := by decide +kernel
theorem d_M_get_40 : decode b_M_get 40 = .ok (.getfield 29, 3) := by decide +kernel
theorem d_M_get_43 : decode b_M_get 43 = .ok (.bipush 24, 2) := by decide +kernel
theorem d_M_get_45 : decode b_M_get 45 = .ok (.iload_n 1, 1) := by decide +kernel
theorem d_M_get_46 : decode b_M_get 46 = .ok (.imul, 1) := by decide +kernel
theorem d_M_get_47 : decode b_M_get 47 = .ok (.iload_n 2, 1) := by decide +kernel
theorem d_M_get_48 : decode b_M_get 48 = .ok (.iadd, 1) := by decide +kernel
theorem d_M_get_49 : decode b_M_get 49 = .ok (.iaload, 1) := by decide +kernel
theorem d_M_get_50 : decode b_M_get 50 = .ok (.ireturn, 1) := by decide +kernel
theorem d_M_sized_0 : decode b_M_sized 0 = .ok (.iconst 0, 1) := by decide +kernel
theorem d_M_sized_1 : decode b_M_sized 1 = .ok (.istore_n 2, 1) := by decide +kernel
theorem d_M_sized_2 : decode b_M_sized 2 = .ok (.iconst 0, 1) := by decide +kernel
theorem d_M_sized_3 : decode b_M_sized 3 = .ok (.istore_n 3, 1) := by decide +kernel
theorem d_M_sized_4 : decode b_M_sized 4 = .ok (.iload_n 3, 1) := by decide +kernel
theorem d_M_sized_5 : decode b_M_sized 5 = .ok (.bipush 24, 2) := by decide +kernel
theorem d_M_sized_7 : decode b_M_sized 7 = .ok (.if_icmp .ge 31, 3) := by decide +kernel
theorem d_M_sized_10 : decode b_M_sized 10 = .ok (.iload_n 2, 1) := by decide +kernel
theorem d_M_sized_11 : decode b_M_sized 11 = .ok (.aload_n 0, 1) := by decide +kernel
theorem d_M_sized_12 : decode b_M_sized 12 = .ok (.getfield 29, 3) := by decide +kernel
theorem d_M_sized_15 : decode b_M_sized 15 = .ok (.bipush 24, 2) := by decide +kernel
theorem d_M_sized_17 : decode b_M_sized 17 = .ok (.iload_n 1, 1) := by decide +kernel
theorem d_M_sized_18 : decode b_M_sized 18 = .ok (.imul, 1) := by decide +kernel
theorem d_M_sized_19 : decode b_M_sized 19 = .ok (.iload_n 3, 1) := by decide +kernel
theorem d_M_sized_20 : decode b_M_sized 20 = .ok (.iadd, 1) := by decide +kernel
theorem d_M_sized_21 : decode b_M_sized 21 = .ok (.iaload, 1) := by decide +kernel
theorem d_M_sized_22 : decode b_M_sized 22 = .ok (.ifCond .lt 7, 3) := by decide +kernel
theorem d_M_sized_25 : decode b_M_sized 25 = .ok (.iconst 1, 1) := by decide +kernel
theorem d_M_sized_26 : decode b_M_sized 26 = .ok (.goto 4, 3) := by decide +kernel
theorem d_M_sized_29 : decode b_M_sized 29 = .ok (.iconst 0, 1) := by decide +kernel
theorem d_M_sized_30 : decode b_M_sized 30 = .ok (.iadd, 1) := by decide +kernel
theorem d_M_sized_31 : decode b_M_sized 31 = .ok (.istore_n 2, 1) := by decide +kernel
theorem d_M_sized_32 : decode b_M_sized 32 = .ok (.iinc 3 1, 3) := by decide +kernel
theorem d_M_sized_35 : decode b_M_sized 35 = .ok (.goto (-31), 3) := by decide +kernel
theorem d_M_sized_38 : decode b_M_sized 38 = .ok (.iload_n 2, 1) := by decide +kernel
theorem d_M_sized_39 : decode b_M_sized 39 = .ok (.ireturn, 1) := by decide +kernel
theorem d_M_size_0 : decode b_M_size 0 = .ok (.aload_n 0, 1) := by decide +kernel
theorem d_M_size_1 : decode b_M_size 1 = .ok (.iconst 0, 1) := by decide +kernel
theorem d_M_size_2 : decode b_M_size 2 = .ok (.putfield 35, 3) := by decide +kernel
theorem d_M_size_5 : decode b_M_size 5 = .ok (.aload_n 0, 1) := by decide +kernel
theorem d_M_size_6 : decode b_M_size 6 = .ok (.iload_n 1, 1) := by decide +kernel
theorem d_M_size_7 : decode b_M_size 7 = .ok (.invokevirtual 78, 3) := by decide +kernel
theorem d_M_size_10 : decode b_M_size 10 = .ok (.ifCond .eq 11, 3) := by decide +kernel
theorem d_M_size_13 : decode b_M_size 13 = .ok (.aload_n 0, 1) := by decide +kernel
theorem d_M_size_14 : decode b_M_size 14 = .ok (.iload_n 1, 1) := by decide +kernel
theorem d_M_size_15 : decode b_M_size 15 = .ok (.invokevirtual 95, 3) := by decide +kernel
theorem d_M_size_18 : decode b_M_size 18 = .ok (.goto 4, 3) := by decide +kernel
theorem d_M_size_21 : decode b_M_size 21 = .ok (.iconst (-1), 1) := by decide +kernel
theorem d_M_size_22 : decode b_M_size 22 = .ok (.ireturn, 1) := by decide +kernel
theorem d_M_resolved_0 : decode b_M_resolved 0 = .ok (.aload_n 0, 1) := by decide +kernel
theorem d_M_resolved_1 : decode b_M_resolved 1 = .ok (.getfield 29, 3) := by decide +kernel
theorem d_M_resolved_4 : decode b_M_resolved 4 = .ok (.bipush 24, 2) := by decide +kernel
theorem d_M_resolved_6 : decode b_M_resolved 6 = .ok (.iload_n 1, 1) := by decide +kernel
theorem d_M_resolved_7 : decode b_M_resolved 7 = .ok (.imul, 1) := by decide +kernel
theorem d_M_resolved_8 : decode b_M_resolved 8 = .ok (.iload 4, 2) := by decide +kernel
theorem d_M_resolved_10 : decode b_M_resolved 10 = .ok (.iadd, 1) := by decide +kernel
theorem d_M_resolved_11 : decode b_M_resolved 11 = .ok (.iaload, 1) := by decide +kernel
theorem d_M_resolved_12 : decode b_M_resolved 12 = .ok (.istore 5, 2) := by decide +kernel
theorem d_M_resolved_14 : decode b_M_resolved 14 = .ok (.iload 5, 2) := by decide +kernel
theorem d_M_resolved_16 : decode b_M_resolved 16 = .ok (.ifCond .ge 14, 3) := by decide +kernel
theorem d_M_resolved_19 : decode b_M_resolved 19 = .ok (.aload_n 0, 1) := by decide +kernel
theorem d_M_resolved_20 : decode b_M_resolved 20 = .ok (.iload_n 2, 1) := by decide +kernel
theorem d_M_resolved_21 : decode b_M_resolved 21 = .ok (.iload_n 3, 1) := by decide +kernel
theorem d_M_resolved_22 : decode b_M_resolved 22 = .ok (.iload 4, 2) := by decide +kernel
theorem d_M_resolved_24 : decode b_M_resolved 24 = .ok (.invokevirtual 91, 3) := by decide +kernel
theorem d_M_resolved_27 : decode b_M_resolved 27 = .ok (.goto 5, 3) := by decide +kernel
theorem d_M_resolved_30 : decode b_M_resolved 30 = .ok (.iload 5, 2) := by decide +kernel
theorem d_M_resolved_32 : decode b_M_resolved 32 = .ok (.ireturn, 1) := by decide +kernel
theorem d_M_resolve_0 : decode b_M_resolve 0 = .ok (.aload_n 0, 1) := by decide +kernel
theorem d_M_resolve_1 : decode b_M_resolve 1 = .ok (.aload_n 0, 1) := by decide +kernel
theorem d_M_resolve_2 : decode b_M_resolve 2 = .ok (.iload_n 1, 1) := by decide +kernel
theorem d_M_resolve_3 : decode b_M_resolve 3 = .ok (.invokevirtual 78, 3) := by decide +kernel
theorem d_M_resolve_6 : decode b_M_resolve 6 = .ok (.ifCond .ne 7, 3) := by decide +kernel
theorem d_M_resolve_9 : decode b_M_resolve 9 = .ok (.iconst 1, 1) := by decide +kernel
theorem d_M_resolve_10 : decode b_M_resolve 10 = .ok (.goto 25, 3) := by decide +kernel
theorem d_M_resolve_13 : decode b_M_resolve 13 = .ok (.aload_n 0, 1) := by decide +kernel
theorem d_M_resolve_14 : decode b_M_resolve 14 = .ok (.iload_n 2, 1) := by decide +kernel
theorem d_M_resolve_15 : decode b_M_resolve 15 = .ok (.iload_n 3, 1) := by decide +kernel
theorem d_M_resolve_16 : decode b_M_resolve 16 = .ok (.invokevirtual 88, 3) := by decide +kernel
theorem d_M_resolve_19 : decode b_M_resolve 19 = .ok (.ifCond .eq 11, 3) := by decide +kernel
theorem d_M_resolve_22 : decode b_M_resolve 22 = .ok (.iload 4, 2) := by decide +kernel
theorem d_M_resolve_24 : decode b_M_resolve 24 = .ok (.invokestatic 47, 3) := by decide +kernel
theorem d_M_resolve_27 : decode b_M_resolve 27 = .ok (.ifCond .ne 7, 3) := by decide +kernel
theorem d_M_resolve_30 : decode b_M_resolve 30 = .ok (.iconst 2, 1) := by decide +kernel
theorem d_M_resolve_31 : decode b_M_resolve 31 = .ok (.goto 4, 3) := by decide +kernel
theorem d_M_resolve_34 : decode b_M_resolve 34 = .ok (.iconst 0, 1) := by decide +kernel
theorem d_M_resolve_35 : decode b_M_resolve 35 = .ok (.putfield 35, 3) := by decide +kernel
theorem d_M_resolve_38 : decode b_M_resolve 38 = .ok (.aload_n 0, 1) := by decide +kernel
theorem d_M_resolve_39 : decode b_M_resolve 39 = .ok (.getfield 35, 3) := by decide +kernel
theorem d_M_resolve_42 : decode b_M_resolve 42 = .ok (.ifCond .le 7, 3) := by decide +kernel
theorem d_M_resolve_45 : decode b_M_resolve 45 = .ok (.iconst 0, 1) := by decide +kernel
theorem d_M_resolve_46 : decode b_M_resolve 46 = .ok (.goto 12, 3) := by decide +kernel
theorem d_M_resolve_49 : decode b_M_resolve 49 = .ok (.aload_n 0, 1) := by decide +kernel
theorem d_M_resolve_50 : decode b_M_resolve 50 = .ok (.iload_n 1, 1) := by decide +kernel
theorem d_M_resolve_51 : decode b_M_resolve 51 = .ok (.iload_n 2, 1) := by decide +kernel
theorem d_M_resolve_52 : decode b_M_resolve 52 = .ok (.iload_n 3, 1) := by decide +kernel
theorem d_M_resolve_53 : decode b_M_resolve 53 = .ok (.iload 4, 2) := by decide +kernel
theorem d_M_resolve_55 : decode b_M_resolve 55 = .ok (.invokevirtual 98, 3) := by decide +kernel
theorem d_M_resolve_58 : decode b_M_resolve 58 = .ok (.ireturn, 1) := by decide +kernel
theorem d_M_differ_0 : decode b_M_differ 0 = .ok (.aload_n 0, 1) := by decide +kernel
theorem d_M_differ_1 : decode b_M_differ 1 = .ok (.aload_n 0, 1) := by decide +kernel
theorem d_M_differ_2 : decode b_M_differ 2 = .ok (.iload_n 1, 1) := by decide +kernel
theorem d_M_differ_3 : decode b_M_differ 3 = .ok (.invokevirtual 78, 3) := by decide +kernel
theorem d_M_differ_6 : decode b_M_differ 6 = .ok (.ifCond .eq 11, 3) := by decide +kernel
theorem d_M_differ_9 : decode b_M_differ 9 = .ok (.aload_n 0, 1) := by decide +kernel
theorem d_M_differ_10 : decode b_M_differ 10 = .ok (.iload_n 2, 1) := by decide +kernel
theorem d_M_differ_11 : decode b_M_differ 11 = .ok (.invokevirtual 78, 3) := by decide +kernel
theorem d_M_differ_14 : decode b_M_differ 14 = .ok (.ifCond .ne 7, 3) := by decide +kernel
theorem d_M_differ_17 : decode b_M_differ 17 = .ok (.iconst 1, 1) := by decide +kernel
theorem d_M_differ_18 : decode b_M_differ 18 = .ok (.goto 18, 3) := by decide +kernel
theorem d_M_differ_21 : decode b_M_differ 21 = .ok (.aload_n 0, 1) := by decide +kernel
theorem d_M_differ_22 : decode b_M_differ 22 = .ok (.iload_n 3, 1) := by decide +kernel
theorem d_M_differ_23 : decode b_M_differ 23 = .ok (.iload 4, 2) := by decide +kernel
theorem d_M_differ_25 : decode b_M_differ 25 = .ok (.invokevirtual 88, 3) := by decide +kernel
theorem d_M_differ_28 : decode b_M_differ 28 = .ok (.ifCond .ne 7, 3) := by decide +kernel
theorem d_M_differ_31 : decode b_M_differ 31 = .ok (.iconst 2, 1) := by decide +kernel
theorem d_M_differ_32 : decode b_M_differ 32 = .ok (.goto 4, 3) := by decide +kernel
theorem d_M_differ_35 : decode b_M_differ 35 = .ok (.iconst 0, 1) := by decide +kernel
theorem d_M_differ_36 : decode b_M_differ 36 = .ok (.putfield 35, 3) := by decide +kernel
theorem d_M_differ_39 : decode b_M_differ 39 = .ok (.aload_n 0, 1) := by decide +kernel
theorem d_M_differ_40 : decode b_M_differ 40 = .ok (.getfield 35, 3) := by decide +kernel
theorem d_M_differ_43 : decode b_M_differ 43 = .ok (.ifCond .le 5, 3) := by decide +kernel
theorem d_M_differ_46 : decode b_M_differ 46 = .ok (.iconst 0, 1) := by decide +kernel
theorem d_M_differ_47 : decode b_M_differ 47 = .ok (.ireturn, 1) := by decide +kernel
theorem d_M_differ_48 : decode b_M_differ 48 = .ok (.iconst 0, 1) := by decide +kernel
theorem d_M_differ_49 : decode b_M_differ 49 = .ok (.istore 5, 2) := by decide +kernel
theorem d_M_differ_51 : decode b_M_differ 51 = .ok (.iload 5, 2) := by decide +kernel
theorem d_M_differ_53 : decode b_M_differ 53 = .ok (.bipush 24, 2) := by decide +kernel
theorem d_M_differ_55 : decode b_M_differ 55 = .ok (.if_icmp .ge 32, 3) := by decide +kernel
theorem d_M_differ_58 : decode b_M_differ 58 = .ok (.aload_n 0, 1) := by decide +kernel
theorem d_M_differ_59 : decode b_M_differ 59 = .ok (.iload_n 1, 1) := by decide +kernel
theorem d_M_differ_60 : decode b_M_differ 60 = .ok (.iload_n 3, 1) := by decide +kernel
theorem d_M_differ_61 : decode b_M_differ 61 = .ok (.iload 4, 2) := by decide +kernel
theorem d_M_differ_63 : decode b_M_differ 63 = .ok (.iload 5, 2) := by decide +kernel
theorem d_M_differ_65 : decode b_M_differ 65 = .ok (.invokevirtual 98, 3) := by decide +kernel
theorem d_M_differ_68 : decode b_M_differ 68 = .ok (.aload_n 0, 1) := by decide +kernel
theorem d_M_differ_69 : decode b_M_differ 69 = .ok (.iload_n 2, 1) := by decide +kernel
theorem d_M_differ_70 : decode b_M_differ 70 = .ok (.iload_n 3, 1) := by decide +kernel
theorem d_M_differ_71 : decode b_M_differ 71 = .ok (.iload 4, 2) := by decide +kernel
theorem d_M_differ_73 : decode b_M_differ 73 = .ok (.iload 5, 2) := by decide +kernel
theorem d_M_differ_75 : decode b_M_differ 75 = .ok (.invokevirtual 98, 3) := by decide +kernel
theorem d_M_differ_78 : decode b_M_differ 78 = .ok (.if_icmp .ne 9, 3) := by decide +kernel
theorem d_M_differ_81 : decode b_M_differ 81 = .ok (.iinc 5 1, 3) := by decide +kernel
theorem d_M_differ_84 : decode b_M_differ 84 = .ok (.goto (-33), 3) := by decide +kernel
theorem d_M_differ_87 : decode b_M_differ 87 = .ok (.iload 5, 2) := by decide +kernel
theorem d_M_differ_89 : decode b_M_differ 89 = .ok (.bipush 24, 2) := by decide +kernel
theorem d_M_differ_91 : decode b_M_differ 91 = .ok (.if_icmp .ge 8, 3) := by decide +kernel
theorem d_M_differ_94 : decode b_M_differ 94 = .ok (.iload 5, 2) := by decide +kernel
theorem d_M_differ_96 : decode b_M_differ 96 = .ok (.goto 4, 3) := by decide +kernel
theorem d_M_differ_99 : decode b_M_differ 99 = .ok (.iconst (-1), 1) := by decide +kernel
theorem d_M_differ_100 : decode b_M_differ 100 = .ok (.ireturn, 1) := by decide +kernel
theorem d_M_mark_0 : decode b_M_mark 0 = .ok (.aload_n 0, 1) := by decide +kernel
theorem d_M_mark_1 : decode b_M_mark 1 = .ok (.aload_n 0, 1) := by decide +kernel
theorem d_M_mark_2 : decode b_M_mark 2 = .ok (.iload_n 1, 1) := by decide +kernel
theorem d_M_mark_3 : decode b_M_mark 3 = .ok (.invokevirtual 78, 3) := by decide +kernel
theorem d_M_mark_6 : decode b_M_mark 6 = .ok (.ifCond .eq 7, 3) := by decide +kernel
theorem d_M_mark_9 : decode b_M_mark 9 = .ok (.iconst 0, 1) := by decide +kernel
theorem d_M_mark_10 : decode b_M_mark 10 = .ok (.goto 4, 3) := by decide +kernel
theorem d_M_mark_13 : decode b_M_mark 13 = .ok (.iconst 1, 1) := by decide +kernel
theorem d_M_mark_14 : decode b_M_mark 14 = .ok (.putfield 35, 3) := by decide +kernel
theorem d_M_mark_17 : decode b_M_mark 17 = .ok (.aload_n 0, 1) := by decide +kernel
theorem d_M_mark_18 : decode b_M_mark 18 = .ok (.getfield 35, 3) := by decide +kernel
theorem d_M_mark_21 : decode b_M_mark 21 = .ok (.ifCond .le 5, 3) := by decide +kernel
theorem d_M_mark_24 : decode b_M_mark 24 = .ok (.iconst 0, 1) := by decide +kernel
theorem d_M_mark_25 : decode b_M_mark 25 = .ok (.ireturn, 1) := by decide +kernel
theorem d_M_mark_26 : decode b_M_mark 26 = .ok (.aload_n 0, 1) := by decide +kernel
theorem d_M_mark_27 : decode b_M_mark 27 = .ok (.getfield 26, 3) := by decide +kernel
theorem d_M_mark_30 : decode b_M_mark 30 = .ok (.iload_n 1, 1) := by decide +kernel
theorem d_M_mark_31 : decode b_M_mark 31 = .ok (.iconst 1, 1) := by decide +kernel
theorem d_M_mark_32 : decode b_M_mark 32 = .ok (.bastore, 1) := by decide +kernel
theorem d_M_mark_33 : decode b_M_mark 33 = .ok (.iconst 0, 1) := by decide +kernel
theorem d_M_mark_34 : decode b_M_mark 34 = .ok (.istore_n 2, 1) := by decide +kernel
theorem d_M_mark_35 : decode b_M_mark 35 = .ok (.iconst 0, 1) := by decide +kernel
theorem d_M_mark_36 : decode b_M_mark 36 = .ok (.istore_n 3, 1) := by decide +kernel
theorem d_M_mark_37 : decode b_M_mark 37 = .ok (.iload_n 3, 1) := by decide +kernel
theorem d_M_mark_38 : decode b_M_mark 38 = .ok (.sipush 256, 3) := by decide +kernel
theorem d_M_mark_41 : decode b_M_mark 41 = .ok (.if_icmp .ge 35, 3) := by decide +kernel
theorem d_M_mark_44 : decode b_M_mark 44 = .ok (.iload_n 2, 1) := by decide +kernel
theorem d_M_mark_45 : decode b_M_mark 45 = .ok (.aload_n 0, 1) := by decide +kernel
theorem d_M_mark_46 : decode b_M_mark 46 = .ok (.getfield 22, 3) := by decide +kernel
theorem d_M_mark_49 : decode b_M_mark 49 = .ok (.iload_n 3, 1) := by decide +kernel
theorem d_M_mark_50 : decode b_M_mark 50 = .ok (.baload, 1) := by decide +kernel
theorem d_M_mark_51 : decode b_M_mark 51 = .ok (.ifCond .eq 16, 3) := by decide +kernel
theorem d_M_mark_54 : decode b_M_mark 54 = .ok (.aload_n 0, 1) := by decide +kernel
theorem d_M_mark_55 : decode b_M_mark 55 = .ok (.getfield 26, 3) := by decide +kernel
theorem d_M_mark_58 : decode b_M_mark 58 = .ok (.iload_n 3, 1) := by decide +kernel
theorem d_M_mark_59 : decode b_M_mark 59 = .ok (.baload, 1) := by decide +kernel
theorem d_M_mark_60 : decode b_M_mark 60 = .ok (.ifCond .eq 7, 3) := by decide +kernel
theorem d_M_mark_63 : decode b_M_mark 63 = .ok (.iconst 1, 1) := by decide +kernel
theorem d_M_mark_64 : decode b_M_mark 64 = .ok (.goto 4, 3) := by decide +kernel
theorem d_M_mark_67 : decode b_M_mark 67 = .ok (.iconst 0, 1) := by decide +kernel
theorem d_M_mark_68 : decode b_M_mark 68 = .ok (.iadd, 1) := by decide +kernel
theorem d_M_mark_69 : decode b_M_mark 69 = .ok (.istore_n 2, 1) := by decide +kernel
theorem d_M_mark_70 : decode b_M_mark 70 = .ok (.iinc 3 1, 3) := by decide +kernel
theorem d_M_mark_73 : decode b_M_mark 73 = .ok (.goto (-36), 3) := by decide +kernel
theorem d_M_mark_76 : decode b_M_mark 76 = .ok (.iload_n 2, 1) := by decide +kernel
theorem d_M_mark_77 : decode b_M_mark 77 = .ok (.ireturn, 1) := by decide +kernel
theorem d_M_sweep_0 : decode b_M_sweep 0 = .ok (.aload_n 0, 1) := by decide +kernel
theorem d_M_sweep_1 : decode b_M_sweep 1 = .ok (.iconst 0, 1) := by decide +kernel
theorem d_M_sweep_2 : decode b_M_sweep 2 = .ok (.putfield 35, 3) := by decide +kernel
theorem d_M_sweep_5 : decode b_M_sweep 5 = .ok (.iconst 0, 1) := by decide +kernel
theorem d_M_sweep_6 : decode b_M_sweep 6 = .ok (.istore_n 1, 1) := by decide +kernel
theorem d_M_sweep_7 : decode b_M_sweep 7 = .ok (.iconst 0, 1) := by decide +kernel
theorem d_M_sweep_8 : decode b_M_sweep 8 = .ok (.istore_n 2, 1) := by decide +kernel
theorem d_M_sweep_9 : decode b_M_sweep 9 = .ok (.iload_n 2, 1) := by decide +kernel
theorem d_M_sweep_10 : decode b_M_sweep 10 = .ok (.sipush 256, 3) := by decide +kernel
theorem d_M_sweep_13 : decode b_M_sweep 13 = .ok (.if_icmp .ge 48, 3) := by decide +kernel
theorem d_M_sweep_16 : decode b_M_sweep 16 = .ok (.iload_n 2, 1) := by decide +kernel
theorem d_M_sweep_17 : decode b_M_sweep 17 = .ok (.ifCond .le 31, 3) := by decide +kernel
theorem d_M_sweep_20 : decode b_M_sweep 20 = .ok (.aload_n 0, 1) := by decide +kernel
theorem d_M_sweep_21 : decode b_M_sweep 21 = .ok (.getfield 22, 3) := by decide +kernel
theorem d_M_sweep_24 : decode b_M_sweep 24 = .ok (.iload_n 2, 1) := by decide +kernel
theorem d_M_sweep_25 : decode b_M_sweep 25 = .ok (.baload, 1) := by decide +kernel
theorem d_M_sweep_26 : decode b_M_sweep 26 = .ok (.ifCond .eq 22, 3) := by decide +kernel
theorem d_M_sweep_29 : decode b_M_sweep 29 = .ok (.aload_n 0, 1) := by decide +kernel
theorem d_M_sweep_30 : decode b_M_sweep 30 = .ok (.getfield 26, 3) := by decide +kernel
theorem d_M_sweep_33 : decode b_M_sweep 33 = .ok (.iload_n 2, 1) := by decide +kernel
theorem d_M_sweep_34 : decode b_M_sweep 34 = .ok (.baload, 1) := by decide +kernel
theorem d_M_sweep_35 : decode b_M_sweep 35 = .ok (.ifCond .ne 13, 3) := by decide +kernel
theorem d_M_sweep_38 : decode b_M_sweep 38 = .ok (.aload_n 0, 1) := by decide +kernel
theorem d_M_sweep_39 : decode b_M_sweep 39 = .ok (.getfield 22, 3) := by decide +kernel
theorem d_M_sweep_42 : decode b_M_sweep 42 = .ok (.iload_n 2, 1) := by decide +kernel
theorem d_M_sweep_43 : decode b_M_sweep 43 = .ok (.iconst 0, 1) := by decide +kernel
theorem d_M_sweep_44 : decode b_M_sweep 44 = .ok (.bastore, 1) := by decide +kernel
theorem d_M_sweep_45 : decode b_M_sweep 45 = .ok (.iinc 1 1, 3) := by decide +kernel
theorem d_M_sweep_48 : decode b_M_sweep 48 = .ok (.aload_n 0, 1) := by decide +kernel
theorem d_M_sweep_49 : decode b_M_sweep 49 = .ok (.getfield 26, 3) := by decide +kernel
theorem d_M_sweep_52 : decode b_M_sweep 52 = .ok (.iload_n 2, 1) := by decide +kernel
theorem d_M_sweep_53 : decode b_M_sweep 53 = .ok (.iconst 0, 1) := by decide +kernel
theorem d_M_sweep_54 : decode b_M_sweep 54 = .ok (.bastore, 1) := by decide +kernel
theorem d_M_sweep_55 : decode b_M_sweep 55 = .ok (.iinc 2 1, 3) := by decide +kernel
theorem d_M_sweep_58 : decode b_M_sweep 58 = .ok (.goto (-49), 3) := by decide +kernel
theorem d_M_sweep_61 : decode b_M_sweep 61 = .ok (.iload_n 1, 1) := by decide +kernel
theorem d_M_sweep_62 : decode b_M_sweep 62 = .ok (.ireturn, 1) := by decide +kernel
theorem d_M_count_0 : decode b_M_count 0 = .ok (.aload_n 0, 1) := by decide +kernel
theorem d_M_count_1 : decode b_M_count 1 = .ok (.iconst 0, 1) := by decide +kernel
theorem d_M_count_2 : decode b_M_count 2 = .ok (.putfield 35, 3) := by decide +kernel
theorem d_M_count_5 : decode b_M_count 5 = .ok (.iconst 0, 1) := by decide +kernel
theorem d_M_count_6 : decode b_M_count 6 = .ok (.istore_n 2, 1) := by decide +kernel
theorem d_M_count_7 : decode b_M_count 7 = .ok (.iconst 0, 1) := by decide +kernel
theorem d_M_count_8 : decode b_M_count 8 = .ok (.istore_n 3, 1) := by decide +kernel
theorem d_M_count_9 : decode b_M_count 9 = .ok (.iload_n 3, 1) := by decide +kernel
theorem d_M_count_10 : decode b_M_count 10 = .ok (.bipush 64, 2) := by decide +kernel
theorem d_M_count_12 : decode b_M_count 12 = .ok (.if_icmp .ge 60, 3) := by decide +kernel
theorem d_M_count_15 : decode b_M_count 15 = .ok (.aload_n 0, 1) := by decide +kernel
theorem d_M_count_16 : decode b_M_count 16 = .ok (.iload_n 3, 1) := by decide +kernel
theorem d_M_count_17 : decode b_M_count 17 = .ok (.invokevirtual 43, 3) := by decide +kernel
theorem d_M_count_20 : decode b_M_count 20 = .ok (.ifCond .ne 6, 3) := by decide +kernel
theorem d_M_count_23 : decode b_M_count 23 = .ok (.goto 43, 3) := by decide +kernel
theorem d_M_count_26 : decode b_M_count 26 = .ok (.iload_n 1, 1) := by decide +kernel
theorem d_M_count_27 : decode b_M_count 27 = .ok (.ifCond .ne 6, 3) := by decide +kernel
theorem d_M_count_30 : decode b_M_count 30 = .ok (.iinc 2 1, 3) := by decide +kernel
theorem d_M_count_33 : decode b_M_count 33 = .ok (.iload_n 1, 1) := by decide +kernel
theorem d_M_count_34 : decode b_M_count 34 = .ok (.iconst 2, 1) := by decide +kernel
theorem d_M_count_35 : decode b_M_count 35 = .ok (.if_icmp .ne 11, 3) := by decide +kernel
theorem d_M_count_38 : decode b_M_count 38 = .ok (.iload_n 2, 1) := by decide +kernel
theorem d_M_count_39 : decode b_M_count 39 = .ok (.aload_n 0, 1) := by decide +kernel
theorem d_M_count_40 : decode b_M_count 40 = .ok (.iload_n 3, 1) := by decide +kernel
theorem d_M_count_41 : decode b_M_count 41 = .ok (.invokevirtual 72, 3) := by decide +kernel
theorem d_M_count_44 : decode b_M_count 44 = .ok (.iadd, 1) := by decide +kernel
theorem d_M_count_45 : decode b_M_count 45 = .ok (.istore_n 2, 1) := by decide +kernel
theorem d_M_count_46 : decode b_M_count 46 = .ok (.iload_n 1, 1) := by decide +kernel
theorem d_M_count_47 : decode b_M_count 47 = .ok (.iconst 4, 1) := by decide +kernel
theorem d_M_count_48 : decode b_M_count 48 = .ok (.if_icmp .ne 18, 3) := by decide +kernel
theorem d_M_count_51 : decode b_M_count 51 = .ok (.aload_n 0, 1) := by decide +kernel
theorem d_M_count_52 : decode b_M_count 52 = .ok (.iload_n 3, 1) := by decide +kernel
theorem d_M_count_53 : decode b_M_count 53 = .ok (.invokevirtual 68, 3) := by decide +kernel
theorem d_M_count_56 : decode b_M_count 56 = .ok (.iload_n 2, 1) := by decide +kernel
theorem d_M_count_57 : decode b_M_count 57 = .ok (.if_icmp .le 9, 3) := by decide +kernel
theorem d_M_count_60 : decode b_M_count 60 = .ok (.aload_n 0, 1) := by decide +kernel
theorem d_M_count_61 : decode b_M_count 61 = .ok (.iload_n 3, 1) := by decide +kernel
theorem d_M_count_62 : decode b_M_count 62 = .ok (.invokevirtual 68, 3) := by decide +kernel
theorem d_M_count_65 : decode b_M_count 65 = .ok (.istore_n 2, 1) := by decide +kernel
theorem d_M_count_66 : decode b_M_count 66 = .ok (.iinc 3 1, 3) := by decide +kernel
theorem d_M_count_69 : decode b_M_count 69 = .ok (.goto (-60), 3) := by decide +kernel
theorem d_M_count_72 : decode b_M_count 72 = .ok (.iconst 0, 1) := by decide +kernel
theorem d_M_count_73 : decode b_M_count 73 = .ok (.istore_n 3, 1) := by decide +kernel
theorem d_M_count_74 : decode b_M_count 74 = .ok (.iload_n 3, 1) := by decide +kernel
theorem d_M_count_75 : decode b_M_count 75 = .ok (.sipush 256, 3) := by decide +kernel
theorem d_M_count_78 : decode b_M_count 78 = .ok (.if_icmp .ge 42, 3) := by decide +kernel
theorem d_M_count_81 : decode b_M_count 81 = .ok (.aload_n 0, 1) := by decide +kernel
theorem d_M_count_82 : decode b_M_count 82 = .ok (.getfield 22, 3) := by decide +kernel
theorem d_M_count_85 : decode b_M_count 85 = .ok (.iload_n 3, 1) := by decide +kernel
theorem d_M_count_86 : decode b_M_count 86 = .ok (.baload, 1) := by decide +kernel
theorem d_M_count_87 : decode b_M_count 87 = .ok (.ifCond .ne 6, 3) := by decide +kernel
theorem d_M_count_90 : decode b_M_count 90 = .ok (.goto 24, 3) := by decide +kernel
theorem d_M_count_93 : decode b_M_count 93 = .ok (.iload_n 1, 1) := by decide +kernel
theorem d_M_count_94 : decode b_M_count 94 = .ok (.iconst 1, 1) := by decide +kernel
theorem d_M_count_95 : decode b_M_count 95 = .ok (.if_icmp .ne 6, 3) := by decide +kernel
theorem d_M_count_98 : decode b_M_count 98 = .ok (.iinc 2 1, 3) := by decide +kernel
theorem d_M_count_101 : decode b_M_count 101 = .ok (.iload_n 1, 1) := by decide +kernel
theorem d_M_count_102 : decode b_M_count 102 = .ok (.iconst 3, 1) := by decide +kernel
theorem d_M_count_103 : decode b_M_count 103 = .ok (.if_icmp .ne 11, 3) := by decide +kernel
theorem d_M_count_106 : decode b_M_count 106 = .ok (.iload_n 2, 1) := by decide +kernel
theorem d_M_count_107 : decode b_M_count 107 = .ok (.aload_n 0, 1) := by decide +kernel
theorem d_M_count_108 : decode b_M_count 108 = .ok (.iload_n 3, 1) := by decide +kernel
theorem d_M_count_109 : decode b_M_count 109 = .ok (.invokevirtual 95, 3) := by decide +kernel
theorem d_M_count_112 : decode b_M_count 112 = .ok (.iadd, 1) := by decide +kernel
theorem d_M_count_113 : decode b_M_count 113 = .ok (.istore_n 2, 1) := by decide +kernel
theorem d_M_count_114 : decode b_M_count 114 = .ok (.iinc 3 1, 3) := by decide +kernel
theorem d_M_count_117 : decode b_M_count 117 = .ok (.goto (-43), 3) := by decide +kernel
theorem d_M_count_120 : decode b_M_count 120 = .ok (.iload_n 1, 1) := by decide +kernel
theorem d_M_count_121 : decode b_M_count 121 = .ok (.iconst 0, 1) := by decide +kernel
theorem d_M_count_122 : decode b_M_count 122 = .ok (.iconst 4, 1) := by decide +kernel
theorem d_M_count_123 : decode b_M_count 123 = .ok (.invokestatic 39, 3) := by decide +kernel
theorem d_M_count_126 : decode b_M_count 126 = .ok (.ifCond .eq 7, 3) := by decide +kernel
theorem d_M_count_129 : decode b_M_count 129 = .ok (.iload_n 2, 1) := by decide +kernel
theorem d_M_count_130 : decode b_M_count 130 = .ok (.goto 4, 3) := by decide +kernel
theorem d_M_count_133 : decode b_M_count 133 = .ok (.iconst (-1), 1) := by decide +kernel
theorem d_M_count_134 : decode b_M_count 134 = .ok (.ireturn, 1) := by decide +kernel
