theorem dM_init_0 : decode cM_init 0 = .ok (.aload_n 0, 1) := by decide +kernel
theorem dM_init_1 : decode cM_init 1 = .ok (.invokespecial 1, 3) := by decide +kernel
theorem dM_init_4 : decode cM_init 4 = .ok (.aload_n 0, 1) := by decide +kernel
theorem dM_init_5 : decode cM_init 5 = .ok (.bipush 40, 2) := by decide +kernel
theorem dM_init_7 : decode cM_init 7 = .ok (.newarray .int, 2) := by decide +kernel
theorem dM_init_9 : decode cM_init 9 = .ok (.putfield 9, 3) := by decide +kernel
theorem dM_init_12 : decode cM_init 12 = .ok (.aload_n 0, 1) := by decide +kernel
theorem dM_init_13 : decode cM_init 13 = .ok (.bipush 40, 2) := by decide +kernel
theorem dM_init_15 : decode cM_init 15 = .ok (.newarray .long, 2) := by decide +kernel
theorem dM_init_17 : decode cM_init 17 = .ok (.putfield 13, 3) := by decide +kernel
theorem dM_init_20 : decode cM_init 20 = .ok (.aload_n 0, 1) := by decide +kernel
theorem dM_init_21 : decode cM_init 21 = .ok (.bipush 40, 2) := by decide +kernel
theorem dM_init_23 : decode cM_init 23 = .ok (.newarray .long, 2) := by decide +kernel
theorem dM_init_25 : decode cM_init 25 = .ok (.putfield 17, 3) := by decide +kernel
theorem dM_init_28 : decode cM_init 28 = .ok (.aload_n 0, 1) := by decide +kernel
theorem dM_init_29 : decode cM_init 29 = .ok (.bipush 12, 2) := by decide +kernel
theorem dM_init_31 : decode cM_init 31 = .ok (.newarray .long, 2) := by decide +kernel
theorem dM_init_33 : decode cM_init 33 = .ok (.putfield 20, 3) := by decide +kernel
theorem dM_init_36 : decode cM_init 36 = .ok (.aload_n 0, 1) := by decide +kernel
theorem dM_init_37 : decode cM_init 37 = .ok (.iconst 4, 1) := by decide +kernel
theorem dM_init_38 : decode cM_init 38 = .ok (.newarray .long, 2) := by decide +kernel
theorem dM_init_40 : decode cM_init 40 = .ok (.putfield 23, 3) := by decide +kernel
theorem dM_init_43 : decode cM_init 43 = .ok (.aload_n 0, 1) := by decide +kernel
theorem dM_init_44 : decode cM_init 44 = .ok (.iconst 4, 1) := by decide +kernel
theorem dM_init_45 : decode cM_init 45 = .ok (.newarray .long, 2) := by decide +kernel
theorem dM_init_47 : decode cM_init 47 = .ok (.putfield 26, 3) := by decide +kernel
theorem dM_init_50 : decode cM_init 50 = .ok (.aload_n 0, 1) := by decide +kernel
theorem dM_init_51 : decode cM_init 51 = .ok (.iconst 4, 1) := by decide +kernel
theorem dM_init_52 : decode cM_init 52 = .ok (.newarray .long, 2) := by decide +kernel
theorem dM_init_54 : decode cM_init 54 = .ok (.putfield 29, 3) := by decide +kernel
theorem dM_init_57 : decode cM_init 57 = .ok (.return_, 1) := by decide +kernel
theorem dM_thrown_0 : decode cM_thrown 0 = .ok (.aload_n 0, 1) := by decide +kernel
theorem dM_thrown_1 : decode cM_thrown 1 = .ok (.getfield 32, 3) := by decide +kernel
theorem dM_thrown_4 : decode cM_thrown 4 = .ok (.ireturn, 1) := by decide +kernel
theorem dM_in_0 : decode cM_in 0 = .ok (.lload_n 0, 1) := by decide +kernel
theorem dM_in_1 : decode cM_in 1 = .ok (.iload_n 2, 1) := by decide +kernel
theorem dM_in_2 : decode cM_in 2 = .ok (.i2l, 1) := by decide +kernel
theorem dM_in_3 : decode cM_in 3 = .ok (.lcmp, 1) := by decide +kernel
theorem dM_in_4 : decode cM_in 4 = .ok (.ifCond .lt 14, 3) := by decide +kernel
theorem dM_in_7 : decode cM_in 7 = .ok (.lload_n 0, 1) := by decide +kernel
theorem dM_in_8 : decode cM_in 8 = .ok (.iload_n 3, 1) := by decide +kernel
theorem dM_in_9 : decode cM_in 9 = .ok (.i2l, 1) := by decide +kernel
theorem dM_in_10 : decode cM_in 10 = .ok (.lcmp, 1) := by decide +kernel
theorem dM_in_11 : decode cM_in 11 = .ok (.ifCond .gt 7, 3) := by decide +kernel
theorem dM_in_14 : decode cM_in 14 = .ok (.iconst 1, 1) := by decide +kernel
theorem dM_in_15 : decode cM_in 15 = .ok (.goto 4, 3) := by decide +kernel
theorem dM_in_18 : decode cM_in 18 = .ok (.iconst 0, 1) := by decide +kernel
theorem dM_in_19 : decode cM_in 19 = .ok (.ireturn, 1) := by decide +kernel
theorem dM_code_0 : decode cM_code 0 = .ok (.iload_n 1, 1) := by decide +kernel
theorem dM_code_1 : decode cM_code 1 = .ok (.i2l, 1) := by decide +kernel
theorem dM_code_2 : decode cM_code 2 = .ok (.iconst 0, 1) := by decide +kernel
theorem dM_code_3 : decode cM_code 3 = .ok (.bipush 18, 2) := by decide +kernel
theorem dM_code_5 : decode cM_code 5 = .ok (.invokestatic 36, 3) := by decide +kernel
theorem dM_code_8 : decode cM_code 8 = .ok (.ifCond .eq 48, 3) := by decide +kernel
theorem dM_code_11 : decode cM_code 11 = .ok (.iload_n 1, 1) := by decide +kernel
theorem dM_code_12 : decode cM_code 12 = .ok (.iconst 4, 1) := by decide +kernel
theorem dM_code_13 : decode cM_code 13 = .ok (.if_icmp .eq 8, 3) := by decide +kernel
theorem dM_code_16 : decode cM_code 16 = .ok (.iload_n 1, 1) := by decide +kernel
theorem dM_code_17 : decode cM_code 17 = .ok (.iconst 5, 1) := by decide +kernel
theorem dM_code_18 : decode cM_code 18 = .ok (.if_icmp .ne 12, 3) := by decide +kernel
theorem dM_code_21 : decode cM_code 21 = .ok (.lload_n 2, 1) := by decide +kernel
theorem dM_code_22 : decode cM_code 22 = .ok (.iconst 0, 1) := by decide +kernel
theorem dM_code_23 : decode cM_code 23 = .ok (.iconst 3, 1) := by decide +kernel
theorem dM_code_24 : decode cM_code 24 = .ok (.invokestatic 36, 3) := by decide +kernel
theorem dM_code_27 : decode cM_code 27 = .ok (.ifCond .eq 29, 3) := by decide +kernel
theorem dM_code_30 : decode cM_code 30 = .ok (.iload_n 1, 1) := by decide +kernel
theorem dM_code_31 : decode cM_code 31 = .ok (.bipush 15, 2) := by decide +kernel
theorem dM_code_33 : decode cM_code 33 = .ok (.if_icmp .eq 9, 3) := by decide +kernel
theorem dM_code_36 : decode cM_code 36 = .ok (.iload_n 1, 1) := by decide +kernel
theorem dM_code_37 : decode cM_code 37 = .ok (.bipush 16, 2) := by decide +kernel
theorem dM_code_39 : decode cM_code 39 = .ok (.if_icmp .ne 13, 3) := by decide +kernel
theorem dM_code_42 : decode cM_code 42 = .ok (.lload_n 2, 1) := by decide +kernel
theorem dM_code_43 : decode cM_code 43 = .ok (.iconst 0, 1) := by decide +kernel
theorem dM_code_44 : decode cM_code 44 = .ok (.bipush 40, 2) := by decide +kernel
theorem dM_code_46 : decode cM_code 46 = .ok (.invokestatic 36, 3) := by decide +kernel
theorem dM_code_49 : decode cM_code 49 = .ok (.ifCond .eq 7, 3) := by decide +kernel
theorem dM_code_52 : decode cM_code 52 = .ok (.iconst 1, 1) := by decide +kernel
theorem dM_code_53 : decode cM_code 53 = .ok (.goto 4, 3) := by decide +kernel
theorem dM_code_56 : decode cM_code 56 = .ok (.iconst 0, 1) := by decide +kernel
theorem dM_code_57 : decode cM_code 57 = .ok (.istore 4, 2) := by decide +kernel
theorem dM_code_59 : decode cM_code 59 = .ok (.aload_n 0, 1) := by decide +kernel
theorem dM_code_60 : decode cM_code 60 = .ok (.iload 4, 2) := by decide +kernel
theorem dM_code_62 : decode cM_code 62 = .ok (.ifCond .ne 7, 3) := by decide +kernel
theorem dM_code_65 : decode cM_code 65 = .ok (.iconst 1, 1) := by decide +kernel
theorem dM_code_66 : decode cM_code 66 = .ok (.goto 17, 3) := by decide +kernel
theorem dM_code_69 : decode cM_code 69 = .ok (.aload_n 0, 1) := by decide +kernel
theorem dM_code_70 : decode cM_code 70 = .ok (.getfield 40, 3) := by decide +kernel
theorem dM_code_73 : decode cM_code 73 = .ok (.bipush 40, 2) := by decide +kernel
theorem dM_code_75 : decode cM_code 75 = .ok (.if_icmp .ne 7, 3) := by decide +kernel
theorem dM_code_78 : decode cM_code 78 = .ok (.iconst 2, 1) := by decide +kernel
theorem dM_code_79 : decode cM_code 79 = .ok (.goto 4, 3) := by decide +kernel
theorem dM_code_82 : decode cM_code 82 = .ok (.iconst 0, 1) := by decide +kernel
theorem dM_code_83 : decode cM_code 83 = .ok (.putfield 32, 3) := by decide +kernel
theorem dM_code_86 : decode cM_code 86 = .ok (.aload_n 0, 1) := by decide +kernel
theorem dM_code_87 : decode cM_code 87 = .ok (.getfield 32, 3) := by decide +kernel
theorem dM_code_90 : decode cM_code 90 = .ok (.ifCond .le 5, 3) := by decide +kernel
theorem dM_code_93 : decode cM_code 93 = .ok (.iconst 0, 1) := by decide +kernel
theorem dM_code_94 : decode cM_code 94 = .ok (.ireturn, 1) := by decide +kernel
theorem dM_code_95 : decode cM_code 95 = .ok (.aload_n 0, 1) := by decide +kernel
theorem dM_code_96 : decode cM_code 96 = .ok (.getfield 9, 3) := by decide +kernel
theorem dM_code_99 : decode cM_code 99 = .ok (.aload_n 0, 1) := by decide +kernel
theorem dM_code_100 : decode cM_code 100 = .ok (.getfield 40, 3) := by decide +kernel
theorem dM_code_103 : decode cM_code 103 = .ok (.iload_n 1, 1) := by decide +kernel
theorem dM_code_104 : decode cM_code 104 = .ok (.iastore, 1) := by decide +kernel
theorem dM_code_105 : decode cM_code 105 = .ok (.aload_n 0, 1) := by decide +kernel
theorem dM_code_106 : decode cM_code 106 = .ok (.getfield 13, 3) := by decide +kernel
theorem dM_code_109 : decode cM_code 109 = .ok (.aload_n 0, 1) := by decide +kernel
theorem dM_code_110 : decode cM_code 110 = .ok (.getfield 40, 3) := by decide +kernel
theorem dM_code_113 : decode cM_code 113 = .ok (.lload_n 2, 1) := by decide +kernel
theorem dM_code_114 : decode cM_code 114 = .ok (.lastore, 1) := by decide +kernel
theorem dM_code_115 : decode cM_code 115 = .ok (.aload_n 0, 1) := by decide +kernel
theorem dM_code_116 : decode cM_code 116 = .ok (.dup, 1) := by decide +kernel
theorem dM_code_117 : decode cM_code 117 = .ok (.getfield 40, 3) := by decide +kernel
theorem dM_code_120 : decode cM_code 120 = .ok (.iconst 1, 1) := by decide +kernel
theorem dM_code_121 : decode cM_code 121 = .ok (.iadd, 1) := by decide +kernel
theorem dM_code_122 : decode cM_code 122 = .ok (.putfield 40, 3) := by decide +kernel
theorem dM_code_125 : decode cM_code 125 = .ok (.aload_n 0, 1) := by decide +kernel
theorem dM_code_126 : decode cM_code 126 = .ok (.getfield 40, 3) := by decide +kernel
theorem dM_code_129 : decode cM_code 129 = .ok (.ireturn, 1) := by decide +kernel
theorem dM_clear_0 : decode cM_clear 0 = .ok (.aload_n 0, 1) := by decide +kernel
theorem dM_clear_1 : decode cM_clear 1 = .ok (.iconst 0, 1) := by decide +kernel
theorem dM_clear_2 : decode cM_clear 2 = .ok (.putfield 32, 3) := by decide +kernel
theorem dM_clear_5 : decode cM_clear 5 = .ok (.aload_n 0, 1) := by decide +kernel
theorem dM_clear_6 : decode cM_clear 6 = .ok (.getfield 40, 3) := by decide +kernel
theorem dM_clear_9 : decode cM_clear 9 = .ok (.istore_n 1, 1) := by decide +kernel
theorem dM_clear_10 : decode cM_clear 10 = .ok (.aload_n 0, 1) := by decide +kernel
theorem dM_clear_11 : decode cM_clear 11 = .ok (.iconst 0, 1) := by decide +kernel
theorem dM_clear_12 : decode cM_clear 12 = .ok (.putfield 40, 3) := by decide +kernel
theorem dM_clear_15 : decode cM_clear 15 = .ok (.iload_n 1, 1) := by decide +kernel
theorem dM_clear_16 : decode cM_clear 16 = .ok (.ireturn, 1) := by decide +kernel
theorem dM_value_0 : decode cM_value 0 = .ok (.aload_n 0, 1) := by decide +kernel
theorem dM_value_1 : decode cM_value 1 = .ok (.aload_n 0, 1) := by decide +kernel
theorem dM_value_2 : decode cM_value 2 = .ok (.getfield 43, 3) := by decide +kernel
theorem dM_value_5 : decode cM_value 5 = .ok (.bipush 40, 2) := by decide +kernel
theorem dM_value_7 : decode cM_value 7 = .ok (.if_icmp .ne 7, 3) := by decide +kernel
theorem dM_value_10 : decode cM_value 10 = .ok (.iconst 1, 1) := by decide +kernel
theorem dM_value_11 : decode cM_value 11 = .ok (.goto 4, 3) := by decide +kernel
theorem dM_value_14 : decode cM_value 14 = .ok (.iconst 0, 1) := by decide +kernel
theorem dM_value_15 : decode cM_value 15 = .ok (.putfield 32, 3) := by decide +kernel
theorem dM_value_18 : decode cM_value 18 = .ok (.aload_n 0, 1) := by decide +kernel
theorem dM_value_19 : decode cM_value 19 = .ok (.getfield 32, 3) := by decide +kernel
theorem dM_value_22 : decode cM_value 22 = .ok (.ifCond .le 5, 3) := by decide +kernel
theorem dM_value_25 : decode cM_value 25 = .ok (.iconst 0, 1) := by decide +kernel
theorem dM_value_26 : decode cM_value 26 = .ok (.ireturn, 1) := by decide +kernel
theorem dM_value_27 : decode cM_value 27 = .ok (.aload_n 0, 1) := by decide +kernel
theorem dM_value_28 : decode cM_value 28 = .ok (.getfield 17, 3) := by decide +kernel
theorem dM_value_31 : decode cM_value 31 = .ok (.aload_n 0, 1) := by decide +kernel
theorem dM_value_32 : decode cM_value 32 = .ok (.getfield 43, 3) := by decide +kernel
theorem dM_value_35 : decode cM_value 35 = .ok (.lload_n 1, 1) := by decide +kernel
theorem dM_value_36 : decode cM_value 36 = .ok (.lastore, 1) := by decide +kernel
theorem dM_value_37 : decode cM_value 37 = .ok (.aload_n 0, 1) := by decide +kernel
theorem dM_value_38 : decode cM_value 38 = .ok (.dup, 1) := by decide +kernel
theorem dM_value_39 : decode cM_value 39 = .ok (.getfield 43, 3) := by decide +kernel
theorem dM_value_42 : decode cM_value 42 = .ok (.iconst 1, 1) := by decide +kernel
theorem dM_value_43 : decode cM_value 43 = .ok (.iadd, 1) := by decide +kernel
theorem dM_value_44 : decode cM_value 44 = .ok (.putfield 43, 3) := by decide +kernel
theorem dM_value_47 : decode cM_value 47 = .ok (.aload_n 0, 1) := by decide +kernel
theorem dM_value_48 : decode cM_value 48 = .ok (.getfield 43, 3) := by decide +kernel
theorem dM_value_51 : decode cM_value 51 = .ok (.ireturn, 1) := by decide +kernel
theorem dM_empty_0 : decode cM_empty 0 = .ok (.aload_n 0, 1) := by decide +kernel
theorem dM_empty_1 : decode cM_empty 1 = .ok (.iconst 0, 1) := by decide +kernel
theorem dM_empty_2 : decode cM_empty 2 = .ok (.putfield 32, 3) := by decide +kernel
theorem dM_empty_5 : decode cM_empty 5 = .ok (.aload_n 0, 1) := by decide +kernel
theorem dM_empty_6 : decode cM_empty 6 = .ok (.getfield 43, 3) := by decide +kernel
theorem dM_empty_9 : decode cM_empty 9 = .ok (.istore_n 1, 1) := by decide +kernel
theorem dM_empty_10 : decode cM_empty 10 = .ok (.aload_n 0, 1) := by decide +kernel
theorem dM_empty_11 : decode cM_empty 11 = .ok (.iconst 0, 1) := by decide +kernel
theorem dM_empty_12 : decode cM_empty 12 = .ok (.putfield 43, 3) := by decide +kernel
theorem dM_empty_15 : decode cM_empty 15 = .ok (.iload_n 1, 1) := by decide +kernel
theorem dM_empty_16 : decode cM_empty 16 = .ok (.ireturn, 1) := by decide +kernel
theorem dM_call_0 : decode cM_call 0 = .ok (.iload_n 1, 1) := by decide +kernel
theorem dM_call_1 : decode cM_call 1 = .ok (.i2l, 1) := by decide +kernel
theorem dM_call_2 : decode cM_call 2 = .ok (.iconst 0, 1) := by decide +kernel
theorem dM_call_3 : decode cM_call 3 = .ok (.iconst 2, 1) := by decide +kernel
theorem dM_call_4 : decode cM_call 4 = .ok (.invokestatic 36, 3) := by decide +kernel
theorem dM_call_7 : decode cM_call 7 = .ok (.istore 4, 2) := by decide +kernel
theorem dM_call_9 : decode cM_call 9 = .ok (.iconst 0, 1) := by decide +kernel
theorem dM_call_10 : decode cM_call 10 = .ok (.istore 5, 2) := by decide +kernel
theorem dM_call_12 : decode cM_call 12 = .ok (.iload 5, 2) := by decide +kernel
theorem dM_call_14 : decode cM_call 14 = .ok (.aload_n 0, 1) := by decide +kernel
theorem dM_call_15 : decode cM_call 15 = .ok (.getfield 40, 3) := by decide +kernel
theorem dM_call_18 : decode cM_call 18 = .ok (.if_icmp .ge 52, 3) := by decide +kernel
theorem dM_call_21 : decode cM_call 21 = .ok (.aload_n 0, 1) := by decide +kernel
theorem dM_call_22 : decode cM_call 22 = .ok (.getfield 9, 3) := by decide +kernel
theorem dM_call_25 : decode cM_call 25 = .ok (.iload 5, 2) := by decide +kernel
theorem dM_call_27 : decode cM_call 27 = .ok (.iaload, 1) := by decide +kernel
theorem dM_call_28 : decode cM_call 28 = .ok (.bipush 15, 2) := by decide +kernel
theorem dM_call_30 : decode cM_call 30 = .ok (.if_icmp .eq 15, 3) := by decide +kernel
theorem dM_call_33 : decode cM_call 33 = .ok (.aload_n 0, 1) := by decide +kernel
theorem dM_call_34 : decode cM_call 34 = .ok (.getfield 9, 3) := by decide +kernel
theorem dM_call_37 : decode cM_call 37 = .ok (.iload 5, 2) := by decide +kernel
theorem dM_call_39 : decode cM_call 39 = .ok (.iaload, 1) := by decide +kernel
theorem dM_call_40 : decode cM_call 40 = .ok (.bipush 16, 2) := by decide +kernel
theorem dM_call_42 : decode cM_call 42 = .ok (.if_icmp .ne 22, 3) := by decide +kernel
theorem dM_call_45 : decode cM_call 45 = .ok (.aload_n 0, 1) := by decide +kernel
theorem dM_call_46 : decode cM_call 46 = .ok (.getfield 13, 3) := by decide +kernel
theorem dM_call_49 : decode cM_call 49 = .ok (.iload 5, 2) := by decide +kernel
theorem dM_call_51 : decode cM_call 51 = .ok (.laload, 1) := by decide +kernel
theorem dM_call_52 : decode cM_call 52 = .ok (.aload_n 0, 1) := by decide +kernel
theorem dM_call_53 : decode cM_call 53 = .ok (.getfield 40, 3) := by decide +kernel
theorem dM_call_56 : decode cM_call 56 = .ok (.i2l, 1) := by decide +kernel
theorem dM_call_57 : decode cM_call 57 = .ok (.lcmp, 1) := by decide +kernel
theorem dM_call_58 : decode cM_call 58 = .ok (.ifCond .le 6, 3) := by decide +kernel
theorem dM_call_61 : decode cM_call 61 = .ok (.iconst 0, 1) := by decide +kernel
theorem dM_call_62 : decode cM_call 62 = .ok (.istore 4, 2) := by decide +kernel
theorem dM_call_64 : decode cM_call 64 = .ok (.iinc 5 1, 3) := by decide +kernel
theorem dM_call_67 : decode cM_call 67 = .ok (.goto (-55), 3) := by decide +kernel
theorem dM_call_70 : decode cM_call 70 = .ok (.aload_n 0, 1) := by decide +kernel
theorem dM_call_71 : decode cM_call 71 = .ok (.iload 4, 2) := by decide +kernel
theorem dM_call_73 : decode cM_call 73 = .ok (.ifCond .eq 7, 3) := by decide +kernel
theorem dM_call_76 : decode cM_call 76 = .ok (.iconst 0, 1) := by decide +kernel
theorem dM_call_77 : decode cM_call 77 = .ok (.goto 4, 3) := by decide +kernel
theorem dM_call_80 : decode cM_call 80 = .ok (.iconst 1, 1) := by decide +kernel
theorem dM_call_81 : decode cM_call 81 = .ok (.putfield 32, 3) := by decide +kernel
theorem dM_call_84 : decode cM_call 84 = .ok (.aload_n 0, 1) := by decide +kernel
theorem dM_call_85 : decode cM_call 85 = .ok (.getfield 32, 3) := by decide +kernel
theorem dM_call_88 : decode cM_call 88 = .ok (.ifCond .le 5, 3) := by decide +kernel
theorem dM_call_91 : decode cM_call 91 = .ok (.iconst 0, 1) := by decide +kernel
theorem dM_call_92 : decode cM_call 92 = .ok (.ireturn, 1) := by decide +kernel
theorem dM_call_93 : decode cM_call 93 = .ok (.aload_n 0, 1) := by decide +kernel
theorem dM_call_94 : decode cM_call 94 = .ok (.iconst 0, 1) := by decide +kernel
theorem dM_call_95 : decode cM_call 95 = .ok (.putfield 46, 3) := by decide +kernel
theorem dM_call_98 : decode cM_call 98 = .ok (.aload_n 0, 1) := by decide +kernel
theorem dM_call_99 : decode cM_call 99 = .ok (.iconst 0, 1) := by decide +kernel
theorem dM_call_100 : decode cM_call 100 = .ok (.putfield 49, 3) := by decide +kernel
theorem dM_call_103 : decode cM_call 103 = .ok (.aload_n 0, 1) := by decide +kernel
theorem dM_call_104 : decode cM_call 104 = .ok (.iconst 0, 1) := by decide +kernel
theorem dM_call_105 : decode cM_call 105 = .ok (.putfield 52, 3) := by decide +kernel
theorem dM_call_108 : decode cM_call 108 = .ok (.aload_n 0, 1) := by decide +kernel
theorem dM_call_109 : decode cM_call 109 = .ok (.iconst 0, 1) := by decide +kernel
theorem dM_call_110 : decode cM_call 110 = .ok (.putfield 55, 3) := by decide +kernel
theorem dM_call_113 : decode cM_call 113 = .ok (.iconst 0, 1) := by decide +kernel
theorem dM_call_114 : decode cM_call 114 = .ok (.istore 5, 2) := by decide +kernel
theorem dM_call_116 : decode cM_call 116 = .ok (.iload 5, 2) := by decide +kernel
theorem dM_call_118 : decode cM_call 118 = .ok (.iconst 4, 1) := by decide +kernel
theorem dM_call_119 : decode cM_call 119 = .ok (.if_icmp .ge 17, 3) := by decide +kernel
theorem dM_call_122 : decode cM_call 122 = .ok (.aload_n 0, 1) := by decide +kernel
theorem dM_call_123 : decode cM_call 123 = .ok (.getfield 23, 3) := by decide +kernel
theorem dM_call_126 : decode cM_call 126 = .ok (.iload 5, 2) := by decide +kernel
theorem dM_call_128 : decode cM_call 128 = .ok (.lconst 0, 1) := by decide +kernel
theorem dM_call_129 : decode cM_call 129 = .ok (.lastore, 1) := by decide +kernel
theorem dM_call_130 : decode cM_call 130 = .ok (.iinc 5 1, 3) := by decide +kernel
theorem dM_call_133 : decode cM_call 133 = .ok (.goto (-17), 3) := by decide +kernel
theorem dM_call_136 : decode cM_call 136 = .ok (.aload_n 0, 1) := by decide +kernel
theorem dM_call_137 : decode cM_call 137 = .ok (.aload_n 0, 1) := by decide +kernel
theorem dM_call_138 : decode cM_call 138 = .ok (.iload_n 1, 1) := by decide +kernel
theorem dM_call_139 : decode cM_call 139 = .ok (.lload_n 2, 1) := by decide +kernel
theorem dM_call_140 : decode cM_call 140 = .ok (.invokevirtual 58, 3) := by decide +kernel
theorem dM_call_143 : decode cM_call 143 = .ok (.ifCond .ne 7, 3) := by decide +kernel
theorem dM_call_146 : decode cM_call 146 = .ok (.iconst 1, 1) := by decide +kernel
theorem dM_call_147 : decode cM_call 147 = .ok (.goto 4, 3) := by decide +kernel
theorem dM_call_150 : decode cM_call 150 = .ok (.iconst 0, 1) := by decide +kernel
theorem dM_call_151 : decode cM_call 151 = .ok (.putfield 62, 3) := by decide +kernel
theorem dM_call_154 : decode cM_call 154 = .ok (.aload_n 0, 1) := by decide +kernel
theorem dM_call_155 : decode cM_call 155 = .ok (.getfield 62, 3) := by decide +kernel
theorem dM_call_158 : decode cM_call 158 = .ok (.ifCond .eq 15, 3) := by decide +kernel
theorem dM_call_161 : decode cM_call 161 = .ok (.aload_n 0, 1) := by decide +kernel
theorem dM_call_162 : decode cM_call 162 = .ok (.iconst 0, 1) := by decide +kernel
theorem dM_call_163 : decode cM_call 163 = .ok (.putfield 49, 3) := by decide +kernel
theorem dM_call_166 : decode cM_call 166 = .ok (.aload_n 0, 1) := by decide +kernel
theorem dM_call_167 : decode cM_call 167 = .ok (.iconst 2, 1) := by decide +kernel
theorem dM_call_168 : decode cM_call 168 = .ok (.putfield 32, 3) := by decide +kernel
theorem dM_call_171 : decode cM_call 171 = .ok (.iconst 0, 1) := by decide +kernel
theorem dM_call_172 : decode cM_call 172 = .ok (.ireturn, 1) := by decide +kernel
theorem dM_call_173 : decode cM_call 173 = .ok (.aload_n 0, 1) := by decide +kernel
theorem dM_call_174 : decode cM_call 174 = .ok (.getfield 52, 3) := by decide +kernel
theorem dM_call_177 : decode cM_call 177 = .ok (.ireturn, 1) := by decide +kernel
theorem dM_isDone_0 : decode cM_isDone 0 = .ok (.iconst 0, 1) := by decide +kernel
theorem dM_isDone_1 : decode cM_isDone 1 = .ok (.istore 4, 2) := by decide +kernel
theorem dM_isDone_3 : decode cM_isDone 3 = .ok (.iload 4, 2) := by decide +kernel
theorem dM_isDone_5 : decode cM_isDone 5 = .ok (.aload_n 0, 1) := by decide +kernel
theorem dM_isDone_6 : decode cM_isDone 6 = .ok (.getfield 40, 3) := by decide +kernel
theorem dM_isDone_9 : decode cM_isDone 9 = .ok (.if_icmp .ge 700, 3) := by decide +kernel
theorem dM_isDone_12 : decode cM_isDone 12 = .ok (.aload_n 0, 1) := by decide +kernel
theorem dM_isDone_13 : decode cM_isDone 13 = .ok (.getfield 46, 3) := by decide +kernel
theorem dM_isDone_16 : decode cM_isDone 16 = .ok (.sipush 400, 3) := by decide +kernel
theorem dM_isDone_19 : decode cM_isDone 19 = .ok (.if_icmp .ne 5, 3) := by decide +kernel
theorem dM_isDone_22 : decode cM_isDone 22 = .ok (.iconst 0, 1) := by decide +kernel
theorem dM_isDone_23 : decode cM_isDone 23 = .ok (.ireturn, 1) := by decide +kernel
theorem dM_isDone_24 : decode cM_isDone 24 = .ok (.aload_n 0, 1) := by decide +kernel
theorem dM_isDone_25 : decode cM_isDone 25 = .ok (.dup, 1) := by decide +kernel
theorem dM_isDone_26 : decode cM_isDone 26 = .ok (.getfield 46, 3) := by decide +kernel
theorem dM_isDone_29 : decode cM_isDone 29 = .ok (.iconst 1, 1) := by decide +kernel
theorem dM_isDone_30 : decode cM_isDone 30 = .ok (.iadd, 1) := by decide +kernel
theorem dM_isDone_31 : decode cM_isDone 31 = .ok (.putfield 46, 3) := by decide +kernel
theorem dM_isDone_34 : decode cM_isDone 34 = .ok (.aload_n 0, 1) := by decide +kernel
theorem dM_isDone_35 : decode cM_isDone 35 = .ok (.getfield 9, 3) := by decide +kernel
theorem dM_isDone_38 : decode cM_isDone 38 = .ok (.iload 4, 2) := by decide +kernel
theorem dM_isDone_40 : decode cM_isDone 40 = .ok (.iaload, 1) := by decide +kernel
theorem dM_isDone_41 : decode cM_isDone 41 = .ok (.istore 5, 2) := by decide +kernel
theorem dM_isDone_43 : decode cM_isDone 43 = .ok (.aload_n 0, 1) := by decide +kernel
theorem dM_isDone_44 : decode cM_isDone 44 = .ok (.getfield 13, 3) := by decide +kernel
theorem dM_isDone_47 : decode cM_isDone 47 = .ok (.iload 4, 2) := by decide +kernel
theorem dM_isDone_49 : decode cM_isDone 49 = .ok (.laload, 1) := by decide +kernel
theorem dM_isDone_50 : decode cM_isDone 50 = .ok (.lstore 6, 2) := by decide +kernel
theorem dM_isDone_52 : decode cM_isDone 52 = .ok (.iinc 4 1, 3) := by decide +kernel
theorem dM_isDone_55 : decode cM_isDone 55 = .ok (.iload 5, 2) := by decide +kernel
theorem dM_isDone_57 : decode cM_isDone 57 = .ok (.iconst 4, 1) := by decide +kernel
theorem dM_isDone_58 : decode cM_isDone 58 = .ok (.if_icmp .le 10, 3) := by decide +kernel
theorem dM_isDone_61 : decode cM_isDone 61 = .ok (.iload 5, 2) := by decide +kernel
theorem dM_isDone_63 : decode cM_isDone 63 = .ok (.bipush 12, 2) := by decide +kernel
theorem dM_isDone_65 : decode cM_isDone 65 = .ok (.if_icmp .ne 7, 3) := by decide +kernel
theorem dM_isDone_68 : decode cM_isDone 68 = .ok (.iconst 1, 1) := by decide +kernel
theorem dM_isDone_69 : decode cM_isDone 69 = .ok (.goto 4, 3) := by decide +kernel
theorem dM_isDone_72 : decode cM_isDone 72 = .ok (.iconst 0, 1) := by decide +kernel
theorem dM_isDone_73 : decode cM_isDone 73 = .ok (.istore 8, 2) := by decide +kernel
theorem dM_isDone_75 : decode cM_isDone 75 = .ok (.iload 5, 2) := by decide +kernel
theorem dM_isDone_77 : decode cM_isDone 77 = .ok (.bipush 6, 2) := by decide +kernel
theorem dM_isDone_79 : decode cM_isDone 79 = .ok (.if_icmp .lt 10, 3) := by decide +kernel
theorem dM_isDone_82 : decode cM_isDone 82 = .ok (.iload 5, 2) := by decide +kernel
theorem dM_isDone_84 : decode cM_isDone 84 = .ok (.bipush 11, 2) := by decide +kernel
theorem dM_isDone_86 : decode cM_isDone 86 = .ok (.if_icmp .le 22, 3) := by decide +kernel
theorem dM_isDone_89 : decode cM_isDone 89 = .ok (.iload 5, 2) := by decide +kernel
theorem dM_isDone_91 : decode cM_isDone 91 = .ok (.bipush 14, 2) := by decide +kernel
theorem dM_isDone_93 : decode cM_isDone 93 = .ok (.if_icmp .eq 15, 3) := by decide +kernel
theorem dM_isDone_96 : decode cM_isDone 96 = .ok (.iload 5, 2) := by decide +kernel
theorem dM_isDone_98 : decode cM_isDone 98 = .ok (.bipush 17, 2) := by decide +kernel
theorem dM_isDone_100 : decode cM_isDone 100 = .ok (.if_icmp .ne 12, 3) := by decide +kernel
theorem dM_isDone_103 : decode cM_isDone 103 = .ok (.iload_n 1, 1) := by decide +kernel
theorem dM_isDone_104 : decode cM_isDone 104 = .ok (.iconst 1, 1) := by decide +kernel
theorem dM_isDone_105 : decode cM_isDone 105 = .ok (.if_icmp .eq 7, 3) := by decide +kernel
theorem dM_isDone_108 : decode cM_isDone 108 = .ok (.iconst 2, 1) := by decide +kernel
theorem dM_isDone_109 : decode cM_isDone 109 = .ok (.goto 42, 3) := by decide +kernel
theorem dM_isDone_112 : decode cM_isDone 112 = .ok (.iload 5, 2) := by decide +kernel
theorem dM_isDone_114 : decode cM_isDone 114 = .ok (.iconst 5, 1) := by decide +kernel
theorem dM_isDone_115 : decode cM_isDone 115 = .ok (.if_icmp .eq 31, 3) := by decide +kernel
theorem dM_isDone_118 : decode cM_isDone 118 = .ok (.iload 5, 2) := by decide +kernel
theorem dM_isDone_120 : decode cM_isDone 120 = .ok (.bipush 12, 2) := by decide +kernel
theorem dM_isDone_122 : decode cM_isDone 122 = .ok (.if_icmp .eq 24, 3) := by decide +kernel
theorem dM_isDone_125 : decode cM_isDone 125 = .ok (.iload 5, 2) := by decide +kernel
theorem dM_isDone_127 : decode cM_isDone 127 = .ok (.bipush 13, 2) := by decide +kernel
theorem dM_isDone_129 : decode cM_isDone 129 = .ok (.if_icmp .eq 17, 3) := by decide +kernel
theorem dM_isDone_132 : decode cM_isDone 132 = .ok (.iload 5, 2) := by decide +kernel
theorem dM_isDone_134 : decode cM_isDone 134 = .ok (.bipush 16, 2) := by decide +kernel
theorem dM_isDone_136 : decode cM_isDone 136 = .ok (.if_icmp .eq 10, 3) := by decide +kernel
theorem dM_isDone_139 : decode cM_isDone 139 = .ok (.iload 5, 2) := by decide +kernel
theorem dM_isDone_141 : decode cM_isDone 141 = .ok (.bipush 17, 2) := by decide +kernel
theorem dM_isDone_143 : decode cM_isDone 143 = .ok (.if_icmp .ne 7, 3) := by decide +kernel
theorem dM_isDone_146 : decode cM_isDone 146 = .ok (.iconst 1, 1) := by decide +kernel
theorem dM_isDone_147 : decode cM_isDone 147 = .ok (.goto 4, 3) := by decide +kernel
theorem dM_isDone_150 : decode cM_isDone 150 = .ok (.iconst 0, 1) := by decide +kernel
theorem dM_isDone_151 : decode cM_isDone 151 = .ok (.istore 9, 2) := by decide +kernel
theorem dM_isDone_153 : decode cM_isDone 153 = .ok (.aload_n 0, 1) := by decide +kernel
theorem dM_isDone_154 : decode cM_isDone 154 = .ok (.getfield 49, 3) := by decide +kernel
theorem dM_isDone_157 : decode cM_isDone 157 = .ok (.iload 9, 2) := by decide +kernel
theorem dM_isDone_159 : decode cM_isDone 159 = .ok (.if_icmp .lt 17, 3) := by decide +kernel
theorem dM_isDone_162 : decode cM_isDone 162 = .ok (.iload 8, 2) := by decide +kernel
theorem dM_isDone_164 : decode cM_isDone 164 = .ok (.ifCond .eq 14, 3) := by decide +kernel
theorem dM_isDone_167 : decode cM_isDone 167 = .ok (.aload_n 0, 1) := by decide +kernel
theorem dM_isDone_168 : decode cM_isDone 168 = .ok (.getfield 49, 3) := by decide +kernel
theorem dM_isDone_171 : decode cM_isDone 171 = .ok (.bipush 12, 2) := by decide +kernel
theorem dM_isDone_173 : decode cM_isDone 173 = .ok (.if_icmp .ne 5, 3) := by decide +kernel
theorem dM_isDone_176 : decode cM_isDone 176 = .ok (.iconst 0, 1) := by decide +kernel
theorem dM_isDone_177 : decode cM_isDone 177 = .ok (.ireturn, 1) := by decide +kernel
theorem dM_isDone_178 : decode cM_isDone 178 = .ok (.iload 9, 2) := by decide +kernel
theorem dM_isDone_180 : decode cM_isDone 180 = .ok (.ifCond .le 17, 3) := by decide +kernel
theorem dM_isDone_183 : decode cM_isDone 183 = .ok (.aload_n 0, 1) := by decide +kernel
theorem dM_isDone_184 : decode cM_isDone 184 = .ok (.getfield 20, 3) := by decide +kernel
theorem dM_isDone_187 : decode cM_isDone 187 = .ok (.aload_n 0, 1) := by decide +kernel
theorem dM_isDone_188 : decode cM_isDone 188 = .ok (.getfield 49, 3) := by decide +kernel
theorem dM_isDone_191 : decode cM_isDone 191 = .ok (.iconst 1, 1) := by decide +kernel
theorem dM_isDone_192 : decode cM_isDone 192 = .ok (.isub, 1) := by decide +kernel
theorem dM_isDone_193 : decode cM_isDone 193 = .ok (.laload, 1) := by decide +kernel
theorem dM_isDone_194 : decode cM_isDone 194 = .ok (.goto 4, 3) := by decide +kernel
theorem dM_isDone_197 : decode cM_isDone 197 = .ok (.lconst 0, 1) := by decide +kernel
theorem dM_isDone_198 : decode cM_isDone 198 = .ok (.lstore 10, 2) := by decide +kernel
theorem dM_isDone_200 : decode cM_isDone 200 = .ok (.iload 9, 2) := by decide +kernel
theorem dM_isDone_202 : decode cM_isDone 202 = .ok (.iconst 1, 1) := by decide +kernel
theorem dM_isDone_203 : decode cM_isDone 203 = .ok (.if_icmp .le 17, 3) := by decide +kernel
theorem dM_isDone_206 : decode cM_isDone 206 = .ok (.aload_n 0, 1) := by decide +kernel
theorem dM_isDone_207 : decode cM_isDone 207 = .ok (.getfield 20, 3) := by decide +kernel
theorem dM_isDone_210 : decode cM_isDone 210 = .ok (.aload_n 0, 1) := by decide +kernel
theorem dM_isDone_211 : decode cM_isDone 211 = .ok (.getfield 49, 3) := by decide +kernel
theorem dM_isDone_214 : decode cM_isDone 214 = .ok (.iconst 2, 1) := by decide +kernel
theorem dM_isDone_215 : decode cM_isDone 215 = .ok (.isub, 1) := by decide +kernel
theorem dM_isDone_216 : decode cM_isDone 216 = .ok (.laload, 1) := by decide +kernel
theorem dM_isDone_217 : decode cM_isDone 217 = .ok (.goto 4, 3) := by decide +kernel
theorem dM_isDone_220 : decode cM_isDone 220 = .ok (.lconst 0, 1) := by decide +kernel
theorem dM_isDone_221 : decode cM_isDone 221 = .ok (.lstore 12, 2) := by decide +kernel
theorem dM_isDone_223 : decode cM_isDone 223 = .ok (.iload 5, 2) := by decide +kernel
theorem dM_isDone_225 : decode cM_isDone 225 = .ok (.bipush 18, 2) := by decide +kernel
theorem dM_isDone_227 : decode cM_isDone 227 = .ok (.if_icmp .ne 5, 3) := by decide +kernel
theorem dM_isDone_230 : decode cM_isDone 230 = .ok (.iconst 1, 1) := by decide +kernel
theorem dM_isDone_231 : decode cM_isDone 231 = .ok (.ireturn, 1) := by decide +kernel
theorem dM_isDone_232 : decode cM_isDone 232 = .ok (.iload 5, 2) := by decide +kernel
theorem dM_isDone_234 : decode cM_isDone 234 = .ok (.iconst 2, 1) := by decide +kernel
theorem dM_isDone_235 : decode cM_isDone 235 = .ok (.if_icmp .ne 30, 3) := by decide +kernel
theorem dM_isDone_238 : decode cM_isDone 238 = .ok (.iload_n 1, 1) := by decide +kernel
theorem dM_isDone_239 : decode cM_isDone 239 = .ok (.ifCond .ne 13, 3) := by decide +kernel
theorem dM_isDone_242 : decode cM_isDone 242 = .ok (.aload_n 0, 1) := by decide +kernel
theorem dM_isDone_243 : decode cM_isDone 243 = .ok (.getfield 43, 3) := by decide +kernel
theorem dM_isDone_246 : decode cM_isDone 246 = .ok (.ifCond .ne 19, 3) := by decide +kernel
theorem dM_isDone_249 : decode cM_isDone 249 = .ok (.goto 14, 3) := by decide +kernel
theorem dM_isDone_252 : decode cM_isDone 252 = .ok (.aload_n 0, 1) := by decide +kernel
theorem dM_isDone_253 : decode cM_isDone 253 = .ok (.getfield 55, 3) := by decide +kernel
theorem dM_isDone_256 : decode cM_isDone 256 = .ok (.aload_n 0, 1) := by decide +kernel
theorem dM_isDone_257 : decode cM_isDone 257 = .ok (.getfield 43, 3) := by decide +kernel
theorem dM_isDone_260 : decode cM_isDone 260 = .ok (.if_icmp .ne 5, 3) := by decide +kernel
theorem dM_isDone_263 : decode cM_isDone 263 = .ok (.iconst 0, 1) := by decide +kernel
theorem dM_isDone_264 : decode cM_isDone 264 = .ok (.ireturn, 1) := by decide +kernel
theorem dM_isDone_265 : decode cM_isDone 265 = .ok (.iload 5, 2) := by decide +kernel
theorem dM_isDone_267 : decode cM_isDone 267 = .ok (.bipush 9, 2) := by decide +kernel
theorem dM_isDone_269 : decode cM_isDone 269 = .ok (.if_icmp .ne 10, 3) := by decide +kernel
theorem dM_isDone_272 : decode cM_isDone 272 = .ok (.lload 10, 2) := by decide +kernel
theorem dM_isDone_274 : decode cM_isDone 274 = .ok (.lconst 0, 1) := by decide +kernel
theorem dM_isDone_275 : decode cM_isDone 275 = .ok (.lcmp, 1) := by decide +kernel
theorem dM_isDone_276 : decode cM_isDone 276 = .ok (.ifCond .eq 18, 3) := by decide +kernel
theorem dM_isDone_279 : decode cM_isDone 279 = .ok (.iload 5, 2) := by decide +kernel
theorem dM_isDone_281 : decode cM_isDone 281 = .ok (.bipush 17, 2) := by decide +kernel
theorem dM_isDone_283 : decode cM_isDone 283 = .ok (.if_icmp .ne 13, 3) := by decide +kernel
theorem dM_isDone_286 : decode cM_isDone 286 = .ok (.aload_n 0, 1) := by decide +kernel
theorem dM_isDone_287 : decode cM_isDone 287 = .ok (.getfield 52, 3) := by decide +kernel
theorem dM_isDone_290 : decode cM_isDone 290 = .ok (.iconst 4, 1) := by decide +kernel
theorem dM_isDone_291 : decode cM_isDone 291 = .ok (.if_icmp .ne 5, 3) := by decide +kernel
theorem dM_isDone_294 : decode cM_isDone 294 = .ok (.iconst 0, 1) := by decide +kernel
theorem dM_isDone_295 : decode cM_isDone 295 = .ok (.ireturn, 1) := by decide +kernel
theorem dM_isDone_296 : decode cM_isDone 296 = .ok (.iload 8, 2) := by decide +kernel
theorem dM_isDone_298 : decode cM_isDone 298 = .ok (.ifCond .eq 139, 3) := by decide +kernel
theorem dM_isDone_301 : decode cM_isDone 301 = .ok (.aload_n 0, 1) := by decide +kernel
theorem dM_isDone_302 : decode cM_isDone 302 = .ok (.getfield 20, 3) := by decide +kernel
theorem dM_isDone_305 : decode cM_isDone 305 = .ok (.aload_n 0, 1) := by decide +kernel
theorem dM_isDone_306 : decode cM_isDone 306 = .ok (.getfield 49, 3) := by decide +kernel
theorem dM_isDone_309 : decode cM_isDone 309 = .ok (.iload 5, 2) := by decide +kernel
theorem dM_isDone_311 : decode cM_isDone 311 = .ok (.ifCond .ne 8, 3) := by decide +kernel
theorem dM_isDone_314 : decode cM_isDone 314 = .ok (.lload 6, 2) := by decide +kernel
theorem dM_isDone_316 : decode cM_isDone 316 = .ok (.goto 87, 3) := by decide +kernel
theorem dM_isDone_319 : decode cM_isDone 319 = .ok (.iload 5, 2) := by decide +kernel
theorem dM_isDone_321 : decode cM_isDone 321 = .ok (.iconst 1, 1) := by decide +kernel
theorem dM_isDone_322 : decode cM_isDone 322 = .ok (.if_icmp .ne 7, 3) := by decide +kernel
theorem dM_isDone_325 : decode cM_isDone 325 = .ok (.lload_n 2, 1) := by decide +kernel
theorem dM_isDone_326 : decode cM_isDone 326 = .ok (.goto 77, 3) := by decide +kernel
theorem dM_isDone_329 : decode cM_isDone 329 = .ok (.iload 5, 2) := by decide +kernel
theorem dM_isDone_331 : decode cM_isDone 331 = .ok (.iconst 2, 1) := by decide +kernel
theorem dM_isDone_332 : decode cM_isDone 332 = .ok (.if_icmp .ne 23, 3) := by decide +kernel
theorem dM_isDone_335 : decode cM_isDone 335 = .ok (.aload_n 0, 1) := by decide +kernel
theorem dM_isDone_336 : decode cM_isDone 336 = .ok (.getfield 17, 3) := by decide +kernel
theorem dM_isDone_339 : decode cM_isDone 339 = .ok (.iload_n 1, 1) := by decide +kernel
theorem dM_isDone_340 : decode cM_isDone 340 = .ok (.ifCond .ne 7, 3) := by decide +kernel
theorem dM_isDone_343 : decode cM_isDone 343 = .ok (.iconst 0, 1) := by decide +kernel
theorem dM_isDone_344 : decode cM_isDone 344 = .ok (.goto 7, 3) := by decide +kernel
theorem dM_isDone_347 : decode cM_isDone 347 = .ok (.aload_n 0, 1) := by decide +kernel
theorem dM_isDone_348 : decode cM_isDone 348 = .ok (.getfield 55, 3) := by decide +kernel
theorem dM_isDone_351 : decode cM_isDone 351 = .ok (.laload, 1) := by decide +kernel
theorem dM_isDone_352 : decode cM_isDone 352 = .ok (.goto 51, 3) := by decide +kernel
theorem dM_isDone_355 : decode cM_isDone 355 = .ok (.iload 5, 2) := by decide +kernel
theorem dM_isDone_357 : decode cM_isDone 357 = .ok (.iconst 3, 1) := by decide +kernel
theorem dM_isDone_358 : decode cM_isDone 358 = .ok (.if_icmp .ne 26, 3) := by decide +kernel
theorem dM_isDone_361 : decode cM_isDone 361 = .ok (.iload_n 1, 1) := by decide +kernel
theorem dM_isDone_362 : decode cM_isDone 362 = .ok (.ifCond .le 18, 3) := by decide +kernel
theorem dM_isDone_365 : decode cM_isDone 365 = .ok (.aload_n 0, 1) := by decide +kernel
theorem dM_isDone_366 : decode cM_isDone 366 = .ok (.getfield 55, 3) := by decide +kernel
theorem dM_isDone_369 : decode cM_isDone 369 = .ok (.aload_n 0, 1) := by decide +kernel
theorem dM_isDone_370 : decode cM_isDone 370 = .ok (.getfield 43, 3) := by decide +kernel
theorem dM_isDone_373 : decode cM_isDone 373 = .ok (.if_icmp .ge 7, 3) := by decide +kernel
theorem dM_isDone_376 : decode cM_isDone 376 = .ok (.lconst 1, 1) := by decide +kernel
theorem dM_isDone_377 : decode cM_isDone 377 = .ok (.goto 26, 3) := by decide +kernel
theorem dM_isDone_380 : decode cM_isDone 380 = .ok (.lconst 0, 1) := by decide +kernel
theorem dM_isDone_381 : decode cM_isDone 381 = .ok (.goto 22, 3) := by decide +kernel
theorem dM_isDone_384 : decode cM_isDone 384 = .ok (.iload 5, 2) := by decide +kernel
theorem dM_isDone_386 : decode cM_isDone 386 = .ok (.iconst 4, 1) := by decide +kernel
theorem dM_isDone_387 : decode cM_isDone 387 = .ok (.if_icmp .ne 14, 3) := by decide +kernel
theorem dM_isDone_390 : decode cM_isDone 390 = .ok (.aload_n 0, 1) := by decide +kernel
theorem dM_isDone_391 : decode cM_isDone 391 = .ok (.getfield 23, 3) := by decide +kernel
theorem dM_isDone_394 : decode cM_isDone 394 = .ok (.lload 6, 2) := by decide +kernel
theorem dM_isDone_396 : decode cM_isDone 396 = .ok (.l2i, 1) := by decide +kernel
theorem dM_isDone_397 : decode cM_isDone 397 = .ok (.laload, 1) := by decide +kernel
theorem dM_isDone_398 : decode cM_isDone 398 = .ok (.goto 5, 3) := by decide +kernel
theorem dM_isDone_401 : decode cM_isDone 401 = .ok (.lload 10, 2) := by decide +kernel
theorem dM_isDone_403 : decode cM_isDone 403 = .ok (.lastore, 1) := by decide +kernel
theorem dM_isDone_404 : decode cM_isDone 404 = .ok (.aload_n 0, 1) := by decide +kernel
theorem dM_isDone_405 : decode cM_isDone 405 = .ok (.dup, 1) := by decide +kernel
theorem dM_isDone_406 : decode cM_isDone 406 = .ok (.getfield 49, 3) := by decide +kernel
theorem dM_isDone_409 : decode cM_isDone 409 = .ok (.iconst 1, 1) := by decide +kernel
theorem dM_isDone_410 : decode cM_isDone 410 = .ok (.iadd, 1) := by decide +kernel
theorem dM_isDone_411 : decode cM_isDone 411 = .ok (.putfield 49, 3) := by decide +kernel
theorem dM_isDone_414 : decode cM_isDone 414 = .ok (.iload 5, 2) := by decide +kernel
theorem dM_isDone_416 : decode cM_isDone 416 = .ok (.iconst 2, 1) := by decide +kernel
theorem dM_isDone_417 : decode cM_isDone 417 = .ok (.if_icmp .ne 289, 3) := by decide +kernel
theorem dM_isDone_420 : decode cM_isDone 420 = .ok (.iload_n 1, 1) := by decide +kernel
theorem dM_isDone_421 : decode cM_isDone 421 = .ok (.ifCond .le 285, 3) := by decide +kernel
theorem dM_isDone_424 : decode cM_isDone 424 = .ok (.aload_n 0, 1) := by decide +kernel
theorem dM_isDone_425 : decode cM_isDone 425 = .ok (.dup, 1) := by decide +kernel
theorem dM_isDone_426 : decode cM_isDone 426 = .ok (.getfield 55, 3) := by decide +kernel
theorem dM_isDone_429 : decode cM_isDone 429 = .ok (.iconst 1, 1) := by decide +kernel
theorem dM_isDone_430 : decode cM_isDone 430 = .ok (.iadd, 1) := by decide +kernel
theorem dM_isDone_431 : decode cM_isDone 431 = .ok (.putfield 55, 3) := by decide +kernel
theorem dM_isDone_434 : decode cM_isDone 434 = .ok (.goto 272, 3) := by decide +kernel
theorem dM_isDone_437 : decode cM_isDone 437 = .ok (.iload 5, 2) := by decide +kernel
theorem dM_isDone_439 : decode cM_isDone 439 = .ok (.bipush 14, 2) := by decide +kernel
theorem dM_isDone_441 : decode cM_isDone 441 = .ok (.if_icmp .ne 32, 3) := by decide +kernel
theorem dM_isDone_444 : decode cM_isDone 444 = .ok (.aload_n 0, 1) := by decide +kernel
theorem dM_isDone_445 : decode cM_isDone 445 = .ok (.getfield 20, 3) := by decide +kernel
theorem dM_isDone_448 : decode cM_isDone 448 = .ok (.aload_n 0, 1) := by decide +kernel
theorem dM_isDone_449 : decode cM_isDone 449 = .ok (.getfield 49, 3) := by decide +kernel
theorem dM_isDone_452 : decode cM_isDone 452 = .ok (.iconst 1, 1) := by decide +kernel
theorem dM_isDone_453 : decode cM_isDone 453 = .ok (.isub, 1) := by decide +kernel
theorem dM_isDone_454 : decode cM_isDone 454 = .ok (.lload 12, 2) := by decide +kernel
theorem dM_isDone_456 : decode cM_isDone 456 = .ok (.lastore, 1) := by decide +kernel
theorem dM_isDone_457 : decode cM_isDone 457 = .ok (.aload_n 0, 1) := by decide +kernel
theorem dM_isDone_458 : decode cM_isDone 458 = .ok (.getfield 20, 3) := by decide +kernel
theorem dM_isDone_461 : decode cM_isDone 461 = .ok (.aload_n 0, 1) := by decide +kernel
theorem dM_isDone_462 : decode cM_isDone 462 = .ok (.getfield 49, 3) := by decide +kernel
theorem dM_isDone_465 : decode cM_isDone 465 = .ok (.iconst 2, 1) := by decide +kernel
theorem dM_isDone_466 : decode cM_isDone 466 = .ok (.isub, 1) := by decide +kernel
theorem dM_isDone_467 : decode cM_isDone 467 = .ok (.lload 10, 2) := by decide +kernel
theorem dM_isDone_469 : decode cM_isDone 469 = .ok (.lastore, 1) := by decide +kernel
theorem dM_isDone_470 : decode cM_isDone 470 = .ok (.goto 236, 3) := by decide +kernel
theorem dM_isDone_473 : decode cM_isDone 473 = .ok (.iload 5, 2) := by decide +kernel
theorem dM_isDone_475 : decode cM_isDone 475 = .ok (.bipush 15, 2) := by decide +kernel
theorem dM_isDone_477 : decode cM_isDone 477 = .ok (.if_icmp .ne 11, 3) := by decide +kernel
theorem dM_isDone_480 : decode cM_isDone 480 = .ok (.lload 6, 2) := by decide +kernel
theorem dM_isDone_482 : decode cM_isDone 482 = .ok (.l2i, 1) := by decide +kernel
theorem dM_isDone_483 : decode cM_isDone 483 = .ok (.istore 4, 2) := by decide +kernel
theorem dM_isDone_485 : decode cM_isDone 485 = .ok (.goto 221, 3) := by decide +kernel
theorem dM_isDone_488 : decode cM_isDone 488 = .ok (.aload_n 0, 1) := by decide +kernel
theorem dM_isDone_489 : decode cM_isDone 489 = .ok (.dup, 1) := by decide +kernel
theorem dM_isDone_490 : decode cM_isDone 490 = .ok (.getfield 49, 3) := by decide +kernel
theorem dM_isDone_493 : decode cM_isDone 493 = .ok (.iload 9, 2) := by decide +kernel
theorem dM_isDone_495 : decode cM_isDone 495 = .ok (.isub, 1) := by decide +kernel
theorem dM_isDone_496 : decode cM_isDone 496 = .ok (.putfield 49, 3) := by decide +kernel
theorem dM_isDone_499 : decode cM_isDone 499 = .ok (.iload 5, 2) := by decide +kernel
theorem dM_isDone_501 : decode cM_isDone 501 = .ok (.iconst 5, 1) := by decide +kernel
theorem dM_isDone_502 : decode cM_isDone 502 = .ok (.if_icmp .ne 13, 3) := by decide +kernel
theorem dM_isDone_505 : decode cM_isDone 505 = .ok (.aload_n 0, 1) := by decide +kernel
theorem dM_isDone_506 : decode cM_isDone 506 = .ok (.getfield 23, 3) := by decide +kernel
theorem dM_isDone_509 : decode cM_isDone 509 = .ok (.lload 6, 2) := by decide +kernel
theorem dM_isDone_511 : decode cM_isDone 511 = .ok (.l2i, 1) := by decide +kernel
theorem dM_isDone_512 : decode cM_isDone 512 = .ok (.lload 10, 2) := by decide +kernel
theorem dM_isDone_514 : decode cM_isDone 514 = .ok (.lastore, 1) := by decide +kernel
theorem dM_isDone_515 : decode cM_isDone 515 = .ok (.iload 5, 2) := by decide +kernel
theorem dM_isDone_517 : decode cM_isDone 517 = .ok (.bipush 16, 2) := by decide +kernel
theorem dM_isDone_519 : decode cM_isDone 519 = .ok (.if_icmp .ne 15, 3) := by decide +kernel
theorem dM_isDone_522 : decode cM_isDone 522 = .ok (.lload 10, 2) := by decide +kernel
theorem dM_isDone_524 : decode cM_isDone 524 = .ok (.lconst 0, 1) := by decide +kernel
theorem dM_isDone_525 : decode cM_isDone 525 = .ok (.lcmp, 1) := by decide +kernel
theorem dM_isDone_526 : decode cM_isDone 526 = .ok (.ifCond .ne 8, 3) := by decide +kernel
theorem dM_isDone_529 : decode cM_isDone 529 = .ok (.lload 6, 2) := by decide +kernel
theorem dM_isDone_531 : decode cM_isDone 531 = .ok (.l2i, 1) := by decide +kernel
theorem dM_isDone_532 : decode cM_isDone 532 = .ok (.istore 4, 2) := by decide +kernel
theorem dM_isDone_534 : decode cM_isDone 534 = .ok (.iload 5, 2) := by decide +kernel
theorem dM_isDone_536 : decode cM_isDone 536 = .ok (.bipush 17, 2) := by decide +kernel
theorem dM_isDone_538 : decode cM_isDone 538 = .ok (.if_icmp .ne 44, 3) := by decide +kernel
theorem dM_isDone_541 : decode cM_isDone 541 = .ok (.aload_n 0, 1) := by decide +kernel
theorem dM_isDone_542 : decode cM_isDone 542 = .ok (.getfield 26, 3) := by decide +kernel
theorem dM_isDone_545 : decode cM_isDone 545 = .ok (.aload_n 0, 1) := by decide +kernel
theorem dM_isDone_546 : decode cM_isDone 546 = .ok (.getfield 52, 3) := by decide +kernel
theorem dM_isDone_549 : decode cM_isDone 549 = .ok (.iload_n 1, 1) := by decide +kernel
theorem dM_isDone_550 : decode cM_isDone 550 = .ok (.iconst 1, 1) := by decide +kernel
theorem dM_isDone_551 : decode cM_isDone 551 = .ok (.if_icmp .ne 7, 3) := by decide +kernel
theorem dM_isDone_554 : decode cM_isDone 554 = .ok (.lload_n 2, 1) := by decide +kernel
theorem dM_isDone_555 : decode cM_isDone 555 = .ok (.goto 5, 3) := by decide +kernel
theorem dM_isDone_558 : decode cM_isDone 558 = .ok (.lload 12, 2) := by decide +kernel
theorem dM_isDone_560 : decode cM_isDone 560 = .ok (.lastore, 1) := by decide +kernel
theorem dM_isDone_561 : decode cM_isDone 561 = .ok (.aload_n 0, 1) := by decide +kernel
theorem dM_isDone_562 : decode cM_isDone 562 = .ok (.getfield 29, 3) := by decide +kernel
theorem dM_isDone_565 : decode cM_isDone 565 = .ok (.aload_n 0, 1) := by decide +kernel
theorem dM_isDone_566 : decode cM_isDone 566 = .ok (.getfield 52, 3) := by decide +kernel
theorem dM_isDone_569 : decode cM_isDone 569 = .ok (.lload 10, 2) := by decide +kernel
theorem dM_isDone_571 : decode cM_isDone 571 = .ok (.lastore, 1) := by decide +kernel
theorem dM_isDone_572 : decode cM_isDone 572 = .ok (.aload_n 0, 1) := by decide +kernel
theorem dM_isDone_573 : decode cM_isDone 573 = .ok (.dup, 1) := by decide +kernel
theorem dM_isDone_574 : decode cM_isDone 574 = .ok (.getfield 52, 3) := by decide +kernel
theorem dM_isDone_577 : decode cM_isDone 577 = .ok (.iconst 1, 1) := by decide +kernel
theorem dM_isDone_578 : decode cM_isDone 578 = .ok (.iadd, 1) := by decide +kernel
theorem dM_isDone_579 : decode cM_isDone 579 = .ok (.putfield 52, 3) := by decide +kernel
theorem dM_isDone_582 : decode cM_isDone 582 = .ok (.iload 5, 2) := by decide +kernel
theorem dM_isDone_584 : decode cM_isDone 584 = .ok (.bipush 6, 2) := by decide +kernel
theorem dM_isDone_586 : decode cM_isDone 586 = .ok (.if_icmp .lt 120, 3) := by decide +kernel
theorem dM_isDone_589 : decode cM_isDone 589 = .ok (.iload 5, 2) := by decide +kernel
theorem dM_isDone_591 : decode cM_isDone 591 = .ok (.bipush 11, 2) := by decide +kernel
theorem dM_isDone_593 : decode cM_isDone 593 = .ok (.if_icmp .gt 113, 3) := by decide +kernel
theorem dM_isDone_596 : decode cM_isDone 596 = .ok (.aload_n 0, 1) := by decide +kernel
theorem dM_isDone_597 : decode cM_isDone 597 = .ok (.getfield 20, 3) := by decide +kernel
theorem dM_isDone_600 : decode cM_isDone 600 = .ok (.aload_n 0, 1) := by decide +kernel
theorem dM_isDone_601 : decode cM_isDone 601 = .ok (.getfield 49, 3) := by decide +kernel
theorem dM_isDone_604 : decode cM_isDone 604 = .ok (.iload 5, 2) := by decide +kernel
theorem dM_isDone_606 : decode cM_isDone 606 = .ok (.bipush 6, 2) := by decide +kernel
theorem dM_isDone_608 : decode cM_isDone 608 = .ok (.if_icmp .ne 11, 3) := by decide +kernel
theorem dM_isDone_611 : decode cM_isDone 611 = .ok (.lload 12, 2) := by decide +kernel
theorem dM_isDone_613 : decode cM_isDone 613 = .ok (.lload 10, 2) := by decide +kernel
theorem dM_isDone_615 : decode cM_isDone 615 = .ok (.ladd, 1) := by decide +kernel
theorem dM_isDone_616 : decode cM_isDone 616 = .ok (.goto 79, 3) := by decide +kernel
theorem dM_isDone_619 : decode cM_isDone 619 = .ok (.iload 5, 2) := by decide +kernel
theorem dM_isDone_621 : decode cM_isDone 621 = .ok (.bipush 7, 2) := by decide +kernel
theorem dM_isDone_623 : decode cM_isDone 623 = .ok (.if_icmp .ne 11, 3) := by decide +kernel
theorem dM_isDone_626 : decode cM_isDone 626 = .ok (.lload 12, 2) := by decide +kernel
theorem dM_isDone_628 : decode cM_isDone 628 = .ok (.lload 10, 2) := by decide +kernel
theorem dM_isDone_630 : decode cM_isDone 630 = .ok (.lsub, 1) := by decide +kernel
theorem dM_isDone_631 : decode cM_isDone 631 = .ok (.goto 64, 3) := by decide +kernel
theorem dM_isDone_634 : decode cM_isDone 634 = .ok (.iload 5, 2) := by decide +kernel
theorem dM_isDone_636 : decode cM_isDone 636 = .ok (.bipush 8, 2) := by decide +kernel
theorem dM_isDone_638 : decode cM_isDone 638 = .ok (.if_icmp .ne 11, 3) := by decide +kernel
theorem dM_isDone_641 : decode cM_isDone 641 = .ok (.lload 12, 2) := by decide +kernel
theorem dM_isDone_643 : decode cM_isDone 643 = .ok (.lload 10, 2) := by decide +kernel
theorem dM_isDone_645 : decode cM_isDone 645 = .ok (.lmul, 1) := by decide +kernel
theorem dM_isDone_646 : decode cM_isDone 646 = .ok (.goto 49, 3) := by decide +kernel
theorem dM_isDone_649 : decode cM_isDone 649 = .ok (.iload 5, 2) := by decide +kernel
theorem dM_isDone_651 : decode cM_isDone 651 = .ok (.bipush 9, 2) := by decide +kernel
theorem dM_isDone_653 : decode cM_isDone 653 = .ok (.if_icmp .ne 11, 3) := by decide +kernel
theorem dM_isDone_656 : decode cM_isDone 656 = .ok (.lload 12, 2) := by decide +kernel
theorem dM_isDone_658 : decode cM_isDone 658 = .ok (.lload 10, 2) := by decide +kernel
theorem dM_isDone_660 : decode cM_isDone 660 = .ok (.ldiv, 1) := by decide +kernel
theorem dM_isDone_661 : decode cM_isDone 661 = .ok (.goto 34, 3) := by decide +kernel
theorem dM_isDone_664 : decode cM_isDone 664 = .ok (.iload 5, 2) := by decide +kernel
theorem dM_isDone_666 : decode cM_isDone 666 = .ok (.bipush 10, 2) := by decide +kernel
theorem dM_isDone_668 : decode cM_isDone 668 = .ok (.if_icmp .ne 14, 3) := by decide +kernel
theorem dM_isDone_671 : decode cM_isDone 671 = .ok (.lload 12, 2) := by decide +kernel
theorem dM_isDone_673 : decode cM_isDone 673 = .ok (.lload 10, 2) := by decide +kernel
theorem dM_isDone_675 : decode cM_isDone 675 = .ok (.lcmp, 1) := by decide +kernel
theorem dM_isDone_676 : decode cM_isDone 676 = .ok (.ifCond .ge 18, 3) := by decide +kernel
theorem dM_isDone_679 : decode cM_isDone 679 = .ok (.goto 11, 3) := by decide +kernel
theorem dM_isDone_682 : decode cM_isDone 682 = .ok (.lload 12, 2) := by decide +kernel
theorem dM_isDone_684 : decode cM_isDone 684 = .ok (.lload 10, 2) := by decide +kernel
theorem dM_isDone_686 : decode cM_isDone 686 = .ok (.lcmp, 1) := by decide +kernel
theorem dM_isDone_687 : decode cM_isDone 687 = .ok (.ifCond .ne 7, 3) := by decide +kernel
theorem dM_isDone_690 : decode cM_isDone 690 = .ok (.lconst 1, 1) := by decide +kernel
theorem dM_isDone_691 : decode cM_isDone 691 = .ok (.goto 4, 3) := by decide +kernel
theorem dM_isDone_694 : decode cM_isDone 694 = .ok (.lconst 0, 1) := by decide +kernel
theorem dM_isDone_695 : decode cM_isDone 695 = .ok (.lastore, 1) := by decide +kernel
theorem dM_isDone_696 : decode cM_isDone 696 = .ok (.aload_n 0, 1) := by decide +kernel
theorem dM_isDone_697 : decode cM_isDone 697 = .ok (.dup, 1) := by decide +kernel
theorem dM_isDone_698 : decode cM_isDone 698 = .ok (.getfield 49, 3) := by decide +kernel
theorem dM_isDone_701 : decode cM_isDone 701 = .ok (.iconst 1, 1) := by decide +kernel
theorem dM_isDone_702 : decode cM_isDone 702 = .ok (.iadd, 1) := by decide +kernel
theorem dM_isDone_703 : decode cM_isDone 703 = .ok (.putfield 49, 3) := by decide +kernel
theorem dM_isDone_706 : decode cM_isDone 706 = .ok (.goto (-703), 3) := by decide +kernel
theorem dM_isDone_709 : decode cM_isDone 709 = .ok (.iconst 1, 1) := by decide +kernel
theorem dM_isDone_710 : decode cM_isDone 710 = .ok (.ireturn, 1) := by decide +kernel
theorem dM_emitted_0 : decode cM_emitted 0 = .ok (.aload_n 0, 1) := by decide +kernel
theorem dM_emitted_1 : decode cM_emitted 1 = .ok (.iload_n 1, 1) := by decide +kernel
theorem dM_emitted_2 : decode cM_emitted 2 = .ok (.ifCond .lt 11, 3) := by decide +kernel
theorem dM_emitted_5 : decode cM_emitted 5 = .ok (.iload_n 1, 1) := by decide +kernel
theorem dM_emitted_6 : decode cM_emitted 6 = .ok (.aload_n 0, 1) := by decide +kernel
theorem dM_emitted_7 : decode cM_emitted 7 = .ok (.getfield 52, 3) := by decide +kernel
theorem dM_emitted_10 : decode cM_emitted 10 = .ok (.if_icmp .lt 7, 3) := by decide +kernel
theorem dM_emitted_13 : decode cM_emitted 13 = .ok (.iconst 1, 1) := by decide +kernel
theorem dM_emitted_14 : decode cM_emitted 14 = .ok (.goto 4, 3) := by decide +kernel
theorem dM_emitted_17 : decode cM_emitted 17 = .ok (.iconst 0, 1) := by decide +kernel
theorem dM_emitted_18 : decode cM_emitted 18 = .ok (.putfield 32, 3) := by decide +kernel
theorem dM_emitted_21 : decode cM_emitted 21 = .ok (.aload_n 0, 1) := by decide +kernel
theorem dM_emitted_22 : decode cM_emitted 22 = .ok (.getfield 32, 3) := by decide +kernel
theorem dM_emitted_25 : decode cM_emitted 25 = .ok (.ifCond .le 5, 3) := by decide +kernel
theorem dM_emitted_28 : decode cM_emitted 28 = .ok (.lconst 0, 1) := by decide +kernel
theorem dM_emitted_29 : decode cM_emitted 29 = .ok (.lreturn, 1) := by decide +kernel
theorem dM_emitted_30 : decode cM_emitted 30 = .ok (.iload_n 2, 1) := by decide +kernel
theorem dM_emitted_31 : decode cM_emitted 31 = .ok (.ifCond .eq 12, 3) := by decide +kernel
theorem dM_emitted_34 : decode cM_emitted 34 = .ok (.aload_n 0, 1) := by decide +kernel
theorem dM_emitted_35 : decode cM_emitted 35 = .ok (.getfield 29, 3) := by decide +kernel
theorem dM_emitted_38 : decode cM_emitted 38 = .ok (.iload_n 1, 1) := by decide +kernel
theorem dM_emitted_39 : decode cM_emitted 39 = .ok (.laload, 1) := by decide +kernel
theorem dM_emitted_40 : decode cM_emitted 40 = .ok (.goto 9, 3) := by decide +kernel
theorem dM_emitted_43 : decode cM_emitted 43 = .ok (.aload_n 0, 1) := by decide +kernel
theorem dM_emitted_44 : decode cM_emitted 44 = .ok (.getfield 26, 3) := by decide +kernel
theorem dM_emitted_47 : decode cM_emitted 47 = .ok (.iload_n 1, 1) := by decide +kernel
theorem dM_emitted_48 : decode cM_emitted 48 = .ok (.laload, 1) := by decide +kernel
theorem dM_emitted_49 : decode cM_emitted 49 = .ok (.lreturn, 1) := by decide +kernel
theorem dM_told_0 : decode cM_told 0 = .ok (.aload_n 0, 1) := by decide +kernel
theorem dM_told_1 : decode cM_told 1 = .ok (.iload_n 1, 1) := by decide +kernel
theorem dM_told_2 : decode cM_told 2 = .ok (.i2l, 1) := by decide +kernel
theorem dM_told_3 : decode cM_told 3 = .ok (.iconst 0, 1) := by decide +kernel
theorem dM_told_4 : decode cM_told 4 = .ok (.iconst 4, 1) := by decide +kernel
theorem dM_told_5 : decode cM_told 5 = .ok (.invokestatic 36, 3) := by decide +kernel
theorem dM_told_8 : decode cM_told 8 = .ok (.ifCond .eq 7, 3) := by decide +kernel
theorem dM_told_11 : decode cM_told 11 = .ok (.iconst 0, 1) := by decide +kernel
theorem dM_told_12 : decode cM_told 12 = .ok (.goto 4, 3) := by decide +kernel
theorem dM_told_15 : decode cM_told 15 = .ok (.iconst 1, 1) := by decide +kernel
theorem dM_told_16 : decode cM_told 16 = .ok (.putfield 32, 3) := by decide +kernel
theorem dM_told_19 : decode cM_told 19 = .ok (.aload_n 0, 1) := by decide +kernel
theorem dM_told_20 : decode cM_told 20 = .ok (.getfield 32, 3) := by decide +kernel
theorem dM_told_23 : decode cM_told 23 = .ok (.ifCond .le 5, 3) := by decide +kernel
theorem dM_told_26 : decode cM_told 26 = .ok (.iconst 0, 1) := by decide +kernel
theorem dM_told_27 : decode cM_told 27 = .ok (.ireturn, 1) := by decide +kernel
theorem dM_told_28 : decode cM_told 28 = .ok (.iload_n 1, 1) := by decide +kernel
theorem dM_told_29 : decode cM_told 29 = .ok (.ifCond .ne 10, 3) := by decide +kernel
theorem dM_told_32 : decode cM_told 32 = .ok (.aload_n 0, 1) := by decide +kernel
theorem dM_told_33 : decode cM_told 33 = .ok (.getfield 46, 3) := by decide +kernel
theorem dM_told_36 : decode cM_told 36 = .ok (.goto 51, 3) := by decide +kernel
theorem dM_told_39 : decode cM_told 39 = .ok (.iload_n 1, 1) := by decide +kernel
theorem dM_told_40 : decode cM_told 40 = .ok (.iconst 1, 1) := by decide +kernel
theorem dM_told_41 : decode cM_told 41 = .ok (.if_icmp .ne 10, 3) := by decide +kernel
theorem dM_told_44 : decode cM_told 44 = .ok (.aload_n 0, 1) := by decide +kernel
theorem dM_told_45 : decode cM_told 45 = .ok (.getfield 49, 3) := by decide +kernel
theorem dM_told_48 : decode cM_told 48 = .ok (.goto 39, 3) := by decide +kernel
theorem dM_told_51 : decode cM_told 51 = .ok (.iload_n 1, 1) := by decide +kernel
theorem dM_told_52 : decode cM_told 52 = .ok (.iconst 2, 1) := by decide +kernel
theorem dM_told_53 : decode cM_told 53 = .ok (.if_icmp .ne 10, 3) := by decide +kernel
theorem dM_told_56 : decode cM_told 56 = .ok (.aload_n 0, 1) := by decide +kernel
theorem dM_told_57 : decode cM_told 57 = .ok (.getfield 52, 3) := by decide +kernel
theorem dM_told_60 : decode cM_told 60 = .ok (.goto 27, 3) := by decide +kernel
theorem dM_told_63 : decode cM_told 63 = .ok (.iload_n 1, 1) := by decide +kernel
theorem dM_told_64 : decode cM_told 64 = .ok (.iconst 3, 1) := by decide +kernel
theorem dM_told_65 : decode cM_told 65 = .ok (.if_icmp .ne 10, 3) := by decide +kernel
theorem dM_told_68 : decode cM_told 68 = .ok (.aload_n 0, 1) := by decide +kernel
theorem dM_told_69 : decode cM_told 69 = .ok (.getfield 55, 3) := by decide +kernel
theorem dM_told_72 : decode cM_told 72 = .ok (.goto 15, 3) := by decide +kernel
theorem dM_told_75 : decode cM_told 75 = .ok (.aload_n 0, 1) := by decide +kernel
theorem dM_told_76 : decode cM_told 76 = .ok (.getfield 62, 3) := by decide +kernel
theorem dM_told_79 : decode cM_told 79 = .ok (.ifCond .eq 7, 3) := by decide +kernel
theorem dM_told_82 : decode cM_told 82 = .ok (.iconst 1, 1) := by decide +kernel
theorem dM_told_83 : decode cM_told 83 = .ok (.goto 4, 3) := by decide +kernel
theorem dM_told_86 : decode cM_told 86 = .ok (.iconst 0, 1) := by decide +kernel
theorem dM_told_87 : decode cM_told 87 = .ok (.ireturn, 1) := by decide +kernel
theorem dM_cell_0 : decode cM_cell 0 = .ok (.aload_n 0, 1) := by decide +kernel
theorem dM_cell_1 : decode cM_cell 1 = .ok (.iload_n 1, 1) := by decide +kernel
theorem dM_cell_2 : decode cM_cell 2 = .ok (.i2l, 1) := by decide +kernel
theorem dM_cell_3 : decode cM_cell 3 = .ok (.iconst 0, 1) := by decide +kernel
theorem dM_cell_4 : decode cM_cell 4 = .ok (.iconst 3, 1) := by decide +kernel
theorem dM_cell_5 : decode cM_cell 5 = .ok (.invokestatic 36, 3) := by decide +kernel
theorem dM_cell_8 : decode cM_cell 8 = .ok (.ifCond .eq 7, 3) := by decide +kernel
theorem dM_cell_11 : decode cM_cell 11 = .ok (.iconst 0, 1) := by decide +kernel
theorem dM_cell_12 : decode cM_cell 12 = .ok (.goto 4, 3) := by decide +kernel
theorem dM_cell_15 : decode cM_cell 15 = .ok (.iconst 1, 1) := by decide +kernel
theorem dM_cell_16 : decode cM_cell 16 = .ok (.putfield 32, 3) := by decide +kernel
theorem dM_cell_19 : decode cM_cell 19 = .ok (.aload_n 0, 1) := by decide +kernel
theorem dM_cell_20 : decode cM_cell 20 = .ok (.getfield 32, 3) := by decide +kernel
theorem dM_cell_23 : decode cM_cell 23 = .ok (.ifCond .le 7, 3) := by decide +kernel
theorem dM_cell_26 : decode cM_cell 26 = .ok (.lconst 0, 1) := by decide +kernel
theorem dM_cell_27 : decode cM_cell 27 = .ok (.goto 9, 3) := by decide +kernel
theorem dM_cell_30 : decode cM_cell 30 = .ok (.aload_n 0, 1) := by decide +kernel
theorem dM_cell_31 : decode cM_cell 31 = .ok (.getfield 23, 3) := by decide +kernel
theorem dM_cell_34 : decode cM_cell 34 = .ok (.iload_n 1, 1) := by decide +kernel
theorem dM_cell_35 : decode cM_cell 35 = .ok (.laload, 1) := by decide +kernel
theorem dM_cell_36 : decode cM_cell 36 = .ok (.lreturn, 1) := by decide +kernel
