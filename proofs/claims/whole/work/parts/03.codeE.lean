theorem dE_init_0 : decode cE_init 0 = .ok (.aload_n 0, 1) := by decide +kernel
theorem dE_init_1 : decode cE_init 1 = .ok (.invokespecial 1, 3) := by decide +kernel
theorem dE_init_4 : decode cE_init 4 = .ok (.aload_n 0, 1) := by decide +kernel
theorem dE_init_5 : decode cE_init 5 = .ok (.bipush 40, 2) := by decide +kernel
theorem dE_init_7 : decode cE_init 7 = .ok (.newarray .int, 2) := by decide +kernel
theorem dE_init_9 : decode cE_init 9 = .ok (.putfield 9, 3) := by decide +kernel
theorem dE_init_12 : decode cE_init 12 = .ok (.aload_n 0, 1) := by decide +kernel
theorem dE_init_13 : decode cE_init 13 = .ok (.bipush 40, 2) := by decide +kernel
theorem dE_init_15 : decode cE_init 15 = .ok (.newarray .long, 2) := by decide +kernel
theorem dE_init_17 : decode cE_init 17 = .ok (.putfield 13, 3) := by decide +kernel
theorem dE_init_20 : decode cE_init 20 = .ok (.aload_n 0, 1) := by decide +kernel
theorem dE_init_21 : decode cE_init 21 = .ok (.bipush 40, 2) := by decide +kernel
theorem dE_init_23 : decode cE_init 23 = .ok (.newarray .long, 2) := by decide +kernel
theorem dE_init_25 : decode cE_init 25 = .ok (.putfield 17, 3) := by decide +kernel
theorem dE_init_28 : decode cE_init 28 = .ok (.aload_n 0, 1) := by decide +kernel
theorem dE_init_29 : decode cE_init 29 = .ok (.bipush 12, 2) := by decide +kernel
theorem dE_init_31 : decode cE_init 31 = .ok (.newarray .long, 2) := by decide +kernel
theorem dE_init_33 : decode cE_init 33 = .ok (.putfield 20, 3) := by decide +kernel
theorem dE_init_36 : decode cE_init 36 = .ok (.aload_n 0, 1) := by decide +kernel
theorem dE_init_37 : decode cE_init 37 = .ok (.iconst 4, 1) := by decide +kernel
theorem dE_init_38 : decode cE_init 38 = .ok (.newarray .long, 2) := by decide +kernel
theorem dE_init_40 : decode cE_init 40 = .ok (.putfield 23, 3) := by decide +kernel
theorem dE_init_43 : decode cE_init 43 = .ok (.aload_n 0, 1) := by decide +kernel
theorem dE_init_44 : decode cE_init 44 = .ok (.iconst 4, 1) := by decide +kernel
theorem dE_init_45 : decode cE_init 45 = .ok (.newarray .long, 2) := by decide +kernel
theorem dE_init_47 : decode cE_init 47 = .ok (.putfield 26, 3) := by decide +kernel
theorem dE_init_50 : decode cE_init 50 = .ok (.aload_n 0, 1) := by decide +kernel
theorem dE_init_51 : decode cE_init 51 = .ok (.iconst 4, 1) := by decide +kernel
theorem dE_init_52 : decode cE_init 52 = .ok (.newarray .long, 2) := by decide +kernel
theorem dE_init_54 : decode cE_init 54 = .ok (.putfield 29, 3) := by decide +kernel
theorem dE_init_57 : decode cE_init 57 = .ok (.return_, 1) := by decide +kernel
theorem dE_code_0 : decode cE_code 0 = .ok (.iload_n 1, 1) := by decide +kernel
theorem dE_code_1 : decode cE_code 1 = .ok (.lload_n 2, 1) := by decide +kernel
theorem dE_code_2 : decode cE_code 2 = .ok (.invokestatic 32, 3) := by decide +kernel
theorem dE_code_5 : decode cE_code 5 = .ok (.ifCond .ne 13, 3) := by decide +kernel
theorem dE_code_8 : decode cE_code 8 = .ok (.new 36, 3) := by decide +kernel
theorem dE_code_11 : decode cE_code 11 = .ok (.dup, 1) := by decide +kernel
theorem dE_code_12 : decode cE_code 12 = .ok (.ldc 38, 2) := by decide +kernel
theorem dE_code_14 : decode cE_code 14 = .ok (.invokespecial 40, 3) := by decide +kernel
theorem dE_code_17 : decode cE_code 17 = .ok (.athrow, 1) := by decide +kernel
theorem dE_code_18 : decode cE_code 18 = .ok (.aload_n 0, 1) := by decide +kernel
theorem dE_code_19 : decode cE_code 19 = .ok (.getfield 43, 3) := by decide +kernel
theorem dE_code_22 : decode cE_code 22 = .ok (.bipush 40, 2) := by decide +kernel
theorem dE_code_24 : decode cE_code 24 = .ok (.if_icmp .lt 13, 3) := by decide +kernel
theorem dE_code_27 : decode cE_code 27 = .ok (.new 47, 3) := by decide +kernel
theorem dE_code_30 : decode cE_code 30 = .ok (.dup, 1) := by decide +kernel
theorem dE_code_31 : decode cE_code 31 = .ok (.ldc 49, 2) := by decide +kernel
theorem dE_code_33 : decode cE_code 33 = .ok (.invokespecial 51, 3) := by decide +kernel
theorem dE_code_36 : decode cE_code 36 = .ok (.athrow, 1) := by decide +kernel
theorem dE_code_37 : decode cE_code 37 = .ok (.aload_n 0, 1) := by decide +kernel
theorem dE_code_38 : decode cE_code 38 = .ok (.getfield 9, 3) := by decide +kernel
theorem dE_code_41 : decode cE_code 41 = .ok (.aload_n 0, 1) := by decide +kernel
theorem dE_code_42 : decode cE_code 42 = .ok (.getfield 43, 3) := by decide +kernel
theorem dE_code_45 : decode cE_code 45 = .ok (.iload_n 1, 1) := by decide +kernel
theorem dE_code_46 : decode cE_code 46 = .ok (.iastore, 1) := by decide +kernel
theorem dE_code_47 : decode cE_code 47 = .ok (.aload_n 0, 1) := by decide +kernel
theorem dE_code_48 : decode cE_code 48 = .ok (.getfield 13, 3) := by decide +kernel
theorem dE_code_51 : decode cE_code 51 = .ok (.aload_n 0, 1) := by decide +kernel
theorem dE_code_52 : decode cE_code 52 = .ok (.getfield 43, 3) := by decide +kernel
theorem dE_code_55 : decode cE_code 55 = .ok (.lload_n 2, 1) := by decide +kernel
theorem dE_code_56 : decode cE_code 56 = .ok (.lastore, 1) := by decide +kernel
theorem dE_code_57 : decode cE_code 57 = .ok (.aload_n 0, 1) := by decide +kernel
theorem dE_code_58 : decode cE_code 58 = .ok (.dup, 1) := by decide +kernel
theorem dE_code_59 : decode cE_code 59 = .ok (.getfield 43, 3) := by decide +kernel
theorem dE_code_62 : decode cE_code 62 = .ok (.iconst 1, 1) := by decide +kernel
theorem dE_code_63 : decode cE_code 63 = .ok (.iadd, 1) := by decide +kernel
theorem dE_code_64 : decode cE_code 64 = .ok (.putfield 43, 3) := by decide +kernel
theorem dE_code_67 : decode cE_code 67 = .ok (.aload_n 0, 1) := by decide +kernel
theorem dE_code_68 : decode cE_code 68 = .ok (.getfield 43, 3) := by decide +kernel
theorem dE_code_71 : decode cE_code 71 = .ok (.ireturn, 1) := by decide +kernel
theorem dE_clear_0 : decode cE_clear 0 = .ok (.aload_n 0, 1) := by decide +kernel
theorem dE_clear_1 : decode cE_clear 1 = .ok (.getfield 43, 3) := by decide +kernel
theorem dE_clear_4 : decode cE_clear 4 = .ok (.istore_n 1, 1) := by decide +kernel
theorem dE_clear_5 : decode cE_clear 5 = .ok (.aload_n 0, 1) := by decide +kernel
theorem dE_clear_6 : decode cE_clear 6 = .ok (.iconst 0, 1) := by decide +kernel
theorem dE_clear_7 : decode cE_clear 7 = .ok (.putfield 43, 3) := by decide +kernel
theorem dE_clear_10 : decode cE_clear 10 = .ok (.iload_n 1, 1) := by decide +kernel
theorem dE_clear_11 : decode cE_clear 11 = .ok (.ireturn, 1) := by decide +kernel
theorem dE_value_0 : decode cE_value 0 = .ok (.aload_n 0, 1) := by decide +kernel
theorem dE_value_1 : decode cE_value 1 = .ok (.getfield 52, 3) := by decide +kernel
theorem dE_value_4 : decode cE_value 4 = .ok (.bipush 40, 2) := by decide +kernel
theorem dE_value_6 : decode cE_value 6 = .ok (.if_icmp .lt 13, 3) := by decide +kernel
theorem dE_value_9 : decode cE_value 9 = .ok (.new 47, 3) := by decide +kernel
theorem dE_value_12 : decode cE_value 12 = .ok (.dup, 1) := by decide +kernel
theorem dE_value_13 : decode cE_value 13 = .ok (.ldc 55, 2) := by decide +kernel
theorem dE_value_15 : decode cE_value 15 = .ok (.invokespecial 51, 3) := by decide +kernel
theorem dE_value_18 : decode cE_value 18 = .ok (.athrow, 1) := by decide +kernel
theorem dE_value_19 : decode cE_value 19 = .ok (.aload_n 0, 1) := by decide +kernel
theorem dE_value_20 : decode cE_value 20 = .ok (.getfield 17, 3) := by decide +kernel
theorem dE_value_23 : decode cE_value 23 = .ok (.aload_n 0, 1) := by decide +kernel
theorem dE_value_24 : decode cE_value 24 = .ok (.getfield 52, 3) := by decide +kernel
theorem dE_value_27 : decode cE_value 27 = .ok (.lload_n 1, 1) := by decide +kernel
theorem dE_value_28 : decode cE_value 28 = .ok (.lastore, 1) := by decide +kernel
theorem dE_value_29 : decode cE_value 29 = .ok (.aload_n 0, 1) := by decide +kernel
theorem dE_value_30 : decode cE_value 30 = .ok (.dup, 1) := by decide +kernel
theorem dE_value_31 : decode cE_value 31 = .ok (.getfield 52, 3) := by decide +kernel
theorem dE_value_34 : decode cE_value 34 = .ok (.iconst 1, 1) := by decide +kernel
theorem dE_value_35 : decode cE_value 35 = .ok (.iadd, 1) := by decide +kernel
theorem dE_value_36 : decode cE_value 36 = .ok (.putfield 52, 3) := by decide +kernel
theorem dE_value_39 : decode cE_value 39 = .ok (.aload_n 0, 1) := by decide +kernel
theorem dE_value_40 : decode cE_value 40 = .ok (.getfield 52, 3) := by decide +kernel
theorem dE_value_43 : decode cE_value 43 = .ok (.ireturn, 1) := by decide +kernel
theorem dE_empty_0 : decode cE_empty 0 = .ok (.aload_n 0, 1) := by decide +kernel
theorem dE_empty_1 : decode cE_empty 1 = .ok (.getfield 52, 3) := by decide +kernel
theorem dE_empty_4 : decode cE_empty 4 = .ok (.istore_n 1, 1) := by decide +kernel
theorem dE_empty_5 : decode cE_empty 5 = .ok (.aload_n 0, 1) := by decide +kernel
theorem dE_empty_6 : decode cE_empty 6 = .ok (.iconst 0, 1) := by decide +kernel
theorem dE_empty_7 : decode cE_empty 7 = .ok (.putfield 52, 3) := by decide +kernel
theorem dE_empty_10 : decode cE_empty 10 = .ok (.iload_n 1, 1) := by decide +kernel
theorem dE_empty_11 : decode cE_empty 11 = .ok (.ireturn, 1) := by decide +kernel
theorem dE_call_0 : decode cE_call 0 = .ok (.iload_n 1, 1) := by decide +kernel
theorem dE_call_1 : decode cE_call 1 = .ok (.ifCond .lt 8, 3) := by decide +kernel
theorem dE_call_4 : decode cE_call 4 = .ok (.iload_n 1, 1) := by decide +kernel
theorem dE_call_5 : decode cE_call 5 = .ok (.iconst 2, 1) := by decide +kernel
theorem dE_call_6 : decode cE_call 6 = .ok (.if_icmp .le 13, 3) := by decide +kernel
theorem dE_call_9 : decode cE_call 9 = .ok (.new 36, 3) := by decide +kernel
theorem dE_call_12 : decode cE_call 12 = .ok (.dup, 1) := by decide +kernel
theorem dE_call_13 : decode cE_call 13 = .ok (.ldc 57, 2) := by decide +kernel
theorem dE_call_15 : decode cE_call 15 = .ok (.invokespecial 40, 3) := by decide +kernel
theorem dE_call_18 : decode cE_call 18 = .ok (.athrow, 1) := by decide +kernel
theorem dE_call_19 : decode cE_call 19 = .ok (.aload_n 0, 1) := by decide +kernel
theorem dE_call_20 : decode cE_call 20 = .ok (.invokevirtual 59, 3) := by decide +kernel
theorem dE_call_23 : decode cE_call 23 = .ok (.ifCond .eq 13, 3) := by decide +kernel
theorem dE_call_26 : decode cE_call 26 = .ok (.new 36, 3) := by decide +kernel
theorem dE_call_29 : decode cE_call 29 = .ok (.dup, 1) := by decide +kernel
theorem dE_call_30 : decode cE_call 30 = .ok (.ldc 63, 2) := by decide +kernel
theorem dE_call_32 : decode cE_call 32 = .ok (.invokespecial 40, 3) := by decide +kernel
theorem dE_call_35 : decode cE_call 35 = .ok (.athrow, 1) := by decide +kernel
theorem dE_call_36 : decode cE_call 36 = .ok (.aload_n 0, 1) := by decide +kernel
theorem dE_call_37 : decode cE_call 37 = .ok (.iload_n 1, 1) := by decide +kernel
theorem dE_call_38 : decode cE_call 38 = .ok (.lload_n 2, 1) := by decide +kernel
theorem dE_call_39 : decode cE_call 39 = .ok (.invokevirtual 65, 3) := by decide +kernel
theorem dE_call_42 : decode cE_call 42 = .ok (.aload_n 0, 1) := by decide +kernel
theorem dE_call_43 : decode cE_call 43 = .ok (.invokevirtual 69, 3) := by decide +kernel
theorem dE_call_46 : decode cE_call 46 = .ok (.aload_n 0, 1) := by decide +kernel
theorem dE_call_47 : decode cE_call 47 = .ok (.getfield 72, 3) := by decide +kernel
theorem dE_call_50 : decode cE_call 50 = .ok (.ifCond .eq 13, 3) := by decide +kernel
theorem dE_call_53 : decode cE_call 53 = .ok (.new 76, 3) := by decide +kernel
theorem dE_call_56 : decode cE_call 56 = .ok (.dup, 1) := by decide +kernel
theorem dE_call_57 : decode cE_call 57 = .ok (.ldc 78, 2) := by decide +kernel
theorem dE_call_59 : decode cE_call 59 = .ok (.invokespecial 80, 3) := by decide +kernel
theorem dE_call_62 : decode cE_call 62 = .ok (.athrow, 1) := by decide +kernel
theorem dE_call_63 : decode cE_call 63 = .ok (.aload_n 0, 1) := by decide +kernel
theorem dE_call_64 : decode cE_call 64 = .ok (.getfield 81, 3) := by decide +kernel
theorem dE_call_67 : decode cE_call 67 = .ok (.ireturn, 1) := by decide +kernel
theorem dE_emitted_0 : decode cE_emitted 0 = .ok (.iload_n 1, 1) := by decide +kernel
theorem dE_emitted_1 : decode cE_emitted 1 = .ok (.ifCond .lt 11, 3) := by decide +kernel
theorem dE_emitted_4 : decode cE_emitted 4 = .ok (.iload_n 1, 1) := by decide +kernel
theorem dE_emitted_5 : decode cE_emitted 5 = .ok (.aload_n 0, 1) := by decide +kernel
theorem dE_emitted_6 : decode cE_emitted 6 = .ok (.getfield 81, 3) := by decide +kernel
theorem dE_emitted_9 : decode cE_emitted 9 = .ok (.if_icmp .lt 13, 3) := by decide +kernel
theorem dE_emitted_12 : decode cE_emitted 12 = .ok (.new 84, 3) := by decide +kernel
theorem dE_emitted_15 : decode cE_emitted 15 = .ok (.dup, 1) := by decide +kernel
theorem dE_emitted_16 : decode cE_emitted 16 = .ok (.ldc 86, 2) := by decide +kernel
theorem dE_emitted_18 : decode cE_emitted 18 = .ok (.invokespecial 88, 3) := by decide +kernel
theorem dE_emitted_21 : decode cE_emitted 21 = .ok (.athrow, 1) := by decide +kernel
theorem dE_emitted_22 : decode cE_emitted 22 = .ok (.iload_n 2, 1) := by decide +kernel
theorem dE_emitted_23 : decode cE_emitted 23 = .ok (.ifCond .eq 12, 3) := by decide +kernel
theorem dE_emitted_26 : decode cE_emitted 26 = .ok (.aload_n 0, 1) := by decide +kernel
theorem dE_emitted_27 : decode cE_emitted 27 = .ok (.getfield 29, 3) := by decide +kernel
theorem dE_emitted_30 : decode cE_emitted 30 = .ok (.iload_n 1, 1) := by decide +kernel
theorem dE_emitted_31 : decode cE_emitted 31 = .ok (.laload, 1) := by decide +kernel
theorem dE_emitted_32 : decode cE_emitted 32 = .ok (.goto 9, 3) := by decide +kernel
theorem dE_emitted_35 : decode cE_emitted 35 = .ok (.aload_n 0, 1) := by decide +kernel
theorem dE_emitted_36 : decode cE_emitted 36 = .ok (.getfield 26, 3) := by decide +kernel
theorem dE_emitted_39 : decode cE_emitted 39 = .ok (.iload_n 1, 1) := by decide +kernel
theorem dE_emitted_40 : decode cE_emitted 40 = .ok (.laload, 1) := by decide +kernel
theorem dE_emitted_41 : decode cE_emitted 41 = .ok (.lreturn, 1) := by decide +kernel
theorem dE_told_0 : decode cE_told 0 = .ok (.iload_n 1, 1) := by decide +kernel
theorem dE_told_1 : decode cE_told 1 = .ok (.tableswitch 68 0 4 #[35, 40, 45, 50, 55], 35) := by decide +kernel
theorem dE_told_36 : decode cE_told 36 = .ok (.aload_n 0, 1) := by decide +kernel
theorem dE_told_37 : decode cE_told 37 = .ok (.getfield 89, 3) := by decide +kernel
theorem dE_told_40 : decode cE_told 40 = .ok (.ireturn, 1) := by decide +kernel
theorem dE_told_41 : decode cE_told 41 = .ok (.aload_n 0, 1) := by decide +kernel
theorem dE_told_42 : decode cE_told 42 = .ok (.getfield 92, 3) := by decide +kernel
theorem dE_told_45 : decode cE_told 45 = .ok (.ireturn, 1) := by decide +kernel
theorem dE_told_46 : decode cE_told 46 = .ok (.aload_n 0, 1) := by decide +kernel
theorem dE_told_47 : decode cE_told 47 = .ok (.getfield 81, 3) := by decide +kernel
theorem dE_told_50 : decode cE_told 50 = .ok (.ireturn, 1) := by decide +kernel
theorem dE_told_51 : decode cE_told 51 = .ok (.aload_n 0, 1) := by decide +kernel
theorem dE_told_52 : decode cE_told 52 = .ok (.getfield 95, 3) := by decide +kernel
theorem dE_told_55 : decode cE_told 55 = .ok (.ireturn, 1) := by decide +kernel
theorem dE_told_56 : decode cE_told 56 = .ok (.aload_n 0, 1) := by decide +kernel
theorem dE_told_57 : decode cE_told 57 = .ok (.getfield 72, 3) := by decide +kernel
theorem dE_told_60 : decode cE_told 60 = .ok (.ifCond .eq 7, 3) := by decide +kernel
theorem dE_told_63 : decode cE_told 63 = .ok (.iconst 1, 1) := by decide +kernel
theorem dE_told_64 : decode cE_told 64 = .ok (.goto 4, 3) := by decide +kernel
theorem dE_told_67 : decode cE_told 67 = .ok (.iconst 0, 1) := by decide +kernel
theorem dE_told_68 : decode cE_told 68 = .ok (.ireturn, 1) := by decide +kernel
theorem dE_told_69 : decode cE_told 69 = .ok (.new 36, 3) := by decide +kernel
theorem dE_told_72 : decode cE_told 72 = .ok (.dup, 1) := by decide +kernel
theorem dE_told_73 : decode cE_told 73 = .ok (.ldc 98, 2) := by decide +kernel
theorem dE_told_75 : decode cE_told 75 = .ok (.invokespecial 40, 3) := by decide +kernel
theorem dE_told_78 : decode cE_told 78 = .ok (.athrow, 1) := by decide +kernel
theorem dE_cell_0 : decode cE_cell 0 = .ok (.iload_n 1, 1) := by decide +kernel
theorem dE_cell_1 : decode cE_cell 1 = .ok (.ifCond .lt 8, 3) := by decide +kernel
theorem dE_cell_4 : decode cE_cell 4 = .ok (.iload_n 1, 1) := by decide +kernel
theorem dE_cell_5 : decode cE_cell 5 = .ok (.iconst 4, 1) := by decide +kernel
theorem dE_cell_6 : decode cE_cell 6 = .ok (.if_icmp .lt 13, 3) := by decide +kernel
theorem dE_cell_9 : decode cE_cell 9 = .ok (.new 84, 3) := by decide +kernel
theorem dE_cell_12 : decode cE_cell 12 = .ok (.dup, 1) := by decide +kernel
theorem dE_cell_13 : decode cE_cell 13 = .ok (.ldc 100, 2) := by decide +kernel
theorem dE_cell_15 : decode cE_cell 15 = .ok (.invokespecial 88, 3) := by decide +kernel
theorem dE_cell_18 : decode cE_cell 18 = .ok (.athrow, 1) := by decide +kernel
theorem dE_cell_19 : decode cE_cell 19 = .ok (.aload_n 0, 1) := by decide +kernel
theorem dE_cell_20 : decode cE_cell 20 = .ok (.getfield 23, 3) := by decide +kernel
theorem dE_cell_23 : decode cE_cell 23 = .ok (.iload_n 1, 1) := by decide +kernel
theorem dE_cell_24 : decode cE_cell 24 = .ok (.laload, 1) := by decide +kernel
theorem dE_cell_25 : decode cE_cell 25 = .ok (.lreturn, 1) := by decide +kernel
theorem dE_isInstruction_0 : decode cE_isInstruction 0 = .ok (.iload_n 0, 1) := by decide +kernel
theorem dE_isInstruction_1 : decode cE_isInstruction 1 = .ok (.ifCond .lt 9, 3) := by decide +kernel
theorem dE_isInstruction_4 : decode cE_isInstruction 4 = .ok (.iload_n 0, 1) := by decide +kernel
theorem dE_isInstruction_5 : decode cE_isInstruction 5 = .ok (.bipush 18, 2) := by decide +kernel
theorem dE_isInstruction_7 : decode cE_isInstruction 7 = .ok (.if_icmp .le 5, 3) := by decide +kernel
theorem dE_isInstruction_10 : decode cE_isInstruction 10 = .ok (.iconst 0, 1) := by decide +kernel
theorem dE_isInstruction_11 : decode cE_isInstruction 11 = .ok (.ireturn, 1) := by decide +kernel
theorem dE_isInstruction_12 : decode cE_isInstruction 12 = .ok (.iload_n 0, 1) := by decide +kernel
theorem dE_isInstruction_13 : decode cE_isInstruction 13 = .ok (.iconst 4, 1) := by decide +kernel
theorem dE_isInstruction_14 : decode cE_isInstruction 14 = .ok (.if_icmp .eq 8, 3) := by decide +kernel
theorem dE_isInstruction_17 : decode cE_isInstruction 17 = .ok (.iload_n 0, 1) := by decide +kernel
theorem dE_isInstruction_18 : decode cE_isInstruction 18 = .ok (.iconst 5, 1) := by decide +kernel
theorem dE_isInstruction_19 : decode cE_isInstruction 19 = .ok (.if_icmp .ne 23, 3) := by decide +kernel
theorem dE_isInstruction_22 : decode cE_isInstruction 22 = .ok (.lload_n 1, 1) := by decide +kernel
theorem dE_isInstruction_23 : decode cE_isInstruction 23 = .ok (.lconst 0, 1) := by decide +kernel
theorem dE_isInstruction_24 : decode cE_isInstruction 24 = .ok (.lcmp, 1) := by decide +kernel
theorem dE_isInstruction_25 : decode cE_isInstruction 25 = .ok (.ifCond .lt 15, 3) := by decide +kernel
theorem dE_isInstruction_28 : decode cE_isInstruction 28 = .ok (.lload_n 1, 1) := by decide +kernel
theorem dE_isInstruction_29 : decode cE_isInstruction 29 = .ok (.ldc2_w 102, 3) := by decide +kernel
theorem dE_isInstruction_32 : decode cE_isInstruction 32 = .ok (.lcmp, 1) := by decide +kernel
theorem dE_isInstruction_33 : decode cE_isInstruction 33 = .ok (.ifCond .ge 7, 3) := by decide +kernel
theorem dE_isInstruction_36 : decode cE_isInstruction 36 = .ok (.iconst 1, 1) := by decide +kernel
theorem dE_isInstruction_37 : decode cE_isInstruction 37 = .ok (.goto 4, 3) := by decide +kernel
theorem dE_isInstruction_40 : decode cE_isInstruction 40 = .ok (.iconst 0, 1) := by decide +kernel
theorem dE_isInstruction_41 : decode cE_isInstruction 41 = .ok (.ireturn, 1) := by decide +kernel
theorem dE_isInstruction_42 : decode cE_isInstruction 42 = .ok (.iload_n 0, 1) := by decide +kernel
theorem dE_isInstruction_43 : decode cE_isInstruction 43 = .ok (.bipush 15, 2) := by decide +kernel
theorem dE_isInstruction_45 : decode cE_isInstruction 45 = .ok (.if_icmp .eq 9, 3) := by decide +kernel
theorem dE_isInstruction_48 : decode cE_isInstruction 48 = .ok (.iload_n 0, 1) := by decide +kernel
theorem dE_isInstruction_49 : decode cE_isInstruction 49 = .ok (.bipush 16, 2) := by decide +kernel
theorem dE_isInstruction_51 : decode cE_isInstruction 51 = .ok (.if_icmp .ne 23, 3) := by decide +kernel
theorem dE_isInstruction_54 : decode cE_isInstruction 54 = .ok (.lload_n 1, 1) := by decide +kernel
theorem dE_isInstruction_55 : decode cE_isInstruction 55 = .ok (.lconst 0, 1) := by decide +kernel
theorem dE_isInstruction_56 : decode cE_isInstruction 56 = .ok (.lcmp, 1) := by decide +kernel
theorem dE_isInstruction_57 : decode cE_isInstruction 57 = .ok (.ifCond .lt 15, 3) := by decide +kernel
theorem dE_isInstruction_60 : decode cE_isInstruction 60 = .ok (.lload_n 1, 1) := by decide +kernel
theorem dE_isInstruction_61 : decode cE_isInstruction 61 = .ok (.ldc2_w 104, 3) := by decide +kernel
theorem dE_isInstruction_64 : decode cE_isInstruction 64 = .ok (.lcmp, 1) := by decide +kernel
theorem dE_isInstruction_65 : decode cE_isInstruction 65 = .ok (.ifCond .gt 7, 3) := by decide +kernel
theorem dE_isInstruction_68 : decode cE_isInstruction 68 = .ok (.iconst 1, 1) := by decide +kernel
theorem dE_isInstruction_69 : decode cE_isInstruction 69 = .ok (.goto 4, 3) := by decide +kernel
theorem dE_isInstruction_72 : decode cE_isInstruction 72 = .ok (.iconst 0, 1) := by decide +kernel
theorem dE_isInstruction_73 : decode cE_isInstruction 73 = .ok (.ireturn, 1) := by decide +kernel
theorem dE_isInstruction_74 : decode cE_isInstruction 74 = .ok (.iconst 1, 1) := by decide +kernel
theorem dE_isInstruction_75 : decode cE_isInstruction 75 = .ok (.ireturn, 1) := by decide +kernel
theorem dE_goesBehindEnd_0 : decode cE_goesBehindEnd 0 = .ok (.iconst 0, 1) := by decide +kernel
theorem dE_goesBehindEnd_1 : decode cE_goesBehindEnd 1 = .ok (.istore_n 1, 1) := by decide +kernel
theorem dE_goesBehindEnd_2 : decode cE_goesBehindEnd 2 = .ok (.iload_n 1, 1) := by decide +kernel
theorem dE_goesBehindEnd_3 : decode cE_goesBehindEnd 3 = .ok (.aload_n 0, 1) := by decide +kernel
theorem dE_goesBehindEnd_4 : decode cE_goesBehindEnd 4 = .ok (.getfield 43, 3) := by decide +kernel
theorem dE_goesBehindEnd_7 : decode cE_goesBehindEnd 7 = .ok (.if_icmp .ge 58, 3) := by decide +kernel
theorem dE_goesBehindEnd_10 : decode cE_goesBehindEnd 10 = .ok (.aload_n 0, 1) := by decide +kernel
theorem dE_goesBehindEnd_11 : decode cE_goesBehindEnd 11 = .ok (.getfield 9, 3) := by decide +kernel
theorem dE_goesBehindEnd_14 : decode cE_goesBehindEnd 14 = .ok (.iload_n 1, 1) := by decide +kernel
theorem dE_goesBehindEnd_15 : decode cE_goesBehindEnd 15 = .ok (.iaload, 1) := by decide +kernel
theorem dE_goesBehindEnd_16 : decode cE_goesBehindEnd 16 = .ok (.bipush 15, 2) := by decide +kernel
theorem dE_goesBehindEnd_18 : decode cE_goesBehindEnd 18 = .ok (.if_icmp .eq 14, 3) := by decide +kernel
theorem dE_goesBehindEnd_21 : decode cE_goesBehindEnd 21 = .ok (.aload_n 0, 1) := by decide +kernel
theorem dE_goesBehindEnd_22 : decode cE_goesBehindEnd 22 = .ok (.getfield 9, 3) := by decide +kernel
theorem dE_goesBehindEnd_25 : decode cE_goesBehindEnd 25 = .ok (.iload_n 1, 1) := by decide +kernel
theorem dE_goesBehindEnd_26 : decode cE_goesBehindEnd 26 = .ok (.iaload, 1) := by decide +kernel
theorem dE_goesBehindEnd_27 : decode cE_goesBehindEnd 27 = .ok (.bipush 16, 2) := by decide +kernel
theorem dE_goesBehindEnd_29 : decode cE_goesBehindEnd 29 = .ok (.if_icmp .ne 7, 3) := by decide +kernel
theorem dE_goesBehindEnd_32 : decode cE_goesBehindEnd 32 = .ok (.iconst 1, 1) := by decide +kernel
theorem dE_goesBehindEnd_33 : decode cE_goesBehindEnd 33 = .ok (.goto 4, 3) := by decide +kernel
theorem dE_goesBehindEnd_36 : decode cE_goesBehindEnd 36 = .ok (.iconst 0, 1) := by decide +kernel
theorem dE_goesBehindEnd_37 : decode cE_goesBehindEnd 37 = .ok (.istore_n 2, 1) := by decide +kernel
theorem dE_goesBehindEnd_38 : decode cE_goesBehindEnd 38 = .ok (.iload_n 2, 1) := by decide +kernel
theorem dE_goesBehindEnd_39 : decode cE_goesBehindEnd 39 = .ok (.ifCond .eq 20, 3) := by decide +kernel
theorem dE_goesBehindEnd_42 : decode cE_goesBehindEnd 42 = .ok (.aload_n 0, 1) := by decide +kernel
theorem dE_goesBehindEnd_43 : decode cE_goesBehindEnd 43 = .ok (.getfield 13, 3) := by decide +kernel
theorem dE_goesBehindEnd_46 : decode cE_goesBehindEnd 46 = .ok (.iload_n 1, 1) := by decide +kernel
theorem dE_goesBehindEnd_47 : decode cE_goesBehindEnd 47 = .ok (.laload, 1) := by decide +kernel
theorem dE_goesBehindEnd_48 : decode cE_goesBehindEnd 48 = .ok (.aload_n 0, 1) := by decide +kernel
theorem dE_goesBehindEnd_49 : decode cE_goesBehindEnd 49 = .ok (.getfield 43, 3) := by decide +kernel
theorem dE_goesBehindEnd_52 : decode cE_goesBehindEnd 52 = .ok (.i2l, 1) := by decide +kernel
theorem dE_goesBehindEnd_53 : decode cE_goesBehindEnd 53 = .ok (.lcmp, 1) := by decide +kernel
theorem dE_goesBehindEnd_54 : decode cE_goesBehindEnd 54 = .ok (.ifCond .le 5, 3) := by decide +kernel
theorem dE_goesBehindEnd_57 : decode cE_goesBehindEnd 57 = .ok (.iconst 1, 1) := by decide +kernel
theorem dE_goesBehindEnd_58 : decode cE_goesBehindEnd 58 = .ok (.ireturn, 1) := by decide +kernel
theorem dE_goesBehindEnd_59 : decode cE_goesBehindEnd 59 = .ok (.iinc 1 1, 3) := by decide +kernel
theorem dE_goesBehindEnd_62 : decode cE_goesBehindEnd 62 = .ok (.goto (-60), 3) := by decide +kernel
theorem dE_goesBehindEnd_65 : decode cE_goesBehindEnd 65 = .ok (.iconst 0, 1) := by decide +kernel
theorem dE_goesBehindEnd_66 : decode cE_goesBehindEnd 66 = .ok (.ireturn, 1) := by decide +kernel
theorem dE_begin_0 : decode cE_begin 0 = .ok (.aload_n 0, 1) := by decide +kernel
theorem dE_begin_1 : decode cE_begin 1 = .ok (.iload_n 1, 1) := by decide +kernel
theorem dE_begin_2 : decode cE_begin 2 = .ok (.putfield 106, 3) := by decide +kernel
theorem dE_begin_5 : decode cE_begin 5 = .ok (.aload_n 0, 1) := by decide +kernel
theorem dE_begin_6 : decode cE_begin 6 = .ok (.lload_n 2, 1) := by decide +kernel
theorem dE_begin_7 : decode cE_begin 7 = .ok (.putfield 109, 3) := by decide +kernel
theorem dE_begin_10 : decode cE_begin 10 = .ok (.aload_n 0, 1) := by decide +kernel
theorem dE_begin_11 : decode cE_begin 11 = .ok (.iconst 0, 1) := by decide +kernel
theorem dE_begin_12 : decode cE_begin 12 = .ok (.putfield 92, 3) := by decide +kernel
theorem dE_begin_15 : decode cE_begin 15 = .ok (.aload_n 0, 1) := by decide +kernel
theorem dE_begin_16 : decode cE_begin 16 = .ok (.iconst 0, 1) := by decide +kernel
theorem dE_begin_17 : decode cE_begin 17 = .ok (.putfield 81, 3) := by decide +kernel
theorem dE_begin_20 : decode cE_begin 20 = .ok (.aload_n 0, 1) := by decide +kernel
theorem dE_begin_21 : decode cE_begin 21 = .ok (.iconst 0, 1) := by decide +kernel
theorem dE_begin_22 : decode cE_begin 22 = .ok (.putfield 113, 3) := by decide +kernel
theorem dE_begin_25 : decode cE_begin 25 = .ok (.aload_n 0, 1) := by decide +kernel
theorem dE_begin_26 : decode cE_begin 26 = .ok (.iconst 0, 1) := by decide +kernel
theorem dE_begin_27 : decode cE_begin 27 = .ok (.putfield 89, 3) := by decide +kernel
theorem dE_begin_30 : decode cE_begin 30 = .ok (.aload_n 0, 1) := by decide +kernel
theorem dE_begin_31 : decode cE_begin 31 = .ok (.iconst 0, 1) := by decide +kernel
theorem dE_begin_32 : decode cE_begin 32 = .ok (.putfield 95, 3) := by decide +kernel
theorem dE_begin_35 : decode cE_begin 35 = .ok (.aload_n 0, 1) := by decide +kernel
theorem dE_begin_36 : decode cE_begin 36 = .ok (.iconst 0, 1) := by decide +kernel
theorem dE_begin_37 : decode cE_begin 37 = .ok (.putfield 72, 3) := by decide +kernel
theorem dE_begin_40 : decode cE_begin 40 = .ok (.iconst 0, 1) := by decide +kernel
theorem dE_begin_41 : decode cE_begin 41 = .ok (.istore 4, 2) := by decide +kernel
theorem dE_begin_43 : decode cE_begin 43 = .ok (.iload 4, 2) := by decide +kernel
theorem dE_begin_45 : decode cE_begin 45 = .ok (.iconst 4, 1) := by decide +kernel
theorem dE_begin_46 : decode cE_begin 46 = .ok (.if_icmp .ge 17, 3) := by decide +kernel
theorem dE_begin_49 : decode cE_begin 49 = .ok (.aload_n 0, 1) := by decide +kernel
theorem dE_begin_50 : decode cE_begin 50 = .ok (.getfield 23, 3) := by decide +kernel
theorem dE_begin_53 : decode cE_begin 53 = .ok (.iload 4, 2) := by decide +kernel
theorem dE_begin_55 : decode cE_begin 55 = .ok (.lconst 0, 1) := by decide +kernel
theorem dE_begin_56 : decode cE_begin 56 = .ok (.lastore, 1) := by decide +kernel
theorem dE_begin_57 : decode cE_begin 57 = .ok (.iinc 4 1, 3) := by decide +kernel
theorem dE_begin_60 : decode cE_begin 60 = .ok (.goto (-17), 3) := by decide +kernel
theorem dE_begin_63 : decode cE_begin 63 = .ok (.return_, 1) := by decide +kernel
theorem dE_runProgram_0 : decode cE_runProgram 0 = .ok (.iconst 0, 1) := by decide +kernel
theorem dE_runProgram_1 : decode cE_runProgram 1 = .ok (.istore_n 1, 1) := by decide +kernel
theorem dE_runProgram_2 : decode cE_runProgram 2 = .ok (.iload_n 1, 1) := by decide +kernel
theorem dE_runProgram_3 : decode cE_runProgram 3 = .ok (.sipush 400, 3) := by decide +kernel
theorem dE_runProgram_6 : decode cE_runProgram 6 = .ok (.if_icmp .ge 73, 3) := by decide +kernel
theorem dE_runProgram_9 : decode cE_runProgram 9 = .ok (.aload_n 0, 1) := by decide +kernel
theorem dE_runProgram_10 : decode cE_runProgram 10 = .ok (.getfield 113, 3) := by decide +kernel
theorem dE_runProgram_13 : decode cE_runProgram 13 = .ok (.aload_n 0, 1) := by decide +kernel
theorem dE_runProgram_14 : decode cE_runProgram 14 = .ok (.getfield 43, 3) := by decide +kernel
theorem dE_runProgram_17 : decode cE_runProgram 17 = .ok (.if_icmp .ge 62, 3) := by decide +kernel
theorem dE_runProgram_20 : decode cE_runProgram 20 = .ok (.aload_n 0, 1) := by decide +kernel
theorem dE_runProgram_21 : decode cE_runProgram 21 = .ok (.getfield 72, 3) := by decide +kernel
theorem dE_runProgram_24 : decode cE_runProgram 24 = .ok (.ifCond .ne 55, 3) := by decide +kernel
theorem dE_runProgram_27 : decode cE_runProgram 27 = .ok (.aload_n 0, 1) := by decide +kernel
theorem dE_runProgram_28 : decode cE_runProgram 28 = .ok (.getfield 9, 3) := by decide +kernel
theorem dE_runProgram_31 : decode cE_runProgram 31 = .ok (.aload_n 0, 1) := by decide +kernel
theorem dE_runProgram_32 : decode cE_runProgram 32 = .ok (.getfield 113, 3) := by decide +kernel
theorem dE_runProgram_35 : decode cE_runProgram 35 = .ok (.iaload, 1) := by decide +kernel
theorem dE_runProgram_36 : decode cE_runProgram 36 = .ok (.istore_n 2, 1) := by decide +kernel
theorem dE_runProgram_37 : decode cE_runProgram 37 = .ok (.aload_n 0, 1) := by decide +kernel
theorem dE_runProgram_38 : decode cE_runProgram 38 = .ok (.getfield 13, 3) := by decide +kernel
theorem dE_runProgram_41 : decode cE_runProgram 41 = .ok (.aload_n 0, 1) := by decide +kernel
theorem dE_runProgram_42 : decode cE_runProgram 42 = .ok (.getfield 113, 3) := by decide +kernel
theorem dE_runProgram_45 : decode cE_runProgram 45 = .ok (.laload, 1) := by decide +kernel
theorem dE_runProgram_46 : decode cE_runProgram 46 = .ok (.lstore_n 3, 1) := by decide +kernel
theorem dE_runProgram_47 : decode cE_runProgram 47 = .ok (.aload_n 0, 1) := by decide +kernel
theorem dE_runProgram_48 : decode cE_runProgram 48 = .ok (.dup, 1) := by decide +kernel
theorem dE_runProgram_49 : decode cE_runProgram 49 = .ok (.getfield 113, 3) := by decide +kernel
theorem dE_runProgram_52 : decode cE_runProgram 52 = .ok (.iconst 1, 1) := by decide +kernel
theorem dE_runProgram_53 : decode cE_runProgram 53 = .ok (.iadd, 1) := by decide +kernel
theorem dE_runProgram_54 : decode cE_runProgram 54 = .ok (.putfield 113, 3) := by decide +kernel
theorem dE_runProgram_57 : decode cE_runProgram 57 = .ok (.aload_n 0, 1) := by decide +kernel
theorem dE_runProgram_58 : decode cE_runProgram 58 = .ok (.dup, 1) := by decide +kernel
theorem dE_runProgram_59 : decode cE_runProgram 59 = .ok (.getfield 89, 3) := by decide +kernel
theorem dE_runProgram_62 : decode cE_runProgram 62 = .ok (.iconst 1, 1) := by decide +kernel
theorem dE_runProgram_63 : decode cE_runProgram 63 = .ok (.iadd, 1) := by decide +kernel
theorem dE_runProgram_64 : decode cE_runProgram 64 = .ok (.putfield 89, 3) := by decide +kernel
theorem dE_runProgram_67 : decode cE_runProgram 67 = .ok (.aload_n 0, 1) := by decide +kernel
theorem dE_runProgram_68 : decode cE_runProgram 68 = .ok (.iload_n 2, 1) := by decide +kernel
theorem dE_runProgram_69 : decode cE_runProgram 69 = .ok (.lload_n 3, 1) := by decide +kernel
theorem dE_runProgram_70 : decode cE_runProgram 70 = .ok (.invokevirtual 116, 3) := by decide +kernel
theorem dE_runProgram_73 : decode cE_runProgram 73 = .ok (.iinc 1 1, 3) := by decide +kernel
theorem dE_runProgram_76 : decode cE_runProgram 76 = .ok (.goto (-74), 3) := by decide +kernel
theorem dE_runProgram_79 : decode cE_runProgram 79 = .ok (.aload_n 0, 1) := by decide +kernel
theorem dE_runProgram_80 : decode cE_runProgram 80 = .ok (.getfield 113, 3) := by decide +kernel
theorem dE_runProgram_83 : decode cE_runProgram 83 = .ok (.aload_n 0, 1) := by decide +kernel
theorem dE_runProgram_84 : decode cE_runProgram 84 = .ok (.getfield 43, 3) := by decide +kernel
theorem dE_runProgram_87 : decode cE_runProgram 87 = .ok (.if_icmp .ge 8, 3) := by decide +kernel
theorem dE_runProgram_90 : decode cE_runProgram 90 = .ok (.aload_n 0, 1) := by decide +kernel
theorem dE_runProgram_91 : decode cE_runProgram 91 = .ok (.iconst 1, 1) := by decide +kernel
theorem dE_runProgram_92 : decode cE_runProgram 92 = .ok (.putfield 72, 3) := by decide +kernel
theorem dE_runProgram_95 : decode cE_runProgram 95 = .ok (.aload_n 0, 1) := by decide +kernel
theorem dE_runProgram_96 : decode cE_runProgram 96 = .ok (.getfield 72, 3) := by decide +kernel
theorem dE_runProgram_99 : decode cE_runProgram 99 = .ok (.ifCond .eq 8, 3) := by decide +kernel
theorem dE_runProgram_102 : decode cE_runProgram 102 = .ok (.aload_n 0, 1) := by decide +kernel
theorem dE_runProgram_103 : decode cE_runProgram 103 = .ok (.iconst 0, 1) := by decide +kernel
theorem dE_runProgram_104 : decode cE_runProgram 104 = .ok (.putfield 92, 3) := by decide +kernel
theorem dE_runProgram_107 : decode cE_runProgram 107 = .ok (.return_, 1) := by decide +kernel
theorem dE_perform_0 : decode cE_perform 0 = .ok (.iload_n 1, 1) := by decide +kernel
theorem dE_perform_1 : decode cE_perform 1 = .ok (.tableswitch 217 0 18 #[91, 99, 110, 117, 136, 150, 217, 217, 217, 217, 217, 217, 159, 166, 174, 181, 190, 199, 206], 91) := by decide +kernel
theorem dE_perform_92 : decode cE_perform 92 = .ok (.aload_n 0, 1) := by decide +kernel
theorem dE_perform_93 : decode cE_perform 93 = .ok (.lload_n 2, 1) := by decide +kernel
theorem dE_perform_94 : decode cE_perform 94 = .ok (.invokevirtual 119, 3) := by decide +kernel
theorem dE_perform_97 : decode cE_perform 97 = .ok (.goto 126, 3) := by decide +kernel
theorem dE_perform_100 : decode cE_perform 100 = .ok (.aload_n 0, 1) := by decide +kernel
theorem dE_perform_101 : decode cE_perform 101 = .ok (.aload_n 0, 1) := by decide +kernel
theorem dE_perform_102 : decode cE_perform 102 = .ok (.getfield 109, 3) := by decide +kernel
theorem dE_perform_105 : decode cE_perform 105 = .ok (.invokevirtual 119, 3) := by decide +kernel
theorem dE_perform_108 : decode cE_perform 108 = .ok (.goto 115, 3) := by decide +kernel
theorem dE_perform_111 : decode cE_perform 111 = .ok (.aload_n 0, 1) := by decide +kernel
theorem dE_perform_112 : decode cE_perform 112 = .ok (.invokevirtual 123, 3) := by decide +kernel
theorem dE_perform_115 : decode cE_perform 115 = .ok (.goto 108, 3) := by decide +kernel
theorem dE_perform_118 : decode cE_perform 118 = .ok (.aload_n 0, 1) := by decide +kernel
theorem dE_perform_119 : decode cE_perform 119 = .ok (.aload_n 0, 1) := by decide +kernel
theorem dE_perform_120 : decode cE_perform 120 = .ok (.invokevirtual 126, 3) := by decide +kernel
theorem dE_perform_123 : decode cE_perform 123 = .ok (.ifCond .eq 7, 3) := by decide +kernel
theorem dE_perform_126 : decode cE_perform 126 = .ok (.lconst 1, 1) := by decide +kernel
theorem dE_perform_127 : decode cE_perform 127 = .ok (.goto 4, 3) := by decide +kernel
theorem dE_perform_130 : decode cE_perform 130 = .ok (.lconst 0, 1) := by decide +kernel
theorem dE_perform_131 : decode cE_perform 131 = .ok (.invokevirtual 119, 3) := by decide +kernel
theorem dE_perform_134 : decode cE_perform 134 = .ok (.goto 89, 3) := by decide +kernel
theorem dE_perform_137 : decode cE_perform 137 = .ok (.aload_n 0, 1) := by decide +kernel
theorem dE_perform_138 : decode cE_perform 138 = .ok (.aload_n 0, 1) := by decide +kernel
theorem dE_perform_139 : decode cE_perform 139 = .ok (.getfield 23, 3) := by decide +kernel
theorem dE_perform_142 : decode cE_perform 142 = .ok (.lload_n 2, 1) := by decide +kernel
theorem dE_perform_143 : decode cE_perform 143 = .ok (.l2i, 1) := by decide +kernel
theorem dE_perform_144 : decode cE_perform 144 = .ok (.laload, 1) := by decide +kernel
theorem dE_perform_145 : decode cE_perform 145 = .ok (.invokevirtual 119, 3) := by decide +kernel
theorem dE_perform_148 : decode cE_perform 148 = .ok (.goto 75, 3) := by decide +kernel
theorem dE_perform_151 : decode cE_perform 151 = .ok (.aload_n 0, 1) := by decide +kernel
theorem dE_perform_152 : decode cE_perform 152 = .ok (.lload_n 2, 1) := by decide +kernel
theorem dE_perform_153 : decode cE_perform 153 = .ok (.l2i, 1) := by decide +kernel
theorem dE_perform_154 : decode cE_perform 154 = .ok (.invokevirtual 129, 3) := by decide +kernel
theorem dE_perform_157 : decode cE_perform 157 = .ok (.goto 66, 3) := by decide +kernel
theorem dE_perform_160 : decode cE_perform 160 = .ok (.aload_n 0, 1) := by decide +kernel
theorem dE_perform_161 : decode cE_perform 161 = .ok (.invokevirtual 133, 3) := by decide +kernel
theorem dE_perform_164 : decode cE_perform 164 = .ok (.goto 59, 3) := by decide +kernel
theorem dE_perform_167 : decode cE_perform 167 = .ok (.aload_n 0, 1) := by decide +kernel
theorem dE_perform_168 : decode cE_perform 168 = .ok (.invokevirtual 136, 3) := by decide +kernel
theorem dE_perform_171 : decode cE_perform 171 = .ok (.pop2, 1) := by decide +kernel
theorem dE_perform_172 : decode cE_perform 172 = .ok (.goto 51, 3) := by decide +kernel
theorem dE_perform_175 : decode cE_perform 175 = .ok (.aload_n 0, 1) := by decide +kernel
theorem dE_perform_176 : decode cE_perform 176 = .ok (.invokevirtual 140, 3) := by decide +kernel
theorem dE_perform_179 : decode cE_perform 179 = .ok (.goto 44, 3) := by decide +kernel
theorem dE_perform_182 : decode cE_perform 182 = .ok (.aload_n 0, 1) := by decide +kernel
theorem dE_perform_183 : decode cE_perform 183 = .ok (.lload_n 2, 1) := by decide +kernel
theorem dE_perform_184 : decode cE_perform 184 = .ok (.l2i, 1) := by decide +kernel
theorem dE_perform_185 : decode cE_perform 185 = .ok (.putfield 113, 3) := by decide +kernel
theorem dE_perform_188 : decode cE_perform 188 = .ok (.goto 35, 3) := by decide +kernel
theorem dE_perform_191 : decode cE_perform 191 = .ok (.aload_n 0, 1) := by decide +kernel
theorem dE_perform_192 : decode cE_perform 192 = .ok (.lload_n 2, 1) := by decide +kernel
theorem dE_perform_193 : decode cE_perform 193 = .ok (.l2i, 1) := by decide +kernel
theorem dE_perform_194 : decode cE_perform 194 = .ok (.invokevirtual 143, 3) := by decide +kernel
theorem dE_perform_197 : decode cE_perform 197 = .ok (.goto 26, 3) := by decide +kernel
theorem dE_perform_200 : decode cE_perform 200 = .ok (.aload_n 0, 1) := by decide +kernel
theorem dE_perform_201 : decode cE_perform 201 = .ok (.invokevirtual 146, 3) := by decide +kernel
theorem dE_perform_204 : decode cE_perform 204 = .ok (.goto 19, 3) := by decide +kernel
theorem dE_perform_207 : decode cE_perform 207 = .ok (.aload_n 0, 1) := by decide +kernel
theorem dE_perform_208 : decode cE_perform 208 = .ok (.aload_n 0, 1) := by decide +kernel
theorem dE_perform_209 : decode cE_perform 209 = .ok (.getfield 43, 3) := by decide +kernel
theorem dE_perform_212 : decode cE_perform 212 = .ok (.putfield 113, 3) := by decide +kernel
theorem dE_perform_215 : decode cE_perform 215 = .ok (.goto 8, 3) := by decide +kernel
theorem dE_perform_218 : decode cE_perform 218 = .ok (.aload_n 0, 1) := by decide +kernel
theorem dE_perform_219 : decode cE_perform 219 = .ok (.iload_n 1, 1) := by decide +kernel
theorem dE_perform_220 : decode cE_perform 220 = .ok (.invokevirtual 149, 3) := by decide +kernel
theorem dE_perform_223 : decode cE_perform 223 = .ok (.return_, 1) := by decide +kernel
theorem dE_push_0 : decode cE_push 0 = .ok (.aload_n 0, 1) := by decide +kernel
theorem dE_push_1 : decode cE_push 1 = .ok (.getfield 92, 3) := by decide +kernel
theorem dE_push_4 : decode cE_push 4 = .ok (.bipush 12, 2) := by decide +kernel
theorem dE_push_6 : decode cE_push 6 = .ok (.if_icmp .lt 9, 3) := by decide +kernel
theorem dE_push_9 : decode cE_push 9 = .ok (.aload_n 0, 1) := by decide +kernel
theorem dE_push_10 : decode cE_push 10 = .ok (.iconst 1, 1) := by decide +kernel
theorem dE_push_11 : decode cE_push 11 = .ok (.putfield 72, 3) := by decide +kernel
theorem dE_push_14 : decode cE_push 14 = .ok (.return_, 1) := by decide +kernel
theorem dE_push_15 : decode cE_push 15 = .ok (.aload_n 0, 1) := by decide +kernel
theorem dE_push_16 : decode cE_push 16 = .ok (.getfield 20, 3) := by decide +kernel
theorem dE_push_19 : decode cE_push 19 = .ok (.aload_n 0, 1) := by decide +kernel
theorem dE_push_20 : decode cE_push 20 = .ok (.getfield 92, 3) := by decide +kernel
theorem dE_push_23 : decode cE_push 23 = .ok (.lload_n 1, 1) := by decide +kernel
theorem dE_push_24 : decode cE_push 24 = .ok (.lastore, 1) := by decide +kernel
theorem dE_push_25 : decode cE_push 25 = .ok (.aload_n 0, 1) := by decide +kernel
theorem dE_push_26 : decode cE_push 26 = .ok (.dup, 1) := by decide +kernel
theorem dE_push_27 : decode cE_push 27 = .ok (.getfield 92, 3) := by decide +kernel
theorem dE_push_30 : decode cE_push 30 = .ok (.iconst 1, 1) := by decide +kernel
theorem dE_push_31 : decode cE_push 31 = .ok (.iadd, 1) := by decide +kernel
theorem dE_push_32 : decode cE_push 32 = .ok (.putfield 92, 3) := by decide +kernel
theorem dE_push_35 : decode cE_push 35 = .ok (.return_, 1) := by decide +kernel
theorem dE_pop_0 : decode cE_pop 0 = .ok (.aload_n 0, 1) := by decide +kernel
theorem dE_pop_1 : decode cE_pop 1 = .ok (.getfield 92, 3) := by decide +kernel
theorem dE_pop_4 : decode cE_pop 4 = .ok (.ifCond .gt 10, 3) := by decide +kernel
theorem dE_pop_7 : decode cE_pop 7 = .ok (.aload_n 0, 1) := by decide +kernel
theorem dE_pop_8 : decode cE_pop 8 = .ok (.iconst 1, 1) := by decide +kernel
theorem dE_pop_9 : decode cE_pop 9 = .ok (.putfield 72, 3) := by decide +kernel
theorem dE_pop_12 : decode cE_pop 12 = .ok (.lconst 0, 1) := by decide +kernel
theorem dE_pop_13 : decode cE_pop 13 = .ok (.lreturn, 1) := by decide +kernel
theorem dE_pop_14 : decode cE_pop 14 = .ok (.aload_n 0, 1) := by decide +kernel
theorem dE_pop_15 : decode cE_pop 15 = .ok (.dup, 1) := by decide +kernel
theorem dE_pop_16 : decode cE_pop 16 = .ok (.getfield 92, 3) := by decide +kernel
theorem dE_pop_19 : decode cE_pop 19 = .ok (.iconst 1, 1) := by decide +kernel
theorem dE_pop_20 : decode cE_pop 20 = .ok (.isub, 1) := by decide +kernel
theorem dE_pop_21 : decode cE_pop 21 = .ok (.putfield 92, 3) := by decide +kernel
theorem dE_pop_24 : decode cE_pop 24 = .ok (.aload_n 0, 1) := by decide +kernel
theorem dE_pop_25 : decode cE_pop 25 = .ok (.getfield 20, 3) := by decide +kernel
theorem dE_pop_28 : decode cE_pop 28 = .ok (.aload_n 0, 1) := by decide +kernel
theorem dE_pop_29 : decode cE_pop 29 = .ok (.getfield 92, 3) := by decide +kernel
theorem dE_pop_32 : decode cE_pop 32 = .ok (.laload, 1) := by decide +kernel
theorem dE_pop_33 : decode cE_pop 33 = .ok (.lreturn, 1) := by decide +kernel
theorem dE_hasNext_0 : decode cE_hasNext 0 = .ok (.aload_n 0, 1) := by decide +kernel
theorem dE_hasNext_1 : decode cE_hasNext 1 = .ok (.getfield 106, 3) := by decide +kernel
theorem dE_hasNext_4 : decode cE_hasNext 4 = .ok (.ifCond .eq 18, 3) := by decide +kernel
theorem dE_hasNext_7 : decode cE_hasNext 7 = .ok (.aload_n 0, 1) := by decide +kernel
theorem dE_hasNext_8 : decode cE_hasNext 8 = .ok (.getfield 95, 3) := by decide +kernel
theorem dE_hasNext_11 : decode cE_hasNext 11 = .ok (.aload_n 0, 1) := by decide +kernel
theorem dE_hasNext_12 : decode cE_hasNext 12 = .ok (.getfield 52, 3) := by decide +kernel
theorem dE_hasNext_15 : decode cE_hasNext 15 = .ok (.if_icmp .ge 7, 3) := by decide +kernel
theorem dE_hasNext_18 : decode cE_hasNext 18 = .ok (.iconst 1, 1) := by decide +kernel
theorem dE_hasNext_19 : decode cE_hasNext 19 = .ok (.goto 4, 3) := by decide +kernel
theorem dE_hasNext_22 : decode cE_hasNext 22 = .ok (.iconst 0, 1) := by decide +kernel
theorem dE_hasNext_23 : decode cE_hasNext 23 = .ok (.ireturn, 1) := by decide +kernel
theorem dE_pushValue_0 : decode cE_pushValue 0 = .ok (.aload_n 0, 1) := by decide +kernel
theorem dE_pushValue_1 : decode cE_pushValue 1 = .ok (.getfield 95, 3) := by decide +kernel
theorem dE_pushValue_4 : decode cE_pushValue 4 = .ok (.aload_n 0, 1) := by decide +kernel
theorem dE_pushValue_5 : decode cE_pushValue 5 = .ok (.getfield 52, 3) := by decide +kernel
theorem dE_pushValue_8 : decode cE_pushValue 8 = .ok (.if_icmp .lt 9, 3) := by decide +kernel
theorem dE_pushValue_11 : decode cE_pushValue 11 = .ok (.aload_n 0, 1) := by decide +kernel
theorem dE_pushValue_12 : decode cE_pushValue 12 = .ok (.iconst 1, 1) := by decide +kernel
theorem dE_pushValue_13 : decode cE_pushValue 13 = .ok (.putfield 72, 3) := by decide +kernel
theorem dE_pushValue_16 : decode cE_pushValue 16 = .ok (.return_, 1) := by decide +kernel
theorem dE_pushValue_17 : decode cE_pushValue 17 = .ok (.aload_n 0, 1) := by decide +kernel
theorem dE_pushValue_18 : decode cE_pushValue 18 = .ok (.aload_n 0, 1) := by decide +kernel
theorem dE_pushValue_19 : decode cE_pushValue 19 = .ok (.getfield 17, 3) := by decide +kernel
theorem dE_pushValue_22 : decode cE_pushValue 22 = .ok (.aload_n 0, 1) := by decide +kernel
theorem dE_pushValue_23 : decode cE_pushValue 23 = .ok (.getfield 95, 3) := by decide +kernel
theorem dE_pushValue_26 : decode cE_pushValue 26 = .ok (.laload, 1) := by decide +kernel
theorem dE_pushValue_27 : decode cE_pushValue 27 = .ok (.invokevirtual 119, 3) := by decide +kernel
theorem dE_pushValue_30 : decode cE_pushValue 30 = .ok (.aload_n 0, 1) := by decide +kernel
theorem dE_pushValue_31 : decode cE_pushValue 31 = .ok (.getfield 72, 3) := by decide +kernel
theorem dE_pushValue_34 : decode cE_pushValue 34 = .ok (.ifCond .ne 20, 3) := by decide +kernel
theorem dE_pushValue_37 : decode cE_pushValue 37 = .ok (.aload_n 0, 1) := by decide +kernel
theorem dE_pushValue_38 : decode cE_pushValue 38 = .ok (.getfield 106, 3) := by decide +kernel
theorem dE_pushValue_41 : decode cE_pushValue 41 = .ok (.ifCond .eq 13, 3) := by decide +kernel
theorem dE_pushValue_44 : decode cE_pushValue 44 = .ok (.aload_n 0, 1) := by decide +kernel
theorem dE_pushValue_45 : decode cE_pushValue 45 = .ok (.dup, 1) := by decide +kernel
theorem dE_pushValue_46 : decode cE_pushValue 46 = .ok (.getfield 95, 3) := by decide +kernel
theorem dE_pushValue_49 : decode cE_pushValue 49 = .ok (.iconst 1, 1) := by decide +kernel
theorem dE_pushValue_50 : decode cE_pushValue 50 = .ok (.iadd, 1) := by decide +kernel
theorem dE_pushValue_51 : decode cE_pushValue 51 = .ok (.putfield 95, 3) := by decide +kernel
theorem dE_pushValue_54 : decode cE_pushValue 54 = .ok (.return_, 1) := by decide +kernel
theorem dE_popCell_0 : decode cE_popCell 0 = .ok (.aload_n 0, 1) := by decide +kernel
theorem dE_popCell_1 : decode cE_popCell 1 = .ok (.invokevirtual 136, 3) := by decide +kernel
theorem dE_popCell_4 : decode cE_popCell 4 = .ok (.lstore_n 2, 1) := by decide +kernel
theorem dE_popCell_5 : decode cE_popCell 5 = .ok (.aload_n 0, 1) := by decide +kernel
theorem dE_popCell_6 : decode cE_popCell 6 = .ok (.getfield 72, 3) := by decide +kernel
theorem dE_popCell_9 : decode cE_popCell 9 = .ok (.ifCond .ne 10, 3) := by decide +kernel
theorem dE_popCell_12 : decode cE_popCell 12 = .ok (.aload_n 0, 1) := by decide +kernel
theorem dE_popCell_13 : decode cE_popCell 13 = .ok (.getfield 23, 3) := by decide +kernel
theorem dE_popCell_16 : decode cE_popCell 16 = .ok (.iload_n 1, 1) := by decide +kernel
theorem dE_popCell_17 : decode cE_popCell 17 = .ok (.lload_n 2, 1) := by decide +kernel
theorem dE_popCell_18 : decode cE_popCell 18 = .ok (.lastore, 1) := by decide +kernel
theorem dE_popCell_19 : decode cE_popCell 19 = .ok (.return_, 1) := by decide +kernel
theorem dE_doubleTop_0 : decode cE_doubleTop 0 = .ok (.aload_n 0, 1) := by decide +kernel
theorem dE_doubleTop_1 : decode cE_doubleTop 1 = .ok (.invokevirtual 136, 3) := by decide +kernel
theorem dE_doubleTop_4 : decode cE_doubleTop 4 = .ok (.lstore_n 1, 1) := by decide +kernel
theorem dE_doubleTop_5 : decode cE_doubleTop 5 = .ok (.aload_n 0, 1) := by decide +kernel
theorem dE_doubleTop_6 : decode cE_doubleTop 6 = .ok (.lload_n 1, 1) := by decide +kernel
theorem dE_doubleTop_7 : decode cE_doubleTop 7 = .ok (.invokevirtual 119, 3) := by decide +kernel
theorem dE_doubleTop_10 : decode cE_doubleTop 10 = .ok (.aload_n 0, 1) := by decide +kernel
theorem dE_doubleTop_11 : decode cE_doubleTop 11 = .ok (.lload_n 1, 1) := by decide +kernel
theorem dE_doubleTop_12 : decode cE_doubleTop 12 = .ok (.invokevirtual 119, 3) := by decide +kernel
theorem dE_doubleTop_15 : decode cE_doubleTop 15 = .ok (.return_, 1) := by decide +kernel
theorem dE_changeTwo_0 : decode cE_changeTwo 0 = .ok (.aload_n 0, 1) := by decide +kernel
theorem dE_changeTwo_1 : decode cE_changeTwo 1 = .ok (.invokevirtual 136, 3) := by decide +kernel
theorem dE_changeTwo_4 : decode cE_changeTwo 4 = .ok (.lstore_n 1, 1) := by decide +kernel
theorem dE_changeTwo_5 : decode cE_changeTwo 5 = .ok (.aload_n 0, 1) := by decide +kernel
theorem dE_changeTwo_6 : decode cE_changeTwo 6 = .ok (.invokevirtual 136, 3) := by decide +kernel
theorem dE_changeTwo_9 : decode cE_changeTwo 9 = .ok (.lstore_n 3, 1) := by decide +kernel
theorem dE_changeTwo_10 : decode cE_changeTwo 10 = .ok (.aload_n 0, 1) := by decide +kernel
theorem dE_changeTwo_11 : decode cE_changeTwo 11 = .ok (.lload_n 1, 1) := by decide +kernel
theorem dE_changeTwo_12 : decode cE_changeTwo 12 = .ok (.invokevirtual 119, 3) := by decide +kernel
theorem dE_changeTwo_15 : decode cE_changeTwo 15 = .ok (.aload_n 0, 1) := by decide +kernel
theorem dE_changeTwo_16 : decode cE_changeTwo 16 = .ok (.lload_n 3, 1) := by decide +kernel
theorem dE_changeTwo_17 : decode cE_changeTwo 17 = .ok (.invokevirtual 119, 3) := by decide +kernel
theorem dE_changeTwo_20 : decode cE_changeTwo 20 = .ok (.return_, 1) := by decide +kernel
theorem dE_goIfZero_0 : decode cE_goIfZero 0 = .ok (.aload_n 0, 1) := by decide +kernel
theorem dE_goIfZero_1 : decode cE_goIfZero 1 = .ok (.invokevirtual 136, 3) := by decide +kernel
theorem dE_goIfZero_4 : decode cE_goIfZero 4 = .ok (.lconst 0, 1) := by decide +kernel
theorem dE_goIfZero_5 : decode cE_goIfZero 5 = .ok (.lcmp, 1) := by decide +kernel
theorem dE_goIfZero_6 : decode cE_goIfZero 6 = .ok (.ifCond .ne 8, 3) := by decide +kernel
theorem dE_goIfZero_9 : decode cE_goIfZero 9 = .ok (.aload_n 0, 1) := by decide +kernel
theorem dE_goIfZero_10 : decode cE_goIfZero 10 = .ok (.iload_n 1, 1) := by decide +kernel
theorem dE_goIfZero_11 : decode cE_goIfZero 11 = .ok (.putfield 113, 3) := by decide +kernel
theorem dE_goIfZero_14 : decode cE_goIfZero 14 = .ok (.return_, 1) := by decide +kernel
theorem dE_emitPair_0 : decode cE_emitPair 0 = .ok (.aload_n 0, 1) := by decide +kernel
theorem dE_emitPair_1 : decode cE_emitPair 1 = .ok (.invokevirtual 136, 3) := by decide +kernel
theorem dE_emitPair_4 : decode cE_emitPair 4 = .ok (.lstore_n 1, 1) := by decide +kernel
theorem dE_emitPair_5 : decode cE_emitPair 5 = .ok (.aload_n 0, 1) := by decide +kernel
theorem dE_emitPair_6 : decode cE_emitPair 6 = .ok (.getfield 106, 3) := by decide +kernel
theorem dE_emitPair_9 : decode cE_emitPair 9 = .ok (.iconst 1, 1) := by decide +kernel
theorem dE_emitPair_10 : decode cE_emitPair 10 = .ok (.if_icmp .ne 10, 3) := by decide +kernel
theorem dE_emitPair_13 : decode cE_emitPair 13 = .ok (.aload_n 0, 1) := by decide +kernel
theorem dE_emitPair_14 : decode cE_emitPair 14 = .ok (.getfield 109, 3) := by decide +kernel
theorem dE_emitPair_17 : decode cE_emitPair 17 = .ok (.goto 7, 3) := by decide +kernel
theorem dE_emitPair_20 : decode cE_emitPair 20 = .ok (.aload_n 0, 1) := by decide +kernel
theorem dE_emitPair_21 : decode cE_emitPair 21 = .ok (.invokevirtual 136, 3) := by decide +kernel
theorem dE_emitPair_24 : decode cE_emitPair 24 = .ok (.lstore_n 3, 1) := by decide +kernel
theorem dE_emitPair_25 : decode cE_emitPair 25 = .ok (.aload_n 0, 1) := by decide +kernel
theorem dE_emitPair_26 : decode cE_emitPair 26 = .ok (.getfield 72, 3) := by decide +kernel
theorem dE_emitPair_29 : decode cE_emitPair 29 = .ok (.ifCond .ne 11, 3) := by decide +kernel
theorem dE_emitPair_32 : decode cE_emitPair 32 = .ok (.aload_n 0, 1) := by decide +kernel
theorem dE_emitPair_33 : decode cE_emitPair 33 = .ok (.getfield 81, 3) := by decide +kernel
theorem dE_emitPair_36 : decode cE_emitPair 36 = .ok (.iconst 4, 1) := by decide +kernel
theorem dE_emitPair_37 : decode cE_emitPair 37 = .ok (.if_icmp .lt 9, 3) := by decide +kernel
theorem dE_emitPair_40 : decode cE_emitPair 40 = .ok (.aload_n 0, 1) := by decide +kernel
theorem dE_emitPair_41 : decode cE_emitPair 41 = .ok (.iconst 1, 1) := by decide +kernel
theorem dE_emitPair_42 : decode cE_emitPair 42 = .ok (.putfield 72, 3) := by decide +kernel
theorem dE_emitPair_45 : decode cE_emitPair 45 = .ok (.return_, 1) := by decide +kernel
theorem dE_emitPair_46 : decode cE_emitPair 46 = .ok (.aload_n 0, 1) := by decide +kernel
theorem dE_emitPair_47 : decode cE_emitPair 47 = .ok (.getfield 26, 3) := by decide +kernel
theorem dE_emitPair_50 : decode cE_emitPair 50 = .ok (.aload_n 0, 1) := by decide +kernel
theorem dE_emitPair_51 : decode cE_emitPair 51 = .ok (.getfield 81, 3) := by decide +kernel
theorem dE_emitPair_54 : decode cE_emitPair 54 = .ok (.lload_n 3, 1) := by decide +kernel
theorem dE_emitPair_55 : decode cE_emitPair 55 = .ok (.lastore, 1) := by decide +kernel
theorem dE_emitPair_56 : decode cE_emitPair 56 = .ok (.aload_n 0, 1) := by decide +kernel
theorem dE_emitPair_57 : decode cE_emitPair 57 = .ok (.getfield 29, 3) := by decide +kernel
theorem dE_emitPair_60 : decode cE_emitPair 60 = .ok (.aload_n 0, 1) := by decide +kernel
theorem dE_emitPair_61 : decode cE_emitPair 61 = .ok (.getfield 81, 3) := by decide +kernel
theorem dE_emitPair_64 : decode cE_emitPair 64 = .ok (.lload_n 1, 1) := by decide +kernel
theorem dE_emitPair_65 : decode cE_emitPair 65 = .ok (.lastore, 1) := by decide +kernel
theorem dE_emitPair_66 : decode cE_emitPair 66 = .ok (.aload_n 0, 1) := by decide +kernel
theorem dE_emitPair_67 : decode cE_emitPair 67 = .ok (.dup, 1) := by decide +kernel
theorem dE_emitPair_68 : decode cE_emitPair 68 = .ok (.getfield 81, 3) := by decide +kernel
theorem dE_emitPair_71 : decode cE_emitPair 71 = .ok (.iconst 1, 1) := by decide +kernel
theorem dE_emitPair_72 : decode cE_emitPair 72 = .ok (.iadd, 1) := by decide +kernel
theorem dE_emitPair_73 : decode cE_emitPair 73 = .ok (.putfield 81, 3) := by decide +kernel
theorem dE_emitPair_76 : decode cE_emitPair 76 = .ok (.return_, 1) := by decide +kernel
theorem dE_combine_0 : decode cE_combine 0 = .ok (.aload_n 0, 1) := by decide +kernel
theorem dE_combine_1 : decode cE_combine 1 = .ok (.invokevirtual 136, 3) := by decide +kernel
theorem dE_combine_4 : decode cE_combine 4 = .ok (.lstore_n 2, 1) := by decide +kernel
theorem dE_combine_5 : decode cE_combine 5 = .ok (.aload_n 0, 1) := by decide +kernel
theorem dE_combine_6 : decode cE_combine 6 = .ok (.invokevirtual 136, 3) := by decide +kernel
theorem dE_combine_9 : decode cE_combine 9 = .ok (.lstore 4, 2) := by decide +kernel
theorem dE_combine_11 : decode cE_combine 11 = .ok (.iload_n 1, 1) := by decide +kernel
theorem dE_combine_12 : decode cE_combine 12 = .ok (.tableswitch 121 6 11 #[40, 51, 62, 73, 83, 102], 40) := by decide +kernel
theorem dE_combine_52 : decode cE_combine 52 = .ok (.aload_n 0, 1) := by decide +kernel
theorem dE_combine_53 : decode cE_combine 53 = .ok (.lload 4, 2) := by decide +kernel
theorem dE_combine_55 : decode cE_combine 55 = .ok (.lload_n 2, 1) := by decide +kernel
theorem dE_combine_56 : decode cE_combine 56 = .ok (.ladd, 1) := by decide +kernel
theorem dE_combine_57 : decode cE_combine 57 = .ok (.invokevirtual 119, 3) := by decide +kernel
theorem dE_combine_60 : decode cE_combine 60 = .ok (.goto 73, 3) := by decide +kernel
theorem dE_combine_63 : decode cE_combine 63 = .ok (.aload_n 0, 1) := by decide +kernel
theorem dE_combine_64 : decode cE_combine 64 = .ok (.lload 4, 2) := by decide +kernel
theorem dE_combine_66 : decode cE_combine 66 = .ok (.lload_n 2, 1) := by decide +kernel
theorem dE_combine_67 : decode cE_combine 67 = .ok (.lsub, 1) := by decide +kernel
theorem dE_combine_68 : decode cE_combine 68 = .ok (.invokevirtual 119, 3) := by decide +kernel
theorem dE_combine_71 : decode cE_combine 71 = .ok (.goto 62, 3) := by decide +kernel
theorem dE_combine_74 : decode cE_combine 74 = .ok (.aload_n 0, 1) := by decide +kernel
theorem dE_combine_75 : decode cE_combine 75 = .ok (.lload 4, 2) := by decide +kernel
theorem dE_combine_77 : decode cE_combine 77 = .ok (.lload_n 2, 1) := by decide +kernel
theorem dE_combine_78 : decode cE_combine 78 = .ok (.lmul, 1) := by decide +kernel
theorem dE_combine_79 : decode cE_combine 79 = .ok (.invokevirtual 119, 3) := by decide +kernel
theorem dE_combine_82 : decode cE_combine 82 = .ok (.goto 51, 3) := by decide +kernel
theorem dE_combine_85 : decode cE_combine 85 = .ok (.aload_n 0, 1) := by decide +kernel
theorem dE_combine_86 : decode cE_combine 86 = .ok (.lload 4, 2) := by decide +kernel
theorem dE_combine_88 : decode cE_combine 88 = .ok (.lload_n 2, 1) := by decide +kernel
theorem dE_combine_89 : decode cE_combine 89 = .ok (.invokevirtual 152, 3) := by decide +kernel
theorem dE_combine_92 : decode cE_combine 92 = .ok (.goto 41, 3) := by decide +kernel
theorem dE_combine_95 : decode cE_combine 95 = .ok (.aload_n 0, 1) := by decide +kernel
theorem dE_combine_96 : decode cE_combine 96 = .ok (.lload 4, 2) := by decide +kernel
theorem dE_combine_98 : decode cE_combine 98 = .ok (.lload_n 2, 1) := by decide +kernel
theorem dE_combine_99 : decode cE_combine 99 = .ok (.lcmp, 1) := by decide +kernel
theorem dE_combine_100 : decode cE_combine 100 = .ok (.ifCond .ge 7, 3) := by decide +kernel
theorem dE_combine_103 : decode cE_combine 103 = .ok (.lconst 1, 1) := by decide +kernel
theorem dE_combine_104 : decode cE_combine 104 = .ok (.goto 4, 3) := by decide +kernel
theorem dE_combine_107 : decode cE_combine 107 = .ok (.lconst 0, 1) := by decide +kernel
theorem dE_combine_108 : decode cE_combine 108 = .ok (.invokevirtual 119, 3) := by decide +kernel
theorem dE_combine_111 : decode cE_combine 111 = .ok (.goto 22, 3) := by decide +kernel
theorem dE_combine_114 : decode cE_combine 114 = .ok (.aload_n 0, 1) := by decide +kernel
theorem dE_combine_115 : decode cE_combine 115 = .ok (.lload 4, 2) := by decide +kernel
theorem dE_combine_117 : decode cE_combine 117 = .ok (.lload_n 2, 1) := by decide +kernel
theorem dE_combine_118 : decode cE_combine 118 = .ok (.lcmp, 1) := by decide +kernel
theorem dE_combine_119 : decode cE_combine 119 = .ok (.ifCond .ne 7, 3) := by decide +kernel
theorem dE_combine_122 : decode cE_combine 122 = .ok (.lconst 1, 1) := by decide +kernel
theorem dE_combine_123 : decode cE_combine 123 = .ok (.goto 4, 3) := by decide +kernel
theorem dE_combine_126 : decode cE_combine 126 = .ok (.lconst 0, 1) := by decide +kernel
theorem dE_combine_127 : decode cE_combine 127 = .ok (.invokevirtual 119, 3) := by decide +kernel
theorem dE_combine_130 : decode cE_combine 130 = .ok (.goto 3, 3) := by decide +kernel
theorem dE_combine_133 : decode cE_combine 133 = .ok (.return_, 1) := by decide +kernel
theorem dE_divide_0 : decode cE_divide 0 = .ok (.lload_n 3, 1) := by decide +kernel
theorem dE_divide_1 : decode cE_divide 1 = .ok (.lconst 0, 1) := by decide +kernel
theorem dE_divide_2 : decode cE_divide 2 = .ok (.lcmp, 1) := by decide +kernel
theorem dE_divide_3 : decode cE_divide 3 = .ok (.ifCond .ne 9, 3) := by decide +kernel
theorem dE_divide_6 : decode cE_divide 6 = .ok (.aload_n 0, 1) := by decide +kernel
theorem dE_divide_7 : decode cE_divide 7 = .ok (.iconst 1, 1) := by decide +kernel
theorem dE_divide_8 : decode cE_divide 8 = .ok (.putfield 72, 3) := by decide +kernel
theorem dE_divide_11 : decode cE_divide 11 = .ok (.return_, 1) := by decide +kernel
theorem dE_divide_12 : decode cE_divide 12 = .ok (.aload_n 0, 1) := by decide +kernel
theorem dE_divide_13 : decode cE_divide 13 = .ok (.lload_n 1, 1) := by decide +kernel
theorem dE_divide_14 : decode cE_divide 14 = .ok (.lload_n 3, 1) := by decide +kernel
theorem dE_divide_15 : decode cE_divide 15 = .ok (.ldiv, 1) := by decide +kernel
theorem dE_divide_16 : decode cE_divide 16 = .ok (.invokevirtual 119, 3) := by decide +kernel
theorem dE_divide_19 : decode cE_divide 19 = .ok (.return_, 1) := by decide +kernel
