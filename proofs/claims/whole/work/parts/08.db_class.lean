theorem dC_write_71 : decode prog_1_method_19_code 71 = .ok (.invokevirtual 50, 3) := by decide +kernel
theorem dC_write_74 : decode prog_1_method_19_code 74 = .ok (.ireturn, 1) := by decide +kernel
theorem dC_writeAct_0 : decode prog_1_method_36_code 0 = .ok (.aload_n 0, 1) := by decide +kernel
theorem dC_writeAct_1 : decode prog_1_method_36_code 1 = .ok (.getfield 24, 3) := by decide +kernel
theorem dC_writeAct_4 : decode prog_1_method_36_code 4 = .ok (.bipush 64, 2) := by decide +kernel
theorem dC_writeAct_6 : decode prog_1_method_36_code 6 = .ok (.aload_n 0, 1) := by decide +kernel
theorem dC_writeAct_7 : decode prog_1_method_36_code 7 = .ok (.getfield 37, 3) := by decide +kernel
theorem dC_writeAct_10 : decode prog_1_method_36_code 10 = .ok (.iload_n 1, 1) := by decide +kernel
theorem dC_writeAct_11 : decode prog_1_method_36_code 11 = .ok (.invokevirtual 133, 3) := by decide +kernel
theorem dC_writeAct_14 : decode prog_1_method_36_code 14 = .ok (.imul, 1) := by decide +kernel
theorem dC_writeAct_15 : decode prog_1_method_36_code 15 = .ok (.aload_n 0, 1) := by decide +kernel
theorem dC_writeAct_16 : decode prog_1_method_36_code 16 = .ok (.getfield 37, 3) := by decide +kernel
theorem dC_writeAct_19 : decode prog_1_method_36_code 19 = .ok (.iload_n 1, 1) := by decide +kernel
theorem dC_writeAct_20 : decode prog_1_method_36_code 20 = .ok (.invokevirtual 136, 3) := by decide +kernel
theorem dC_writeAct_23 : decode prog_1_method_36_code 23 = .ok (.iadd, 1) := by decide +kernel
theorem dC_writeAct_24 : decode prog_1_method_36_code 24 = .ok (.invokevirtual 81, 3) := by decide +kernel
theorem dC_writeAct_27 : decode prog_1_method_36_code 27 = .ok (.aload_n 0, 1) := by decide +kernel
theorem dC_writeAct_28 : decode prog_1_method_36_code 28 = .ok (.getfield 37, 3) := by decide +kernel
theorem dC_writeAct_31 : decode prog_1_method_36_code 31 = .ok (.iload_n 1, 1) := by decide +kernel
theorem dC_writeAct_32 : decode prog_1_method_36_code 32 = .ok (.invokevirtual 133, 3) := by decide +kernel
theorem dC_writeAct_35 : decode prog_1_method_36_code 35 = .ok (.iconst 2, 1) := by decide +kernel
theorem dC_writeAct_36 : decode prog_1_method_36_code 36 = .ok (.if_icmp .eq 19, 3) := by decide +kernel
theorem dC_writeAct_39 : decode prog_1_method_36_code 39 = .ok (.aload_n 0, 1) := by decide +kernel
theorem dC_writeAct_40 : decode prog_1_method_36_code 40 = .ok (.getfield 24, 3) := by decide +kernel
theorem dC_writeAct_43 : decode prog_1_method_36_code 43 = .ok (.aload_n 0, 1) := by decide +kernel
theorem dC_writeAct_44 : decode prog_1_method_36_code 44 = .ok (.getfield 37, 3) := by decide +kernel
theorem dC_writeAct_47 : decode prog_1_method_36_code 47 = .ok (.iload_n 1, 1) := by decide +kernel
theorem dC_writeAct_48 : decode prog_1_method_36_code 48 = .ok (.invokevirtual 139, 3) := by decide +kernel
theorem dC_writeAct_51 : decode prog_1_method_36_code 51 = .ok (.invokevirtual 81, 3) := by decide +kernel
theorem dC_writeAct_54 : decode prog_1_method_36_code 54 = .ok (.return_, 1) := by decide +kernel
theorem dC_writeAct_55 : decode prog_1_method_36_code 55 = .ok (.iconst 0, 1) := by decide +kernel
theorem dC_writeAct_56 : decode prog_1_method_36_code 56 = .ok (.istore_n 2, 1) := by decide +kernel
theorem dC_writeAct_57 : decode prog_1_method_36_code 57 = .ok (.iload_n 2, 1) := by decide +kernel
theorem dC_writeAct_58 : decode prog_1_method_36_code 58 = .ok (.aload_n 0, 1) := by decide +kernel
theorem dC_writeAct_59 : decode prog_1_method_36_code 59 = .ok (.getfield 37, 3) := by decide +kernel
theorem dC_writeAct_62 : decode prog_1_method_36_code 62 = .ok (.iload_n 1, 1) := by decide +kernel
theorem dC_writeAct_63 : decode prog_1_method_36_code 63 = .ok (.invokevirtual 136, 3) := by decide +kernel
theorem dC_writeAct_66 : decode prog_1_method_36_code 66 = .ok (.if_icmp .ge 25, 3) := by decide +kernel
theorem dC_writeAct_69 : decode prog_1_method_36_code 69 = .ok (.aload_n 0, 1) := by decide +kernel
theorem dC_writeAct_70 : decode prog_1_method_36_code 70 = .ok (.getfield 24, 3) := by decide +kernel
theorem dC_writeAct_73 : decode prog_1_method_36_code 73 = .ok (.aload_n 0, 1) := by decide +kernel
theorem dC_writeAct_74 : decode prog_1_method_36_code 74 = .ok (.getfield 37, 3) := by decide +kernel
theorem dC_writeAct_77 : decode prog_1_method_36_code 77 = .ok (.iload_n 1, 1) := by decide +kernel
theorem dC_writeAct_78 : decode prog_1_method_36_code 78 = .ok (.iload_n 2, 1) := by decide +kernel
theorem dC_writeAct_79 : decode prog_1_method_36_code 79 = .ok (.invokevirtual 145, 3) := by decide +kernel
theorem dC_writeAct_82 : decode prog_1_method_36_code 82 = .ok (.invokevirtual 81, 3) := by decide +kernel
theorem dC_writeAct_85 : decode prog_1_method_36_code 85 = .ok (.iinc 2 1, 3) := by decide +kernel
theorem dC_writeAct_88 : decode prog_1_method_36_code 88 = .ok (.goto (-31), 3) := by decide +kernel
theorem dC_writeAct_91 : decode prog_1_method_36_code 91 = .ok (.return_, 1) := by decide +kernel
theorem dC_code_0 : decode prog_1_method_20_code 0 = .ok (.aload_n 0, 1) := by decide +kernel
theorem dC_code_1 : decode prog_1_method_20_code 1 = .ok (.getfield 24, 3) := by decide +kernel
theorem dC_code_4 : decode prog_1_method_20_code 4 = .ok (.iload_n 1, 1) := by decide +kernel
theorem dC_code_5 : decode prog_1_method_20_code 5 = .ok (.invokevirtual 168, 3) := by decide +kernel
theorem dC_code_8 : decode prog_1_method_20_code 8 = .ok (.ireturn, 1) := by decide +kernel
theorem dC_poke_0 : decode prog_1_method_21_code 0 = .ok (.aload_n 0, 1) := by decide +kernel
theorem dC_poke_1 : decode prog_1_method_21_code 1 = .ok (.getfield 24, 3) := by decide +kernel
theorem dC_poke_4 : decode prog_1_method_21_code 4 = .ok (.iload_n 1, 1) := by decide +kernel
theorem dC_poke_5 : decode prog_1_method_21_code 5 = .ok (.invokevirtual 125, 3) := by decide +kernel
theorem dC_poke_8 : decode prog_1_method_21_code 8 = .ok (.ifCond .eq 10, 3) := by decide +kernel
theorem dC_poke_11 : decode prog_1_method_21_code 11 = .ok (.iload_n 2, 1) := by decide +kernel
theorem dC_poke_12 : decode prog_1_method_21_code 12 = .ok (.invokestatic 70, 3) := by decide +kernel
theorem dC_poke_15 : decode prog_1_method_21_code 15 = .ok (.ifCond .ne 6, 3) := by decide +kernel
theorem dC_poke_18 : decode prog_1_method_21_code 18 = .ok (.bipush (-2), 2) := by decide +kernel
theorem dC_poke_20 : decode prog_1_method_21_code 20 = .ok (.ireturn, 1) := by decide +kernel
theorem dC_poke_21 : decode prog_1_method_21_code 21 = .ok (.aload_n 0, 1) := by decide +kernel
theorem dC_poke_22 : decode prog_1_method_21_code 22 = .ok (.getfield 24, 3) := by decide +kernel
theorem dC_poke_25 : decode prog_1_method_21_code 25 = .ok (.iload_n 1, 1) := by decide +kernel
theorem dC_poke_26 : decode prog_1_method_21_code 26 = .ok (.invokevirtual 168, 3) := by decide +kernel
theorem dC_poke_29 : decode prog_1_method_21_code 29 = .ok (.istore_n 3, 1) := by decide +kernel
theorem dC_poke_30 : decode prog_1_method_21_code 30 = .ok (.aload_n 0, 1) := by decide +kernel
theorem dC_poke_31 : decode prog_1_method_21_code 31 = .ok (.getfield 24, 3) := by decide +kernel
theorem dC_poke_34 : decode prog_1_method_21_code 34 = .ok (.iload_n 1, 1) := by decide +kernel
theorem dC_poke_35 : decode prog_1_method_21_code 35 = .ok (.iload_n 2, 1) := by decide +kernel
theorem dC_poke_36 : decode prog_1_method_21_code 36 = .ok (.invokevirtual 178, 3) := by decide +kernel
theorem dC_poke_39 : decode prog_1_method_21_code 39 = .ok (.iload_n 3, 1) := by decide +kernel
theorem dC_poke_40 : decode prog_1_method_21_code 40 = .ok (.ireturn, 1) := by decide +kernel
theorem dC_shorten_0 : decode prog_1_method_22_code 0 = .ok (.iload_n 1, 1) := by decide +kernel
theorem dC_shorten_1 : decode prog_1_method_22_code 1 = .ok (.ifCond .lt 14, 3) := by decide +kernel
theorem dC_shorten_4 : decode prog_1_method_22_code 4 = .ok (.iload_n 1, 1) := by decide +kernel
theorem dC_shorten_5 : decode prog_1_method_22_code 5 = .ok (.aload_n 0, 1) := by decide +kernel
theorem dC_shorten_6 : decode prog_1_method_22_code 6 = .ok (.getfield 24, 3) := by decide +kernel
theorem dC_shorten_9 : decode prog_1_method_22_code 9 = .ok (.invokevirtual 50, 3) := by decide +kernel
theorem dC_shorten_12 : decode prog_1_method_22_code 12 = .ok (.if_icmp .le 6, 3) := by decide +kernel
theorem dC_shorten_15 : decode prog_1_method_22_code 15 = .ok (.bipush (-2), 2) := by decide +kernel
theorem dC_shorten_17 : decode prog_1_method_22_code 17 = .ok (.ireturn, 1) := by decide +kernel
theorem dC_shorten_18 : decode prog_1_method_22_code 18 = .ok (.aload_n 0, 1) := by decide +kernel
theorem dC_shorten_19 : decode prog_1_method_22_code 19 = .ok (.getfield 24, 3) := by decide +kernel
theorem dC_shorten_22 : decode prog_1_method_22_code 22 = .ok (.iload_n 1, 1) := by decide +kernel
theorem dC_shorten_23 : decode prog_1_method_22_code 23 = .ok (.invokevirtual 84, 3) := by decide +kernel
theorem dC_shorten_26 : decode prog_1_method_22_code 26 = .ok (.aload_n 0, 1) := by decide +kernel
theorem dC_shorten_27 : decode prog_1_method_22_code 27 = .ok (.getfield 24, 3) := by decide +kernel
theorem dC_shorten_30 : decode prog_1_method_22_code 30 = .ok (.invokevirtual 50, 3) := by decide +kernel
theorem dC_shorten_33 : decode prog_1_method_22_code 33 = .ok (.ireturn, 1) := by decide +kernel
theorem dC_read_0 : decode prog_1_method_23_code 0 = .ok (.aload_n 0, 1) := by decide +kernel
theorem dC_read_1 : decode prog_1_method_23_code 1 = .ok (.invokevirtual 181, 3) := by decide +kernel
theorem dC_read_4 : decode prog_1_method_23_code 4 = .ok (.istore_n 1, 1) := by decide +kernel
theorem dC_read_5 : decode prog_1_method_23_code 5 = .ok (.iload_n 1, 1) := by decide +kernel
theorem dC_read_6 : decode prog_1_method_23_code 6 = .ok (.iconst (-1), 1) := by decide +kernel
theorem dC_read_7 : decode prog_1_method_23_code 7 = .ok (.if_icmp .eq 9, 3) := by decide +kernel
theorem dC_read_10 : decode prog_1_method_23_code 10 = .ok (.sipush (-1000), 3) := by decide +kernel
theorem dC_read_13 : decode prog_1_method_23_code 13 = .ok (.iload_n 1, 1) := by decide +kernel
theorem dC_read_14 : decode prog_1_method_23_code 14 = .ok (.isub, 1) := by decide +kernel
theorem dC_read_15 : decode prog_1_method_23_code 15 = .ok (.ireturn, 1) := by decide +kernel
theorem dC_read_16 : decode prog_1_method_23_code 16 = .ok (.aload_n 0, 1) := by decide +kernel
theorem dC_read_17 : decode prog_1_method_23_code 17 = .ok (.getfield 37, 3) := by decide +kernel
theorem dC_read_20 : decode prog_1_method_23_code 20 = .ok (.aload_n 0, 1) := by decide +kernel
theorem dC_read_21 : decode prog_1_method_23_code 21 = .ok (.getfield 24, 3) := by decide +kernel
theorem dC_read_24 : decode prog_1_method_23_code 24 = .ok (.iconst 0, 1) := by decide +kernel
theorem dC_read_25 : decode prog_1_method_23_code 25 = .ok (.invokevirtual 168, 3) := by decide +kernel
theorem dC_read_28 : decode prog_1_method_23_code 28 = .ok (.sipush 256, 3) := by decide +kernel
theorem dC_read_31 : decode prog_1_method_23_code 31 = .ok (.imul, 1) := by decide +kernel
theorem dC_read_32 : decode prog_1_method_23_code 32 = .ok (.aload_n 0, 1) := by decide +kernel
theorem dC_read_33 : decode prog_1_method_23_code 33 = .ok (.getfield 24, 3) := by decide +kernel
theorem dC_read_36 : decode prog_1_method_23_code 36 = .ok (.iconst 1, 1) := by decide +kernel
theorem dC_read_37 : decode prog_1_method_23_code 37 = .ok (.invokevirtual 168, 3) := by decide +kernel
theorem dC_read_40 : decode prog_1_method_23_code 40 = .ok (.iadd, 1) := by decide +kernel
theorem dC_read_41 : decode prog_1_method_23_code 41 = .ok (.invokevirtual 60, 3) := by decide +kernel
theorem dC_read_44 : decode prog_1_method_23_code 44 = .ok (.iconst 2, 1) := by decide +kernel
theorem dC_read_45 : decode prog_1_method_23_code 45 = .ok (.istore_n 2, 1) := by decide +kernel
theorem dC_read_46 : decode prog_1_method_23_code 46 = .ok (.iconst 0, 1) := by decide +kernel
theorem dC_read_47 : decode prog_1_method_23_code 47 = .ok (.istore_n 3, 1) := by decide +kernel
theorem dC_read_48 : decode prog_1_method_23_code 48 = .ok (.iload_n 3, 1) := by decide +kernel
theorem dC_read_49 : decode prog_1_method_23_code 49 = .ok (.bipush 100, 2) := by decide +kernel
theorem dC_read_51 : decode prog_1_method_23_code 51 = .ok (.if_icmp .ge 26, 3) := by decide +kernel
theorem dC_read_54 : decode prog_1_method_23_code 54 = .ok (.iload_n 2, 1) := by decide +kernel
theorem dC_read_55 : decode prog_1_method_23_code 55 = .ok (.aload_n 0, 1) := by decide +kernel
theorem dC_read_56 : decode prog_1_method_23_code 56 = .ok (.getfield 24, 3) := by decide +kernel
theorem dC_read_59 : decode prog_1_method_23_code 59 = .ok (.invokevirtual 50, 3) := by decide +kernel
theorem dC_read_62 : decode prog_1_method_23_code 62 = .ok (.if_icmp .ge 15, 3) := by decide +kernel
theorem dC_read_65 : decode prog_1_method_23_code 65 = .ok (.aload_n 0, 1) := by decide +kernel
theorem dC_read_66 : decode prog_1_method_23_code 66 = .ok (.iload_n 2, 1) := by decide +kernel
theorem dC_read_67 : decode prog_1_method_23_code 67 = .ok (.invokevirtual 184, 3) := by decide +kernel
theorem dC_read_70 : decode prog_1_method_23_code 70 = .ok (.istore_n 2, 1) := by decide +kernel
theorem dC_read_71 : decode prog_1_method_23_code 71 = .ok (.iinc 3 1, 3) := by decide +kernel
theorem dC_read_74 : decode prog_1_method_23_code 74 = .ok (.goto (-26), 3) := by decide +kernel
theorem dC_read_77 : decode prog_1_method_23_code 77 = .ok (.aload_n 0, 1) := by decide +kernel
theorem dC_read_78 : decode prog_1_method_23_code 78 = .ok (.getfield 37, 3) := by decide +kernel
theorem dC_read_81 : decode prog_1_method_23_code 81 = .ok (.invokevirtual 113, 3) := by decide +kernel
theorem dC_read_84 : decode prog_1_method_23_code 84 = .ok (.ireturn, 1) := by decide +kernel
theorem dC_findWrongByte_0 : decode prog_1_method_37_code 0 = .ok (.aload_n 0, 1) := by decide +kernel
theorem dC_findWrongByte_1 : decode prog_1_method_37_code 1 = .ok (.getfield 24, 3) := by decide +kernel
theorem dC_findWrongByte_4 : decode prog_1_method_37_code 4 = .ok (.invokevirtual 50, 3) := by decide +kernel
theorem dC_findWrongByte_7 : decode prog_1_method_37_code 7 = .ok (.istore_n 1, 1) := by decide +kernel
theorem dC_findWrongByte_8 : decode prog_1_method_37_code 8 = .ok (.iload_n 1, 1) := by decide +kernel
theorem dC_findWrongByte_9 : decode prog_1_method_37_code 9 = .ok (.iconst 2, 1) := by decide +kernel
theorem dC_findWrongByte_10 : decode prog_1_method_37_code 10 = .ok (.if_icmp .ge 5, 3) := by decide +kernel
theorem dC_findWrongByte_13 : decode prog_1_method_37_code 13 = .ok (.iload_n 1, 1) := by decide +kernel
theorem dC_findWrongByte_14 : decode prog_1_method_37_code 14 = .ok (.ireturn, 1) := by decide +kernel
theorem dC_findWrongByte_15 : decode prog_1_method_37_code 15 = .ok (.iconst 2, 1) := by decide +kernel
theorem dC_findWrongByte_16 : decode prog_1_method_37_code 16 = .ok (.istore_n 2, 1) := by decide +kernel
theorem dC_findWrongByte_17 : decode prog_1_method_37_code 17 = .ok (.iconst 0, 1) := by decide +kernel
theorem dC_findWrongByte_18 : decode prog_1_method_37_code 18 = .ok (.istore_n 3, 1) := by decide +kernel
theorem dC_findWrongByte_19 : decode prog_1_method_37_code 19 = .ok (.iload_n 3, 1) := by decide +kernel
theorem dC_findWrongByte_20 : decode prog_1_method_37_code 20 = .ok (.bipush 100, 2) := by decide +kernel
theorem dC_findWrongByte_22 : decode prog_1_method_37_code 22 = .ok (.if_icmp .ge 115, 3) := by decide +kernel
theorem dC_findWrongByte_25 : decode prog_1_method_37_code 25 = .ok (.iload_n 2, 1) := by decide +kernel
theorem dC_findWrongByte_26 : decode prog_1_method_37_code 26 = .ok (.iload_n 1, 1) := by decide +kernel
theorem dC_findWrongByte_27 : decode prog_1_method_37_code 27 = .ok (.if_icmp .ge 110, 3) := by decide +kernel
theorem dC_findWrongByte_30 : decode prog_1_method_37_code 30 = .ok (.aload_n 0, 1) := by decide +kernel
theorem dC_findWrongByte_31 : decode prog_1_method_37_code 31 = .ok (.getfield 24, 3) := by decide +kernel
theorem dC_findWrongByte_34 : decode prog_1_method_37_code 34 = .ok (.iload_n 2, 1) := by decide +kernel
theorem dC_findWrongByte_35 : decode prog_1_method_37_code 35 = .ok (.invokevirtual 168, 3) := by decide +kernel
theorem dC_findWrongByte_38 : decode prog_1_method_37_code 38 = .ok (.bipush 64, 2) := by decide +kernel
theorem dC_findWrongByte_40 : decode prog_1_method_37_code 40 = .ok (.idiv, 1) := by decide +kernel
theorem dC_findWrongByte_41 : decode prog_1_method_37_code 41 = .ok (.istore 4, 2) := by decide +kernel
theorem dC_findWrongByte_43 : decode prog_1_method_37_code 43 = .ok (.aload_n 0, 1) := by decide +kernel
theorem dC_findWrongByte_44 : decode prog_1_method_37_code 44 = .ok (.getfield 24, 3) := by decide +kernel
theorem dC_findWrongByte_47 : decode prog_1_method_37_code 47 = .ok (.iload_n 2, 1) := by decide +kernel
theorem dC_findWrongByte_48 : decode prog_1_method_37_code 48 = .ok (.invokevirtual 168, 3) := by decide +kernel
theorem dC_findWrongByte_51 : decode prog_1_method_37_code 51 = .ok (.bipush 64, 2) := by decide +kernel
theorem dC_findWrongByte_53 : decode prog_1_method_37_code 53 = .ok (.irem, 1) := by decide +kernel
theorem dC_findWrongByte_54 : decode prog_1_method_37_code 54 = .ok (.istore 5, 2) := by decide +kernel
theorem dC_findWrongByte_56 : decode prog_1_method_37_code 56 = .ok (.iload 4, 2) := by decide +kernel
theorem dC_findWrongByte_58 : decode prog_1_method_37_code 58 = .ok (.iconst 2, 1) := by decide +kernel
theorem dC_findWrongByte_59 : decode prog_1_method_37_code 59 = .ok (.if_icmp .gt 16, 3) := by decide +kernel
theorem dC_findWrongByte_62 : decode prog_1_method_37_code 62 = .ok (.iload 5, 2) := by decide +kernel
theorem dC_findWrongByte_64 : decode prog_1_method_37_code 64 = .ok (.iconst 1, 1) := by decide +kernel
theorem dC_findWrongByte_65 : decode prog_1_method_37_code 65 = .ok (.if_icmp .lt 10, 3) := by decide +kernel
theorem dC_findWrongByte_68 : decode prog_1_method_37_code 68 = .ok (.iload 5, 2) := by decide +kernel
theorem dC_findWrongByte_70 : decode prog_1_method_37_code 70 = .ok (.bipush 40, 2) := by decide +kernel
theorem dC_findWrongByte_72 : decode prog_1_method_37_code 72 = .ok (.if_icmp .le 5, 3) := by decide +kernel
theorem dC_findWrongByte_75 : decode prog_1_method_37_code 75 = .ok (.iload_n 2, 1) := by decide +kernel
theorem dC_findWrongByte_76 : decode prog_1_method_37_code 76 = .ok (.ireturn, 1) := by decide +kernel
theorem dC_findWrongByte_77 : decode prog_1_method_37_code 77 = .ok (.iload_n 2, 1) := by decide +kernel
theorem dC_findWrongByte_78 : decode prog_1_method_37_code 78 = .ok (.iconst 1, 1) := by decide +kernel
theorem dC_findWrongByte_79 : decode prog_1_method_37_code 79 = .ok (.iadd, 1) := by decide +kernel
theorem dC_findWrongByte_80 : decode prog_1_method_37_code 80 = .ok (.iload 4, 2) := by decide +kernel
theorem dC_findWrongByte_82 : decode prog_1_method_37_code 82 = .ok (.iconst 2, 1) := by decide +kernel
theorem dC_findWrongByte_83 : decode prog_1_method_37_code 83 = .ok (.if_icmp .ne 8, 3) := by decide +kernel
theorem dC_findWrongByte_86 : decode prog_1_method_37_code 86 = .ok (.iload 5, 2) := by decide +kernel
theorem dC_findWrongByte_88 : decode prog_1_method_37_code 88 = .ok (.goto 4, 3) := by decide +kernel
theorem dC_findWrongByte_91 : decode prog_1_method_37_code 91 = .ok (.iconst 1, 1) := by decide +kernel
theorem dC_findWrongByte_92 : decode prog_1_method_37_code 92 = .ok (.iadd, 1) := by decide +kernel
theorem dC_findWrongByte_93 : decode prog_1_method_37_code 93 = .ok (.istore 6, 2) := by decide +kernel
theorem dC_findWrongByte_95 : decode prog_1_method_37_code 95 = .ok (.iload 6, 2) := by decide +kernel
theorem dC_findWrongByte_97 : decode prog_1_method_37_code 97 = .ok (.iload_n 1, 1) := by decide +kernel
theorem dC_findWrongByte_98 : decode prog_1_method_37_code 98 = .ok (.if_icmp .le 5, 3) := by decide +kernel
theorem dC_findWrongByte_101 : decode prog_1_method_37_code 101 = .ok (.iload_n 1, 1) := by decide +kernel
theorem dC_findWrongByte_102 : decode prog_1_method_37_code 102 = .ok (.ireturn, 1) := by decide +kernel
theorem dC_findWrongByte_103 : decode prog_1_method_37_code 103 = .ok (.iload 4, 2) := by decide +kernel
theorem dC_findWrongByte_105 : decode prog_1_method_37_code 105 = .ok (.iconst 2, 1) := by decide +kernel
theorem dC_findWrongByte_106 : decode prog_1_method_37_code 106 = .ok (.if_icmp .eq 22, 3) := by decide +kernel
theorem dC_findWrongByte_109 : decode prog_1_method_37_code 109 = .ok (.aload_n 0, 1) := by decide +kernel
theorem dC_findWrongByte_110 : decode prog_1_method_37_code 110 = .ok (.getfield 24, 3) := by decide +kernel
theorem dC_findWrongByte_113 : decode prog_1_method_37_code 113 = .ok (.iload_n 2, 1) := by decide +kernel
theorem dC_findWrongByte_114 : decode prog_1_method_37_code 114 = .ok (.iconst 1, 1) := by decide +kernel
theorem dC_findWrongByte_115 : decode prog_1_method_37_code 115 = .ok (.iadd, 1) := by decide +kernel
theorem dC_findWrongByte_116 : decode prog_1_method_37_code 116 = .ok (.invokevirtual 168, 3) := by decide +kernel
theorem dC_findWrongByte_119 : decode prog_1_method_37_code 119 = .ok (.bipush 79, 2) := by decide +kernel
theorem dC_findWrongByte_121 : decode prog_1_method_37_code 121 = .ok (.if_icmp .le 7, 3) := by decide +kernel
theorem dC_findWrongByte_124 : decode prog_1_method_37_code 124 = .ok (.iload_n 2, 1) := by decide +kernel
theorem dC_findWrongByte_125 : decode prog_1_method_37_code 125 = .ok (.iconst 1, 1) := by decide +kernel
theorem dC_findWrongByte_126 : decode prog_1_method_37_code 126 = .ok (.iadd, 1) := by decide +kernel
theorem dC_findWrongByte_127 : decode prog_1_method_37_code 127 = .ok (.ireturn, 1) := by decide +kernel
theorem dC_findWrongByte_128 : decode prog_1_method_37_code 128 = .ok (.iload 6, 2) := by decide +kernel
theorem dC_findWrongByte_130 : decode prog_1_method_37_code 130 = .ok (.istore_n 2, 1) := by decide +kernel
theorem dC_findWrongByte_131 : decode prog_1_method_37_code 131 = .ok (.iinc 3 1, 3) := by decide +kernel
theorem dC_findWrongByte_134 : decode prog_1_method_37_code 134 = .ok (.goto (-115), 3) := by decide +kernel
theorem dC_findWrongByte_137 : decode prog_1_method_37_code 137 = .ok (.iload_n 2, 1) := by decide +kernel
theorem dC_findWrongByte_138 : decode prog_1_method_37_code 138 = .ok (.iload_n 1, 1) := by decide +kernel
theorem dC_findWrongByte_139 : decode prog_1_method_37_code 139 = .ok (.if_icmp .ge 7, 3) := by decide +kernel
theorem dC_findWrongByte_142 : decode prog_1_method_37_code 142 = .ok (.iload_n 2, 1) := by decide +kernel
theorem dC_findWrongByte_143 : decode prog_1_method_37_code 143 = .ok (.goto 4, 3) := by decide +kernel
theorem dC_findWrongByte_146 : decode prog_1_method_37_code 146 = .ok (.iconst (-1), 1) := by decide +kernel
theorem dC_findWrongByte_147 : decode prog_1_method_37_code 147 = .ok (.ireturn, 1) := by decide +kernel
theorem dC_readAct_0 : decode prog_1_method_38_code 0 = .ok (.aload_n 0, 1) := by decide +kernel
theorem dC_readAct_1 : decode prog_1_method_38_code 1 = .ok (.getfield 24, 3) := by decide +kernel
theorem dC_readAct_4 : decode prog_1_method_38_code 4 = .ok (.iload_n 1, 1) := by decide +kernel
theorem dC_readAct_5 : decode prog_1_method_38_code 5 = .ok (.invokevirtual 168, 3) := by decide +kernel
theorem dC_readAct_8 : decode prog_1_method_38_code 8 = .ok (.bipush 64, 2) := by decide +kernel
theorem dC_readAct_10 : decode prog_1_method_38_code 10 = .ok (.idiv, 1) := by decide +kernel
theorem dC_readAct_11 : decode prog_1_method_38_code 11 = .ok (.istore_n 2, 1) := by decide +kernel
theorem dC_readAct_12 : decode prog_1_method_38_code 12 = .ok (.aload_n 0, 1) := by decide +kernel
theorem dC_readAct_13 : decode prog_1_method_38_code 13 = .ok (.getfield 24, 3) := by decide +kernel
theorem dC_readAct_16 : decode prog_1_method_38_code 16 = .ok (.iload_n 1, 1) := by decide +kernel
theorem dC_readAct_17 : decode prog_1_method_38_code 17 = .ok (.invokevirtual 168, 3) := by decide +kernel
theorem dC_readAct_20 : decode prog_1_method_38_code 20 = .ok (.bipush 64, 2) := by decide +kernel
theorem dC_readAct_22 : decode prog_1_method_38_code 22 = .ok (.irem, 1) := by decide +kernel
theorem dC_readAct_23 : decode prog_1_method_38_code 23 = .ok (.istore_n 3, 1) := by decide +kernel
theorem dC_readAct_24 : decode prog_1_method_38_code 24 = .ok (.iload_n 2, 1) := by decide +kernel
theorem dC_readAct_25 : decode prog_1_method_38_code 25 = .ok (.iconst 2, 1) := by decide +kernel
theorem dC_readAct_26 : decode prog_1_method_38_code 26 = .ok (.if_icmp .eq 26, 3) := by decide +kernel
theorem dC_readAct_29 : decode prog_1_method_38_code 29 = .ok (.aload_n 0, 1) := by decide +kernel
theorem dC_readAct_30 : decode prog_1_method_38_code 30 = .ok (.getfield 37, 3) := by decide +kernel
theorem dC_readAct_33 : decode prog_1_method_38_code 33 = .ok (.iload_n 2, 1) := by decide +kernel
theorem dC_readAct_34 : decode prog_1_method_38_code 34 = .ok (.aload_n 0, 1) := by decide +kernel
theorem dC_readAct_35 : decode prog_1_method_38_code 35 = .ok (.getfield 24, 3) := by decide +kernel
theorem dC_readAct_38 : decode prog_1_method_38_code 38 = .ok (.iload_n 1, 1) := by decide +kernel
theorem dC_readAct_39 : decode prog_1_method_38_code 39 = .ok (.iconst 1, 1) := by decide +kernel
theorem dC_readAct_40 : decode prog_1_method_38_code 40 = .ok (.iadd, 1) := by decide +kernel
theorem dC_readAct_41 : decode prog_1_method_38_code 41 = .ok (.invokevirtual 168, 3) := by decide +kernel
theorem dC_readAct_44 : decode prog_1_method_38_code 44 = .ok (.iload_n 3, 1) := by decide +kernel
theorem dC_readAct_45 : decode prog_1_method_38_code 45 = .ok (.invokevirtual 149, 3) := by decide +kernel
theorem dC_readAct_48 : decode prog_1_method_38_code 48 = .ok (.iload_n 1, 1) := by decide +kernel
theorem dC_readAct_49 : decode prog_1_method_38_code 49 = .ok (.iconst 2, 1) := by decide +kernel
theorem dC_readAct_50 : decode prog_1_method_38_code 50 = .ok (.iadd, 1) := by decide +kernel
theorem dC_readAct_51 : decode prog_1_method_38_code 51 = .ok (.ireturn, 1) := by decide +kernel
theorem dC_readAct_52 : decode prog_1_method_38_code 52 = .ok (.aload_n 0, 1) := by decide +kernel
theorem dC_readAct_53 : decode prog_1_method_38_code 53 = .ok (.getfield 37, 3) := by decide +kernel
theorem dC_readAct_56 : decode prog_1_method_38_code 56 = .ok (.invokevirtual 155, 3) := by decide +kernel
theorem dC_readAct_59 : decode prog_1_method_38_code 59 = .ok (.iconst 1, 1) := by decide +kernel
theorem dC_readAct_60 : decode prog_1_method_38_code 60 = .ok (.istore 4, 2) := by decide +kernel
theorem dC_readAct_62 : decode prog_1_method_38_code 62 = .ok (.iload 4, 2) := by decide +kernel
theorem dC_readAct_64 : decode prog_1_method_38_code 64 = .ok (.iload_n 3, 1) := by decide +kernel
theorem dC_readAct_65 : decode prog_1_method_38_code 65 = .ok (.if_icmp .gt 27, 3) := by decide +kernel
theorem dC_readAct_68 : decode prog_1_method_38_code 68 = .ok (.aload_n 0, 1) := by decide +kernel
theorem dC_readAct_69 : decode prog_1_method_38_code 69 = .ok (.getfield 37, 3) := by decide +kernel
theorem dC_readAct_72 : decode prog_1_method_38_code 72 = .ok (.aload_n 0, 1) := by decide +kernel
theorem dC_readAct_73 : decode prog_1_method_38_code 73 = .ok (.getfield 24, 3) := by decide +kernel
theorem dC_readAct_76 : decode prog_1_method_38_code 76 = .ok (.iload_n 1, 1) := by decide +kernel
theorem dC_readAct_77 : decode prog_1_method_38_code 77 = .ok (.iload 4, 2) := by decide +kernel
theorem dC_readAct_79 : decode prog_1_method_38_code 79 = .ok (.iadd, 1) := by decide +kernel
theorem dC_readAct_80 : decode prog_1_method_38_code 80 = .ok (.invokevirtual 168, 3) := by decide +kernel
theorem dC_readAct_83 : decode prog_1_method_38_code 83 = .ok (.invokevirtual 158, 3) := by decide +kernel
theorem dC_readAct_86 : decode prog_1_method_38_code 86 = .ok (.iinc 4 1, 3) := by decide +kernel
theorem dC_readAct_89 : decode prog_1_method_38_code 89 = .ok (.goto (-27), 3) := by decide +kernel
theorem dC_readAct_92 : decode prog_1_method_38_code 92 = .ok (.iload_n 1, 1) := by decide +kernel
theorem dC_readAct_93 : decode prog_1_method_38_code 93 = .ok (.iconst 1, 1) := by decide +kernel
theorem dC_readAct_94 : decode prog_1_method_38_code 94 = .ok (.iadd, 1) := by decide +kernel
theorem dC_readAct_95 : decode prog_1_method_38_code 95 = .ok (.iload_n 3, 1) := by decide +kernel
theorem dC_readAct_96 : decode prog_1_method_38_code 96 = .ok (.iadd, 1) := by decide +kernel
theorem dC_readAct_97 : decode prog_1_method_38_code 97 = .ok (.ireturn, 1) := by decide +kernel
theorem dC_moved_0 : decode prog_1_method_24_code 0 = .ok (.iload_n 1, 1) := by decide +kernel
theorem dC_moved_1 : decode prog_1_method_24_code 1 = .ok (.ifCond .lt 8, 3) := by decide +kernel
theorem dC_moved_4 : decode prog_1_method_24_code 4 = .ok (.iload_n 1, 1) := by decide +kernel
theorem dC_moved_5 : decode prog_1_method_24_code 5 = .ok (.iconst 4, 1) := by decide +kernel
theorem dC_moved_6 : decode prog_1_method_24_code 6 = .ok (.if_icmp .le 6, 3) := by decide +kernel
theorem dC_moved_9 : decode prog_1_method_24_code 9 = .ok (.bipush (-2), 2) := by decide +kernel
theorem dC_moved_11 : decode prog_1_method_24_code 11 = .ok (.ireturn, 1) := by decide +kernel
theorem dC_moved_12 : decode prog_1_method_24_code 12 = .ok (.iconst 0, 1) := by decide +kernel
theorem dC_moved_13 : decode prog_1_method_24_code 13 = .ok (.istore_n 2, 1) := by decide +kernel
theorem dC_moved_14 : decode prog_1_method_24_code 14 = .ok (.aload_n 0, 1) := by decide +kernel
theorem dC_moved_15 : decode prog_1_method_24_code 15 = .ok (.getfield 46, 3) := by decide +kernel
theorem dC_moved_18 : decode prog_1_method_24_code 18 = .ok (.invokevirtual 105, 3) := by decide +kernel
theorem dC_moved_21 : decode prog_1_method_24_code 21 = .ok (.iconst 0, 1) := by decide +kernel
theorem dC_moved_22 : decode prog_1_method_24_code 22 = .ok (.istore_n 3, 1) := by decide +kernel
theorem dC_moved_23 : decode prog_1_method_24_code 23 = .ok (.iload_n 3, 1) := by decide +kernel
theorem dC_moved_24 : decode prog_1_method_24_code 24 = .ok (.bipush 40, 2) := by decide +kernel
theorem dC_moved_26 : decode prog_1_method_24_code 26 = .ok (.if_icmp .ge 40, 3) := by decide +kernel
theorem dC_moved_29 : decode prog_1_method_24_code 29 = .ok (.aload_n 0, 1) := by decide +kernel
theorem dC_moved_30 : decode prog_1_method_24_code 30 = .ok (.getfield 46, 3) := by decide +kernel
theorem dC_moved_33 : decode prog_1_method_24_code 33 = .ok (.invokevirtual 107, 3) := by decide +kernel
theorem dC_moved_36 : decode prog_1_method_24_code 36 = .ok (.ifCond .eq 30, 3) := by decide +kernel
theorem dC_moved_39 : decode prog_1_method_24_code 39 = .ok (.aload_n 0, 1) := by decide +kernel
theorem dC_moved_40 : decode prog_1_method_24_code 40 = .ok (.getfield 46, 3) := by decide +kernel
theorem dC_moved_43 : decode prog_1_method_24_code 43 = .ok (.invokevirtual 187, 3) := by decide +kernel
theorem dC_moved_46 : decode prog_1_method_24_code 46 = .ok (.iload_n 1, 1) := by decide +kernel
theorem dC_moved_47 : decode prog_1_method_24_code 47 = .ok (.if_icmp .ne 13, 3) := by decide +kernel
theorem dC_moved_50 : decode prog_1_method_24_code 50 = .ok (.iload_n 2, 1) := by decide +kernel
theorem dC_moved_51 : decode prog_1_method_24_code 51 = .ok (.aload_n 0, 1) := by decide +kernel
theorem dC_moved_52 : decode prog_1_method_24_code 52 = .ok (.getfield 46, 3) := by decide +kernel
theorem dC_moved_55 : decode prog_1_method_24_code 55 = .ok (.invokevirtual 190, 3) := by decide +kernel
theorem dC_moved_58 : decode prog_1_method_24_code 58 = .ok (.iadd, 1) := by decide +kernel
theorem dC_moved_59 : decode prog_1_method_24_code 59 = .ok (.istore_n 2, 1) := by decide +kernel
theorem dC_moved_60 : decode prog_1_method_24_code 60 = .ok (.iinc 3 1, 3) := by decide +kernel
theorem dC_moved_63 : decode prog_1_method_24_code 63 = .ok (.goto (-40), 3) := by decide +kernel
theorem dC_moved_66 : decode prog_1_method_24_code 66 = .ok (.iload_n 2, 1) := by decide +kernel
theorem dC_moved_67 : decode prog_1_method_24_code 67 = .ok (.ireturn, 1) := by decide +kernel
theorem dC_of_0 : decode prog_1_method_25_code 0 = .ok (.iload_n 1, 1) := by decide +kernel
theorem dC_of_1 : decode prog_1_method_25_code 1 = .ok (.tableswitch 111 0 7 #[47, 55, 63, 71, 79, 87, 95, 103], 47) := by decide +kernel
theorem dC_of_48 : decode prog_1_method_25_code 48 = .ok (.aload_n 0, 1) := by decide +kernel
theorem dC_of_49 : decode prog_1_method_25_code 49 = .ok (.getfield 14, 3) := by decide +kernel
theorem dC_of_52 : decode prog_1_method_25_code 52 = .ok (.invokevirtual 50, 3) := by decide +kernel
theorem dC_of_55 : decode prog_1_method_25_code 55 = .ok (.ireturn, 1) := by decide +kernel
theorem dC_of_56 : decode prog_1_method_25_code 56 = .ok (.aload_n 0, 1) := by decide +kernel
theorem dC_of_57 : decode prog_1_method_25_code 57 = .ok (.getfield 18, 3) := by decide +kernel
theorem dC_of_60 : decode prog_1_method_25_code 60 = .ok (.invokevirtual 50, 3) := by decide +kernel
theorem dC_of_63 : decode prog_1_method_25_code 63 = .ok (.ireturn, 1) := by decide +kernel
theorem dC_of_64 : decode prog_1_method_25_code 64 = .ok (.aload_n 0, 1) := by decide +kernel
theorem dC_of_65 : decode prog_1_method_25_code 65 = .ok (.getfield 37, 3) := by decide +kernel
theorem dC_of_68 : decode prog_1_method_25_code 68 = .ok (.invokevirtual 113, 3) := by decide +kernel
theorem dC_of_71 : decode prog_1_method_25_code 71 = .ok (.ireturn, 1) := by decide +kernel
theorem dC_of_72 : decode prog_1_method_25_code 72 = .ok (.aload_n 0, 1) := by decide +kernel
theorem dC_of_73 : decode prog_1_method_25_code 73 = .ok (.getfield 24, 3) := by decide +kernel
theorem dC_of_76 : decode prog_1_method_25_code 76 = .ok (.invokevirtual 50, 3) := by decide +kernel
theorem dC_of_79 : decode prog_1_method_25_code 79 = .ok (.ireturn, 1) := by decide +kernel
theorem dC_of_80 : decode prog_1_method_25_code 80 = .ok (.aload_n 0, 1) := by decide +kernel
theorem dC_of_81 : decode prog_1_method_25_code 81 = .ok (.getfield 21, 3) := by decide +kernel
theorem dC_of_84 : decode prog_1_method_25_code 84 = .ok (.invokevirtual 50, 3) := by decide +kernel
theorem dC_of_87 : decode prog_1_method_25_code 87 = .ok (.ireturn, 1) := by decide +kernel
theorem dC_of_88 : decode prog_1_method_25_code 88 = .ok (.aload_n 0, 1) := by decide +kernel
theorem dC_of_89 : decode prog_1_method_25_code 89 = .ok (.getfield 14, 3) := by decide +kernel
theorem dC_of_92 : decode prog_1_method_25_code 92 = .ok (.invokevirtual 102, 3) := by decide +kernel
theorem dC_of_95 : decode prog_1_method_25_code 95 = .ok (.ireturn, 1) := by decide +kernel
theorem dC_of_96 : decode prog_1_method_25_code 96 = .ok (.aload_n 0, 1) := by decide +kernel
theorem dC_of_97 : decode prog_1_method_25_code 97 = .ok (.getfield 18, 3) := by decide +kernel
theorem dC_of_100 : decode prog_1_method_25_code 100 = .ok (.invokevirtual 102, 3) := by decide +kernel
theorem dC_of_103 : decode prog_1_method_25_code 103 = .ok (.ireturn, 1) := by decide +kernel
theorem dC_of_104 : decode prog_1_method_25_code 104 = .ok (.aload_n 0, 1) := by decide +kernel
theorem dC_of_105 : decode prog_1_method_25_code 105 = .ok (.getfield 37, 3) := by decide +kernel
theorem dC_of_108 : decode prog_1_method_25_code 108 = .ok (.invokevirtual 161, 3) := by decide +kernel
theorem dC_of_111 : decode prog_1_method_25_code 111 = .ok (.ireturn, 1) := by decide +kernel
theorem dC_of_112 : decode prog_1_method_25_code 112 = .ok (.aload_n 0, 1) := by decide +kernel
theorem dC_of_113 : decode prog_1_method_25_code 113 = .ok (.getfield 30, 3) := by decide +kernel
theorem dC_of_116 : decode prog_1_method_25_code 116 = .ok (.iload_n 1, 1) := by decide +kernel
theorem dC_of_117 : decode prog_1_method_25_code 117 = .ok (.bipush 8, 2) := by decide +kernel
theorem dC_of_119 : decode prog_1_method_25_code 119 = .ok (.isub, 1) := by decide +kernel
theorem dC_of_120 : decode prog_1_method_25_code 120 = .ok (.invokevirtual 193, 3) := by decide +kernel
theorem dC_of_123 : decode prog_1_method_25_code 123 = .ok (.ireturn, 1) := by decide +kernel
theorem dC_at_0 : decode prog_1_method_26_code 0 = .ok (.iload_n 1, 1) := by decide +kernel
theorem dC_at_1 : decode prog_1_method_26_code 1 = .ok (.invokestatic 66, 3) := by decide +kernel
theorem dC_at_4 : decode prog_1_method_26_code 4 = .ok (.ifCond .eq 15, 3) := by decide +kernel
theorem dC_at_7 : decode prog_1_method_26_code 7 = .ok (.aload_n 0, 1) := by decide +kernel
theorem dC_at_8 : decode prog_1_method_26_code 8 = .ok (.iload_n 1, 1) := by decide +kernel
theorem dC_at_9 : decode prog_1_method_26_code 9 = .ok (.invokevirtual 73, 3) := by decide +kernel
theorem dC_at_12 : decode prog_1_method_26_code 12 = .ok (.iload_n 2, 1) := by decide +kernel
theorem dC_at_13 : decode prog_1_method_26_code 13 = .ok (.invokevirtual 125, 3) := by decide +kernel
theorem dC_at_16 : decode prog_1_method_26_code 16 = .ok (.ifCond .ne 6, 3) := by decide +kernel
theorem dC_at_19 : decode prog_1_method_26_code 19 = .ok (.bipush (-2), 2) := by decide +kernel
theorem dC_at_21 : decode prog_1_method_26_code 21 = .ok (.ireturn, 1) := by decide +kernel
theorem dC_at_22 : decode prog_1_method_26_code 22 = .ok (.aload_n 0, 1) := by decide +kernel
theorem dC_at_23 : decode prog_1_method_26_code 23 = .ok (.iload_n 1, 1) := by decide +kernel
theorem dC_at_24 : decode prog_1_method_26_code 24 = .ok (.invokevirtual 73, 3) := by decide +kernel
theorem dC_at_27 : decode prog_1_method_26_code 27 = .ok (.iload_n 2, 1) := by decide +kernel
theorem dC_at_28 : decode prog_1_method_26_code 28 = .ok (.invokevirtual 168, 3) := by decide +kernel
theorem dC_at_31 : decode prog_1_method_26_code 31 = .ok (.ireturn, 1) := by decide +kernel
