theorem dC_init_0 : decode prog_1_method_1_code 0 = .ok (.aload_n 0, 1) := by decide +kernel
theorem dC_init_1 : decode prog_1_method_1_code 1 = .ok (.invokespecial 3, 3) := by decide +kernel
theorem dC_init_4 : decode prog_1_method_1_code 4 = .ok (.aload_n 0, 1) := by decide +kernel
theorem dC_init_5 : decode prog_1_method_1_code 5 = .ok (.new 9, 3) := by decide +kernel
theorem dC_init_8 : decode prog_1_method_1_code 8 = .ok (.dup, 1) := by decide +kernel
theorem dC_init_9 : decode prog_1_method_1_code 9 = .ok (.bipush 40, 2) := by decide +kernel
theorem dC_init_11 : decode prog_1_method_1_code 11 = .ok (.invokespecial 11, 3) := by decide +kernel
theorem dC_init_14 : decode prog_1_method_1_code 14 = .ok (.putfield 14, 3) := by decide +kernel
theorem dC_init_17 : decode prog_1_method_1_code 17 = .ok (.aload_n 0, 1) := by decide +kernel
theorem dC_init_18 : decode prog_1_method_1_code 18 = .ok (.new 9, 3) := by decide +kernel
theorem dC_init_21 : decode prog_1_method_1_code 21 = .ok (.dup, 1) := by decide +kernel
theorem dC_init_22 : decode prog_1_method_1_code 22 = .ok (.bipush 40, 2) := by decide +kernel
theorem dC_init_24 : decode prog_1_method_1_code 24 = .ok (.invokespecial 11, 3) := by decide +kernel
theorem dC_init_27 : decode prog_1_method_1_code 27 = .ok (.putfield 18, 3) := by decide +kernel
theorem dC_init_30 : decode prog_1_method_1_code 30 = .ok (.aload_n 0, 1) := by decide +kernel
theorem dC_init_31 : decode prog_1_method_1_code 31 = .ok (.new 9, 3) := by decide +kernel
theorem dC_init_34 : decode prog_1_method_1_code 34 = .ok (.dup, 1) := by decide +kernel
theorem dC_init_35 : decode prog_1_method_1_code 35 = .ok (.bipush 80, 2) := by decide +kernel
theorem dC_init_37 : decode prog_1_method_1_code 37 = .ok (.invokespecial 11, 3) := by decide +kernel
theorem dC_init_40 : decode prog_1_method_1_code 40 = .ok (.putfield 21, 3) := by decide +kernel
theorem dC_init_43 : decode prog_1_method_1_code 43 = .ok (.aload_n 0, 1) := by decide +kernel
theorem dC_init_44 : decode prog_1_method_1_code 44 = .ok (.new 9, 3) := by decide +kernel
theorem dC_init_47 : decode prog_1_method_1_code 47 = .ok (.dup, 1) := by decide +kernel
theorem dC_init_48 : decode prog_1_method_1_code 48 = .ok (.sipush 4102, 3) := by decide +kernel
theorem dC_init_51 : decode prog_1_method_1_code 51 = .ok (.invokespecial 11, 3) := by decide +kernel
theorem dC_init_54 : decode prog_1_method_1_code 54 = .ok (.putfield 24, 3) := by decide +kernel
theorem dC_init_57 : decode prog_1_method_1_code 57 = .ok (.aload_n 0, 1) := by decide +kernel
theorem dC_init_58 : decode prog_1_method_1_code 58 = .ok (.new 27, 3) := by decide +kernel
theorem dC_init_61 : decode prog_1_method_1_code 61 = .ok (.dup, 1) := by decide +kernel
theorem dC_init_62 : decode prog_1_method_1_code 62 = .ok (.invokespecial 29, 3) := by decide +kernel
theorem dC_init_65 : decode prog_1_method_1_code 65 = .ok (.putfield 30, 3) := by decide +kernel
theorem dC_init_68 : decode prog_1_method_1_code 68 = .ok (.aload_n 0, 1) := by decide +kernel
theorem dC_init_69 : decode prog_1_method_1_code 69 = .ok (.new 34, 3) := by decide +kernel
theorem dC_init_72 : decode prog_1_method_1_code 72 = .ok (.dup, 1) := by decide +kernel
theorem dC_init_73 : decode prog_1_method_1_code 73 = .ok (.invokespecial 36, 3) := by decide +kernel
theorem dC_init_76 : decode prog_1_method_1_code 76 = .ok (.putfield 37, 3) := by decide +kernel
theorem dC_init_79 : decode prog_1_method_1_code 79 = .ok (.aload_n 0, 1) := by decide +kernel
theorem dC_init_80 : decode prog_1_method_1_code 80 = .ok (.new 41, 3) := by decide +kernel
theorem dC_init_83 : decode prog_1_method_1_code 83 = .ok (.dup, 1) := by decide +kernel
theorem dC_init_84 : decode prog_1_method_1_code 84 = .ok (.aload_n 0, 1) := by decide +kernel
theorem dC_init_85 : decode prog_1_method_1_code 85 = .ok (.getfield 14, 3) := by decide +kernel
theorem dC_init_88 : decode prog_1_method_1_code 88 = .ok (.aload_n 0, 1) := by decide +kernel
theorem dC_init_89 : decode prog_1_method_1_code 89 = .ok (.getfield 18, 3) := by decide +kernel
theorem dC_init_92 : decode prog_1_method_1_code 92 = .ok (.aload_n 0, 1) := by decide +kernel
theorem dC_init_93 : decode prog_1_method_1_code 93 = .ok (.getfield 30, 3) := by decide +kernel
theorem dC_init_96 : decode prog_1_method_1_code 96 = .ok (.invokespecial 43, 3) := by decide +kernel
theorem dC_init_99 : decode prog_1_method_1_code 99 = .ok (.putfield 46, 3) := by decide +kernel
theorem dC_init_102 : decode prog_1_method_1_code 102 = .ok (.return_, 1) := by decide +kernel
theorem dC_clear_0 : decode prog_1_method_2_code 0 = .ok (.aload_n 0, 1) := by decide +kernel
theorem dC_clear_1 : decode prog_1_method_2_code 1 = .ok (.getfield 14, 3) := by decide +kernel
theorem dC_clear_4 : decode prog_1_method_2_code 4 = .ok (.invokevirtual 50, 3) := by decide +kernel
theorem dC_clear_7 : decode prog_1_method_2_code 7 = .ok (.aload_n 0, 1) := by decide +kernel
theorem dC_clear_8 : decode prog_1_method_2_code 8 = .ok (.getfield 18, 3) := by decide +kernel
theorem dC_clear_11 : decode prog_1_method_2_code 11 = .ok (.invokevirtual 50, 3) := by decide +kernel
theorem dC_clear_14 : decode prog_1_method_2_code 14 = .ok (.iadd, 1) := by decide +kernel
theorem dC_clear_15 : decode prog_1_method_2_code 15 = .ok (.istore_n 1, 1) := by decide +kernel
theorem dC_clear_16 : decode prog_1_method_2_code 16 = .ok (.aload_n 0, 1) := by decide +kernel
theorem dC_clear_17 : decode prog_1_method_2_code 17 = .ok (.getfield 14, 3) := by decide +kernel
theorem dC_clear_20 : decode prog_1_method_2_code 20 = .ok (.invokevirtual 54, 3) := by decide +kernel
theorem dC_clear_23 : decode prog_1_method_2_code 23 = .ok (.aload_n 0, 1) := by decide +kernel
theorem dC_clear_24 : decode prog_1_method_2_code 24 = .ok (.getfield 18, 3) := by decide +kernel
theorem dC_clear_27 : decode prog_1_method_2_code 27 = .ok (.invokevirtual 54, 3) := by decide +kernel
theorem dC_clear_30 : decode prog_1_method_2_code 30 = .ok (.aload_n 0, 1) := by decide +kernel
theorem dC_clear_31 : decode prog_1_method_2_code 31 = .ok (.getfield 21, 3) := by decide +kernel
theorem dC_clear_34 : decode prog_1_method_2_code 34 = .ok (.invokevirtual 54, 3) := by decide +kernel
theorem dC_clear_37 : decode prog_1_method_2_code 37 = .ok (.aload_n 0, 1) := by decide +kernel
theorem dC_clear_38 : decode prog_1_method_2_code 38 = .ok (.getfield 24, 3) := by decide +kernel
theorem dC_clear_41 : decode prog_1_method_2_code 41 = .ok (.invokevirtual 54, 3) := by decide +kernel
theorem dC_clear_44 : decode prog_1_method_2_code 44 = .ok (.aload_n 0, 1) := by decide +kernel
theorem dC_clear_45 : decode prog_1_method_2_code 45 = .ok (.getfield 30, 3) := by decide +kernel
theorem dC_clear_48 : decode prog_1_method_2_code 48 = .ok (.invokevirtual 57, 3) := by decide +kernel
theorem dC_clear_51 : decode prog_1_method_2_code 51 = .ok (.aload_n 0, 1) := by decide +kernel
theorem dC_clear_52 : decode prog_1_method_2_code 52 = .ok (.getfield 37, 3) := by decide +kernel
theorem dC_clear_55 : decode prog_1_method_2_code 55 = .ok (.iconst 1, 1) := by decide +kernel
theorem dC_clear_56 : decode prog_1_method_2_code 56 = .ok (.invokevirtual 60, 3) := by decide +kernel
theorem dC_clear_59 : decode prog_1_method_2_code 59 = .ok (.aload_n 0, 1) := by decide +kernel
theorem dC_clear_60 : decode prog_1_method_2_code 60 = .ok (.getfield 46, 3) := by decide +kernel
theorem dC_clear_63 : decode prog_1_method_2_code 63 = .ok (.invokevirtual 63, 3) := by decide +kernel
theorem dC_clear_66 : decode prog_1_method_2_code 66 = .ok (.iload_n 1, 1) := by decide +kernel
theorem dC_clear_67 : decode prog_1_method_2_code 67 = .ok (.ireturn, 1) := by decide +kernel
theorem dC_put_0 : decode prog_1_method_3_code 0 = .ok (.iload_n 1, 1) := by decide +kernel
theorem dC_put_1 : decode prog_1_method_3_code 1 = .ok (.invokestatic 66, 3) := by decide +kernel
theorem dC_put_4 : decode prog_1_method_3_code 4 = .ok (.ifCond .eq 10, 3) := by decide +kernel
theorem dC_put_7 : decode prog_1_method_3_code 7 = .ok (.iload_n 2, 1) := by decide +kernel
theorem dC_put_8 : decode prog_1_method_3_code 8 = .ok (.invokestatic 70, 3) := by decide +kernel
theorem dC_put_11 : decode prog_1_method_3_code 11 = .ok (.ifCond .ne 6, 3) := by decide +kernel
theorem dC_put_14 : decode prog_1_method_3_code 14 = .ok (.bipush (-2), 2) := by decide +kernel
theorem dC_put_16 : decode prog_1_method_3_code 16 = .ok (.ireturn, 1) := by decide +kernel
theorem dC_put_17 : decode prog_1_method_3_code 17 = .ok (.aload_n 0, 1) := by decide +kernel
theorem dC_put_18 : decode prog_1_method_3_code 18 = .ok (.iload_n 1, 1) := by decide +kernel
theorem dC_put_19 : decode prog_1_method_3_code 19 = .ok (.invokevirtual 73, 3) := by decide +kernel
theorem dC_put_22 : decode prog_1_method_3_code 22 = .ok (.astore_n 3, 1) := by decide +kernel
theorem dC_put_23 : decode prog_1_method_3_code 23 = .ok (.aload_n 3, 1) := by decide +kernel
theorem dC_put_24 : decode prog_1_method_3_code 24 = .ok (.invokevirtual 77, 3) := by decide +kernel
theorem dC_put_27 : decode prog_1_method_3_code 27 = .ok (.ifCond .eq 6, 3) := by decide +kernel
theorem dC_put_30 : decode prog_1_method_3_code 30 = .ok (.bipush (-3), 2) := by decide +kernel
theorem dC_put_32 : decode prog_1_method_3_code 32 = .ok (.ireturn, 1) := by decide +kernel
theorem dC_put_33 : decode prog_1_method_3_code 33 = .ok (.aload_n 3, 1) := by decide +kernel
theorem dC_put_34 : decode prog_1_method_3_code 34 = .ok (.iload_n 2, 1) := by decide +kernel
theorem dC_put_35 : decode prog_1_method_3_code 35 = .ok (.invokevirtual 81, 3) := by decide +kernel
theorem dC_put_38 : decode prog_1_method_3_code 38 = .ok (.aload_n 0, 1) := by decide +kernel
theorem dC_put_39 : decode prog_1_method_3_code 39 = .ok (.getfield 46, 3) := by decide +kernel
theorem dC_put_42 : decode prog_1_method_3_code 42 = .ok (.invokevirtual 63, 3) := by decide +kernel
theorem dC_put_45 : decode prog_1_method_3_code 45 = .ok (.aload_n 3, 1) := by decide +kernel
theorem dC_put_46 : decode prog_1_method_3_code 46 = .ok (.invokevirtual 50, 3) := by decide +kernel
theorem dC_put_49 : decode prog_1_method_3_code 49 = .ok (.ireturn, 1) := by decide +kernel
theorem dC_isText_0 : decode prog_1_method_27_code 0 = .ok (.iload_n 0, 1) := by decide +kernel
theorem dC_isText_1 : decode prog_1_method_27_code 1 = .ok (.ifCond .eq 8, 3) := by decide +kernel
theorem dC_isText_4 : decode prog_1_method_27_code 4 = .ok (.iload_n 0, 1) := by decide +kernel
theorem dC_isText_5 : decode prog_1_method_27_code 5 = .ok (.iconst 1, 1) := by decide +kernel
theorem dC_isText_6 : decode prog_1_method_27_code 6 = .ok (.if_icmp .ne 7, 3) := by decide +kernel
theorem dC_isText_9 : decode prog_1_method_27_code 9 = .ok (.iconst 1, 1) := by decide +kernel
theorem dC_isText_10 : decode prog_1_method_27_code 10 = .ok (.goto 4, 3) := by decide +kernel
theorem dC_isText_13 : decode prog_1_method_27_code 13 = .ok (.iconst 0, 1) := by decide +kernel
theorem dC_isText_14 : decode prog_1_method_27_code 14 = .ok (.ireturn, 1) := by decide +kernel
theorem dC_isByte_0 : decode prog_1_method_28_code 0 = .ok (.iload_n 0, 1) := by decide +kernel
theorem dC_isByte_1 : decode prog_1_method_28_code 1 = .ok (.ifCond .lt 14, 3) := by decide +kernel
theorem dC_isByte_4 : decode prog_1_method_28_code 4 = .ok (.iload_n 0, 1) := by decide +kernel
theorem dC_isByte_5 : decode prog_1_method_28_code 5 = .ok (.sipush 255, 3) := by decide +kernel
theorem dC_isByte_8 : decode prog_1_method_28_code 8 = .ok (.if_icmp .gt 7, 3) := by decide +kernel
theorem dC_isByte_11 : decode prog_1_method_28_code 11 = .ok (.iconst 1, 1) := by decide +kernel
theorem dC_isByte_12 : decode prog_1_method_28_code 12 = .ok (.goto 4, 3) := by decide +kernel
theorem dC_isByte_15 : decode prog_1_method_28_code 15 = .ok (.iconst 0, 1) := by decide +kernel
theorem dC_isByte_16 : decode prog_1_method_28_code 16 = .ok (.ireturn, 1) := by decide +kernel
theorem dC_textOf_0 : decode prog_1_method_30_code 0 = .ok (.iload_n 1, 1) := by decide +kernel
theorem dC_textOf_1 : decode prog_1_method_30_code 1 = .ok (.ifCond .ne 10, 3) := by decide +kernel
theorem dC_textOf_4 : decode prog_1_method_30_code 4 = .ok (.aload_n 0, 1) := by decide +kernel
theorem dC_textOf_5 : decode prog_1_method_30_code 5 = .ok (.getfield 14, 3) := by decide +kernel
theorem dC_textOf_8 : decode prog_1_method_30_code 8 = .ok (.goto 7, 3) := by decide +kernel
theorem dC_textOf_11 : decode prog_1_method_30_code 11 = .ok (.aload_n 0, 1) := by decide +kernel
theorem dC_textOf_12 : decode prog_1_method_30_code 12 = .ok (.getfield 18, 3) := by decide +kernel
theorem dC_textOf_15 : decode prog_1_method_30_code 15 = .ok (.areturn, 1) := by decide +kernel
theorem dC_cut_0 : decode prog_1_method_4_code 0 = .ok (.iload_n 1, 1) := by decide +kernel
theorem dC_cut_1 : decode prog_1_method_4_code 1 = .ok (.invokestatic 66, 3) := by decide +kernel
theorem dC_cut_4 : decode prog_1_method_4_code 4 = .ok (.ifCond .ne 6, 3) := by decide +kernel
theorem dC_cut_7 : decode prog_1_method_4_code 7 = .ok (.bipush (-2), 2) := by decide +kernel
theorem dC_cut_9 : decode prog_1_method_4_code 9 = .ok (.ireturn, 1) := by decide +kernel
theorem dC_cut_10 : decode prog_1_method_4_code 10 = .ok (.aload_n 0, 1) := by decide +kernel
theorem dC_cut_11 : decode prog_1_method_4_code 11 = .ok (.iload_n 1, 1) := by decide +kernel
theorem dC_cut_12 : decode prog_1_method_4_code 12 = .ok (.invokevirtual 73, 3) := by decide +kernel
theorem dC_cut_15 : decode prog_1_method_4_code 15 = .ok (.astore_n 3, 1) := by decide +kernel
theorem dC_cut_16 : decode prog_1_method_4_code 16 = .ok (.iload_n 2, 1) := by decide +kernel
theorem dC_cut_17 : decode prog_1_method_4_code 17 = .ok (.ifCond .lt 11, 3) := by decide +kernel
theorem dC_cut_20 : decode prog_1_method_4_code 20 = .ok (.iload_n 2, 1) := by decide +kernel
theorem dC_cut_21 : decode prog_1_method_4_code 21 = .ok (.aload_n 3, 1) := by decide +kernel
theorem dC_cut_22 : decode prog_1_method_4_code 22 = .ok (.invokevirtual 50, 3) := by decide +kernel
theorem dC_cut_25 : decode prog_1_method_4_code 25 = .ok (.if_icmp .le 6, 3) := by decide +kernel
theorem dC_cut_28 : decode prog_1_method_4_code 28 = .ok (.bipush (-2), 2) := by decide +kernel
theorem dC_cut_30 : decode prog_1_method_4_code 30 = .ok (.ireturn, 1) := by decide +kernel
theorem dC_cut_31 : decode prog_1_method_4_code 31 = .ok (.aload_n 3, 1) := by decide +kernel
theorem dC_cut_32 : decode prog_1_method_4_code 32 = .ok (.iload_n 2, 1) := by decide +kernel
theorem dC_cut_33 : decode prog_1_method_4_code 33 = .ok (.invokevirtual 84, 3) := by decide +kernel
theorem dC_cut_36 : decode prog_1_method_4_code 36 = .ok (.aload_n 0, 1) := by decide +kernel
theorem dC_cut_37 : decode prog_1_method_4_code 37 = .ok (.getfield 46, 3) := by decide +kernel
theorem dC_cut_40 : decode prog_1_method_4_code 40 = .ok (.invokevirtual 63, 3) := by decide +kernel
theorem dC_cut_43 : decode prog_1_method_4_code 43 = .ok (.aload_n 3, 1) := by decide +kernel
theorem dC_cut_44 : decode prog_1_method_4_code 44 = .ok (.invokevirtual 50, 3) := by decide +kernel
theorem dC_cut_47 : decode prog_1_method_4_code 47 = .ok (.ireturn, 1) := by decide +kernel
theorem dC_turn_0 : decode prog_1_method_5_code 0 = .ok (.aload_n 0, 1) := by decide +kernel
theorem dC_turn_1 : decode prog_1_method_5_code 1 = .ok (.getfield 14, 3) := by decide +kernel
theorem dC_turn_4 : decode prog_1_method_5_code 4 = .ok (.aload_n 0, 1) := by decide +kernel
theorem dC_turn_5 : decode prog_1_method_5_code 5 = .ok (.getfield 18, 3) := by decide +kernel
theorem dC_turn_8 : decode prog_1_method_5_code 8 = .ok (.invokevirtual 87, 3) := by decide +kernel
theorem dC_turn_11 : decode prog_1_method_5_code 11 = .ok (.aload_n 0, 1) := by decide +kernel
theorem dC_turn_12 : decode prog_1_method_5_code 12 = .ok (.getfield 46, 3) := by decide +kernel
theorem dC_turn_15 : decode prog_1_method_5_code 15 = .ok (.invokevirtual 63, 3) := by decide +kernel
theorem dC_turn_18 : decode prog_1_method_5_code 18 = .ok (.aload_n 0, 1) := by decide +kernel
theorem dC_turn_19 : decode prog_1_method_5_code 19 = .ok (.getfield 14, 3) := by decide +kernel
theorem dC_turn_22 : decode prog_1_method_5_code 22 = .ok (.invokevirtual 50, 3) := by decide +kernel
theorem dC_turn_25 : decode prog_1_method_5_code 25 = .ok (.ireturn, 1) := by decide +kernel
theorem dC_costs_0 : decode prog_1_method_6_code 0 = .ok (.iload_n 1, 1) := by decide +kernel
theorem dC_costs_1 : decode prog_1_method_6_code 1 = .ok (.invokestatic 91, 3) := by decide +kernel
theorem dC_costs_4 : decode prog_1_method_6_code 4 = .ok (.ifCond .eq 33, 3) := by decide +kernel
theorem dC_costs_7 : decode prog_1_method_6_code 7 = .ok (.iload_n 2, 1) := by decide +kernel
theorem dC_costs_8 : decode prog_1_method_6_code 8 = .ok (.invokestatic 91, 3) := by decide +kernel
theorem dC_costs_11 : decode prog_1_method_6_code 11 = .ok (.ifCond .eq 26, 3) := by decide +kernel
theorem dC_costs_14 : decode prog_1_method_6_code 14 = .ok (.iload_n 3, 1) := by decide +kernel
theorem dC_costs_15 : decode prog_1_method_6_code 15 = .ok (.invokestatic 91, 3) := by decide +kernel
theorem dC_costs_18 : decode prog_1_method_6_code 18 = .ok (.ifCond .eq 19, 3) := by decide +kernel
theorem dC_costs_21 : decode prog_1_method_6_code 21 = .ok (.iload 4, 2) := by decide +kernel
theorem dC_costs_23 : decode prog_1_method_6_code 23 = .ok (.invokestatic 91, 3) := by decide +kernel
theorem dC_costs_26 : decode prog_1_method_6_code 26 = .ok (.ifCond .eq 11, 3) := by decide +kernel
theorem dC_costs_29 : decode prog_1_method_6_code 29 = .ok (.iload 5, 2) := by decide +kernel
theorem dC_costs_31 : decode prog_1_method_6_code 31 = .ok (.invokestatic 91, 3) := by decide +kernel
theorem dC_costs_34 : decode prog_1_method_6_code 34 = .ok (.ifCond .ne 6, 3) := by decide +kernel
theorem dC_costs_37 : decode prog_1_method_6_code 37 = .ok (.bipush (-2), 2) := by decide +kernel
theorem dC_costs_39 : decode prog_1_method_6_code 39 = .ok (.ireturn, 1) := by decide +kernel
theorem dC_costs_40 : decode prog_1_method_6_code 40 = .ok (.aload_n 0, 1) := by decide +kernel
theorem dC_costs_41 : decode prog_1_method_6_code 41 = .ok (.getfield 30, 3) := by decide +kernel
theorem dC_costs_44 : decode prog_1_method_6_code 44 = .ok (.iload_n 1, 1) := by decide +kernel
theorem dC_costs_45 : decode prog_1_method_6_code 45 = .ok (.iload_n 2, 1) := by decide +kernel
theorem dC_costs_46 : decode prog_1_method_6_code 46 = .ok (.iload_n 3, 1) := by decide +kernel
theorem dC_costs_47 : decode prog_1_method_6_code 47 = .ok (.iload 4, 2) := by decide +kernel
theorem dC_costs_49 : decode prog_1_method_6_code 49 = .ok (.iload 5, 2) := by decide +kernel
theorem dC_costs_51 : decode prog_1_method_6_code 51 = .ok (.invokevirtual 94, 3) := by decide +kernel
theorem dC_costs_54 : decode prog_1_method_6_code 54 = .ok (.istore 6, 2) := by decide +kernel
theorem dC_costs_56 : decode prog_1_method_6_code 56 = .ok (.aload_n 0, 1) := by decide +kernel
theorem dC_costs_57 : decode prog_1_method_6_code 57 = .ok (.getfield 30, 3) := by decide +kernel
theorem dC_costs_60 : decode prog_1_method_6_code 60 = .ok (.iload_n 1, 1) := by decide +kernel
theorem dC_costs_61 : decode prog_1_method_6_code 61 = .ok (.iload_n 2, 1) := by decide +kernel
theorem dC_costs_62 : decode prog_1_method_6_code 62 = .ok (.iload_n 3, 1) := by decide +kernel
theorem dC_costs_63 : decode prog_1_method_6_code 63 = .ok (.iload 4, 2) := by decide +kernel
theorem dC_costs_65 : decode prog_1_method_6_code 65 = .ok (.iload 5, 2) := by decide +kernel
theorem dC_costs_67 : decode prog_1_method_6_code 67 = .ok (.invokevirtual 98, 3) := by decide +kernel
theorem dC_costs_70 : decode prog_1_method_6_code 70 = .ok (.aload_n 0, 1) := by decide +kernel
theorem dC_costs_71 : decode prog_1_method_6_code 71 = .ok (.getfield 46, 3) := by decide +kernel
theorem dC_costs_74 : decode prog_1_method_6_code 74 = .ok (.invokevirtual 63, 3) := by decide +kernel
theorem dC_costs_77 : decode prog_1_method_6_code 77 = .ok (.iload 6, 2) := by decide +kernel
theorem dC_costs_79 : decode prog_1_method_6_code 79 = .ok (.ireturn, 1) := by decide +kernel
theorem dC_isNumber_0 : decode prog_1_method_29_code 0 = .ok (.iload_n 0, 1) := by decide +kernel
theorem dC_isNumber_1 : decode prog_1_method_29_code 1 = .ok (.ifCond .lt 13, 3) := by decide +kernel
theorem dC_isNumber_4 : decode prog_1_method_29_code 4 = .ok (.iload_n 0, 1) := by decide +kernel
theorem dC_isNumber_5 : decode prog_1_method_29_code 5 = .ok (.bipush 100, 2) := by decide +kernel
theorem dC_isNumber_7 : decode prog_1_method_29_code 7 = .ok (.if_icmp .gt 7, 3) := by decide +kernel
theorem dC_isNumber_10 : decode prog_1_method_29_code 10 = .ok (.iconst 1, 1) := by decide +kernel
theorem dC_isNumber_11 : decode prog_1_method_29_code 11 = .ok (.goto 4, 3) := by decide +kernel
theorem dC_isNumber_14 : decode prog_1_method_29_code 14 = .ok (.iconst 0, 1) := by decide +kernel
theorem dC_isNumber_15 : decode prog_1_method_29_code 15 = .ok (.ireturn, 1) := by decide +kernel
theorem dC_plan_0 : decode prog_1_method_7_code 0 = .ok (.aload_n 0, 1) := by decide +kernel
theorem dC_plan_1 : decode prog_1_method_7_code 1 = .ok (.getfield 37, 3) := by decide +kernel
theorem dC_plan_4 : decode prog_1_method_7_code 4 = .ok (.aload_n 0, 1) := by decide +kernel
theorem dC_plan_5 : decode prog_1_method_7_code 5 = .ok (.getfield 14, 3) := by decide +kernel
theorem dC_plan_8 : decode prog_1_method_7_code 8 = .ok (.invokevirtual 102, 3) := by decide +kernel
theorem dC_plan_11 : decode prog_1_method_7_code 11 = .ok (.invokevirtual 60, 3) := by decide +kernel
theorem dC_plan_14 : decode prog_1_method_7_code 14 = .ok (.aload_n 0, 1) := by decide +kernel
theorem dC_plan_15 : decode prog_1_method_7_code 15 = .ok (.getfield 46, 3) := by decide +kernel
theorem dC_plan_18 : decode prog_1_method_7_code 18 = .ok (.invokevirtual 105, 3) := by decide +kernel
theorem dC_plan_21 : decode prog_1_method_7_code 21 = .ok (.iconst 0, 1) := by decide +kernel
theorem dC_plan_22 : decode prog_1_method_7_code 22 = .ok (.istore_n 1, 1) := by decide +kernel
theorem dC_plan_23 : decode prog_1_method_7_code 23 = .ok (.iload_n 1, 1) := by decide +kernel
theorem dC_plan_24 : decode prog_1_method_7_code 24 = .ok (.bipush 40, 2) := by decide +kernel
theorem dC_plan_26 : decode prog_1_method_7_code 26 = .ok (.if_icmp .ge 23, 3) := by decide +kernel
theorem dC_plan_29 : decode prog_1_method_7_code 29 = .ok (.aload_n 0, 1) := by decide +kernel
theorem dC_plan_30 : decode prog_1_method_7_code 30 = .ok (.getfield 46, 3) := by decide +kernel
theorem dC_plan_33 : decode prog_1_method_7_code 33 = .ok (.invokevirtual 107, 3) := by decide +kernel
theorem dC_plan_36 : decode prog_1_method_7_code 36 = .ok (.ifCond .eq 13, 3) := by decide +kernel
theorem dC_plan_39 : decode prog_1_method_7_code 39 = .ok (.aload_n 0, 1) := by decide +kernel
theorem dC_plan_40 : decode prog_1_method_7_code 40 = .ok (.invokevirtual 110, 3) := by decide +kernel
theorem dC_plan_43 : decode prog_1_method_7_code 43 = .ok (.iinc 1 1, 3) := by decide +kernel
theorem dC_plan_46 : decode prog_1_method_7_code 46 = .ok (.goto (-23), 3) := by decide +kernel
theorem dC_plan_49 : decode prog_1_method_7_code 49 = .ok (.aload_n 0, 1) := by decide +kernel
theorem dC_plan_50 : decode prog_1_method_7_code 50 = .ok (.getfield 37, 3) := by decide +kernel
theorem dC_plan_53 : decode prog_1_method_7_code 53 = .ok (.invokevirtual 113, 3) := by decide +kernel
theorem dC_plan_56 : decode prog_1_method_7_code 56 = .ok (.ireturn, 1) := by decide +kernel
theorem dC_takeFoundAct_0 : decode prog_1_method_32_code 0 = .ok (.aload_n 0, 1) := by decide +kernel
theorem dC_takeFoundAct_1 : decode prog_1_method_32_code 1 = .ok (.getfield 46, 3) := by decide +kernel
theorem dC_takeFoundAct_4 : decode prog_1_method_32_code 4 = .ok (.invokevirtual 203, 3) := by decide +kernel
theorem dC_takeFoundAct_7 : decode prog_1_method_32_code 7 = .ok (.iconst 2, 1) := by decide +kernel
theorem dC_takeFoundAct_8 : decode prog_1_method_32_code 8 = .ok (.if_icmp .eq 32, 3) := by decide +kernel
theorem dC_takeFoundAct_11 : decode prog_1_method_32_code 11 = .ok (.aload_n 0, 1) := by decide +kernel
theorem dC_takeFoundAct_12 : decode prog_1_method_32_code 12 = .ok (.getfield 37, 3) := by decide +kernel
theorem dC_takeFoundAct_15 : decode prog_1_method_32_code 15 = .ok (.aload_n 0, 1) := by decide +kernel
theorem dC_takeFoundAct_16 : decode prog_1_method_32_code 16 = .ok (.getfield 46, 3) := by decide +kernel
theorem dC_takeFoundAct_19 : decode prog_1_method_32_code 19 = .ok (.invokevirtual 203, 3) := by decide +kernel
theorem dC_takeFoundAct_22 : decode prog_1_method_32_code 22 = .ok (.aload_n 0, 1) := by decide +kernel
theorem dC_takeFoundAct_23 : decode prog_1_method_32_code 23 = .ok (.getfield 46, 3) := by decide +kernel
theorem dC_takeFoundAct_26 : decode prog_1_method_32_code 26 = .ok (.invokevirtual 206, 3) := by decide +kernel
theorem dC_takeFoundAct_29 : decode prog_1_method_32_code 29 = .ok (.aload_n 0, 1) := by decide +kernel
theorem dC_takeFoundAct_30 : decode prog_1_method_32_code 30 = .ok (.getfield 46, 3) := by decide +kernel
theorem dC_takeFoundAct_33 : decode prog_1_method_32_code 33 = .ok (.invokevirtual 190, 3) := by decide +kernel
theorem dC_takeFoundAct_36 : decode prog_1_method_32_code 36 = .ok (.invokevirtual 149, 3) := by decide +kernel
theorem dC_takeFoundAct_39 : decode prog_1_method_32_code 39 = .ok (.return_, 1) := by decide +kernel
theorem dC_takeFoundAct_40 : decode prog_1_method_32_code 40 = .ok (.aload_n 0, 1) := by decide +kernel
theorem dC_takeFoundAct_41 : decode prog_1_method_32_code 41 = .ok (.getfield 37, 3) := by decide +kernel
theorem dC_takeFoundAct_44 : decode prog_1_method_32_code 44 = .ok (.invokevirtual 155, 3) := by decide +kernel
theorem dC_takeFoundAct_47 : decode prog_1_method_32_code 47 = .ok (.iconst 0, 1) := by decide +kernel
theorem dC_takeFoundAct_48 : decode prog_1_method_32_code 48 = .ok (.istore_n 1, 1) := by decide +kernel
theorem dC_takeFoundAct_49 : decode prog_1_method_32_code 49 = .ok (.iload_n 1, 1) := by decide +kernel
theorem dC_takeFoundAct_50 : decode prog_1_method_32_code 50 = .ok (.aload_n 0, 1) := by decide +kernel
theorem dC_takeFoundAct_51 : decode prog_1_method_32_code 51 = .ok (.getfield 46, 3) := by decide +kernel
theorem dC_takeFoundAct_54 : decode prog_1_method_32_code 54 = .ok (.invokevirtual 190, 3) := by decide +kernel
theorem dC_takeFoundAct_57 : decode prog_1_method_32_code 57 = .ok (.if_icmp .ge 32, 3) := by decide +kernel
theorem dC_takeFoundAct_60 : decode prog_1_method_32_code 60 = .ok (.aload_n 0, 1) := by decide +kernel
theorem dC_takeFoundAct_61 : decode prog_1_method_32_code 61 = .ok (.getfield 37, 3) := by decide +kernel
theorem dC_takeFoundAct_64 : decode prog_1_method_32_code 64 = .ok (.aload_n 0, 1) := by decide +kernel
theorem dC_takeFoundAct_65 : decode prog_1_method_32_code 65 = .ok (.getfield 18, 3) := by decide +kernel
theorem dC_takeFoundAct_68 : decode prog_1_method_32_code 68 = .ok (.aload_n 0, 1) := by decide +kernel
theorem dC_takeFoundAct_69 : decode prog_1_method_32_code 69 = .ok (.getfield 46, 3) := by decide +kernel
theorem dC_takeFoundAct_72 : decode prog_1_method_32_code 72 = .ok (.invokevirtual 209, 3) := by decide +kernel
theorem dC_takeFoundAct_75 : decode prog_1_method_32_code 75 = .ok (.iload_n 1, 1) := by decide +kernel
theorem dC_takeFoundAct_76 : decode prog_1_method_32_code 76 = .ok (.iadd, 1) := by decide +kernel
theorem dC_takeFoundAct_77 : decode prog_1_method_32_code 77 = .ok (.invokevirtual 168, 3) := by decide +kernel
theorem dC_takeFoundAct_80 : decode prog_1_method_32_code 80 = .ok (.invokevirtual 158, 3) := by decide +kernel
theorem dC_takeFoundAct_83 : decode prog_1_method_32_code 83 = .ok (.iinc 1 1, 3) := by decide +kernel
theorem dC_takeFoundAct_86 : decode prog_1_method_32_code 86 = .ok (.goto (-37), 3) := by decide +kernel
theorem dC_takeFoundAct_89 : decode prog_1_method_32_code 89 = .ok (.return_, 1) := by decide +kernel
theorem dC_cost_0 : decode prog_1_method_8_code 0 = .ok (.iconst 0, 1) := by decide +kernel
theorem dC_cost_1 : decode prog_1_method_8_code 1 = .ok (.istore_n 1, 1) := by decide +kernel
theorem dC_cost_2 : decode prog_1_method_8_code 2 = .ok (.iconst 0, 1) := by decide +kernel
theorem dC_cost_3 : decode prog_1_method_8_code 3 = .ok (.istore_n 2, 1) := by decide +kernel
theorem dC_cost_4 : decode prog_1_method_8_code 4 = .ok (.iload_n 2, 1) := by decide +kernel
theorem dC_cost_5 : decode prog_1_method_8_code 5 = .ok (.aload_n 0, 1) := by decide +kernel
theorem dC_cost_6 : decode prog_1_method_8_code 6 = .ok (.getfield 37, 3) := by decide +kernel
theorem dC_cost_9 : decode prog_1_method_8_code 9 = .ok (.invokevirtual 113, 3) := by decide +kernel
theorem dC_cost_12 : decode prog_1_method_8_code 12 = .ok (.if_icmp .ge 17, 3) := by decide +kernel
theorem dC_cost_15 : decode prog_1_method_8_code 15 = .ok (.iload_n 1, 1) := by decide +kernel
theorem dC_cost_16 : decode prog_1_method_8_code 16 = .ok (.aload_n 0, 1) := by decide +kernel
theorem dC_cost_17 : decode prog_1_method_8_code 17 = .ok (.iload_n 2, 1) := by decide +kernel
theorem dC_cost_18 : decode prog_1_method_8_code 18 = .ok (.invokevirtual 114, 3) := by decide +kernel
theorem dC_cost_21 : decode prog_1_method_8_code 21 = .ok (.iadd, 1) := by decide +kernel
theorem dC_cost_22 : decode prog_1_method_8_code 22 = .ok (.istore_n 1, 1) := by decide +kernel
theorem dC_cost_23 : decode prog_1_method_8_code 23 = .ok (.iinc 2 1, 3) := by decide +kernel
theorem dC_cost_26 : decode prog_1_method_8_code 26 = .ok (.goto (-22), 3) := by decide +kernel
theorem dC_cost_29 : decode prog_1_method_8_code 29 = .ok (.iload_n 1, 1) := by decide +kernel
theorem dC_cost_30 : decode prog_1_method_8_code 30 = .ok (.ireturn, 1) := by decide +kernel
theorem dC_costOf_0 : decode prog_1_method_31_code 0 = .ok (.aload_n 0, 1) := by decide +kernel
theorem dC_costOf_1 : decode prog_1_method_31_code 1 = .ok (.getfield 37, 3) := by decide +kernel
theorem dC_costOf_4 : decode prog_1_method_31_code 4 = .ok (.iload_n 1, 1) := by decide +kernel
theorem dC_costOf_5 : decode prog_1_method_31_code 5 = .ok (.invokevirtual 133, 3) := by decide +kernel
theorem dC_costOf_8 : decode prog_1_method_31_code 8 = .ok (.lookupswitch 60 #[(0, 28), (1, 52)], 28) := by decide +kernel
theorem dC_costOf_36 : decode prog_1_method_31_code 36 = .ok (.aload_n 0, 1) := by decide +kernel
theorem dC_costOf_37 : decode prog_1_method_31_code 37 = .ok (.getfield 30, 3) := by decide +kernel
theorem dC_costOf_40 : decode prog_1_method_31_code 40 = .ok (.aload_n 0, 1) := by decide +kernel
theorem dC_costOf_41 : decode prog_1_method_31_code 41 = .ok (.getfield 37, 3) := by decide +kernel
theorem dC_costOf_44 : decode prog_1_method_31_code 44 = .ok (.iload_n 1, 1) := by decide +kernel
theorem dC_costOf_45 : decode prog_1_method_31_code 45 = .ok (.invokevirtual 139, 3) := by decide +kernel
theorem dC_costOf_48 : decode prog_1_method_31_code 48 = .ok (.aload_n 0, 1) := by decide +kernel
theorem dC_costOf_49 : decode prog_1_method_31_code 49 = .ok (.getfield 37, 3) := by decide +kernel
theorem dC_costOf_52 : decode prog_1_method_31_code 52 = .ok (.iload_n 1, 1) := by decide +kernel
theorem dC_costOf_53 : decode prog_1_method_31_code 53 = .ok (.invokevirtual 142, 3) := by decide +kernel
theorem dC_costOf_56 : decode prog_1_method_31_code 56 = .ok (.invokevirtual 194, 3) := by decide +kernel
theorem dC_costOf_59 : decode prog_1_method_31_code 59 = .ok (.ireturn, 1) := by decide +kernel
theorem dC_costOf_60 : decode prog_1_method_31_code 60 = .ok (.aload_n 0, 1) := by decide +kernel
theorem dC_costOf_61 : decode prog_1_method_31_code 61 = .ok (.getfield 30, 3) := by decide +kernel
theorem dC_costOf_64 : decode prog_1_method_31_code 64 = .ok (.invokevirtual 197, 3) := by decide +kernel
theorem dC_costOf_67 : decode prog_1_method_31_code 67 = .ok (.ireturn, 1) := by decide +kernel
theorem dC_costOf_68 : decode prog_1_method_31_code 68 = .ok (.aload_n 0, 1) := by decide +kernel
theorem dC_costOf_69 : decode prog_1_method_31_code 69 = .ok (.getfield 30, 3) := by decide +kernel
theorem dC_costOf_72 : decode prog_1_method_31_code 72 = .ok (.aload_n 0, 1) := by decide +kernel
theorem dC_costOf_73 : decode prog_1_method_31_code 73 = .ok (.getfield 37, 3) := by decide +kernel
theorem dC_costOf_76 : decode prog_1_method_31_code 76 = .ok (.iload_n 1, 1) := by decide +kernel
theorem dC_costOf_77 : decode prog_1_method_31_code 77 = .ok (.invokevirtual 136, 3) := by decide +kernel
theorem dC_costOf_80 : decode prog_1_method_31_code 80 = .ok (.invokevirtual 200, 3) := by decide +kernel
theorem dC_costOf_83 : decode prog_1_method_31_code 83 = .ok (.ireturn, 1) := by decide +kernel
theorem dC_rest_0 : decode prog_1_method_9_code 0 = .ok (.iload_n 1, 1) := by decide +kernel
theorem dC_rest_1 : decode prog_1_method_9_code 1 = .ok (.ifCond .lt 29, 3) := by decide +kernel
theorem dC_rest_4 : decode prog_1_method_9_code 4 = .ok (.iload_n 1, 1) := by decide +kernel
theorem dC_rest_5 : decode prog_1_method_9_code 5 = .ok (.aload_n 0, 1) := by decide +kernel
theorem dC_rest_6 : decode prog_1_method_9_code 6 = .ok (.getfield 18, 3) := by decide +kernel
theorem dC_rest_9 : decode prog_1_method_9_code 9 = .ok (.invokevirtual 50, 3) := by decide +kernel
theorem dC_rest_12 : decode prog_1_method_9_code 12 = .ok (.if_icmp .gt 18, 3) := by decide +kernel
theorem dC_rest_15 : decode prog_1_method_9_code 15 = .ok (.iload_n 2, 1) := by decide +kernel
theorem dC_rest_16 : decode prog_1_method_9_code 16 = .ok (.ifCond .lt 14, 3) := by decide +kernel
theorem dC_rest_19 : decode prog_1_method_9_code 19 = .ok (.iload_n 2, 1) := by decide +kernel
theorem dC_rest_20 : decode prog_1_method_9_code 20 = .ok (.aload_n 0, 1) := by decide +kernel
theorem dC_rest_21 : decode prog_1_method_9_code 21 = .ok (.getfield 14, 3) := by decide +kernel
theorem dC_rest_24 : decode prog_1_method_9_code 24 = .ok (.invokevirtual 50, 3) := by decide +kernel
theorem dC_rest_27 : decode prog_1_method_9_code 27 = .ok (.if_icmp .le 6, 3) := by decide +kernel
theorem dC_rest_30 : decode prog_1_method_9_code 30 = .ok (.bipush (-2), 2) := by decide +kernel
theorem dC_rest_32 : decode prog_1_method_9_code 32 = .ok (.ireturn, 1) := by decide +kernel
theorem dC_rest_33 : decode prog_1_method_9_code 33 = .ok (.aload_n 0, 1) := by decide +kernel
theorem dC_rest_34 : decode prog_1_method_9_code 34 = .ok (.getfield 46, 3) := by decide +kernel
theorem dC_rest_37 : decode prog_1_method_9_code 37 = .ok (.invokevirtual 118, 3) := by decide +kernel
theorem dC_rest_40 : decode prog_1_method_9_code 40 = .ok (.aload_n 0, 1) := by decide +kernel
theorem dC_rest_41 : decode prog_1_method_9_code 41 = .ok (.getfield 46, 3) := by decide +kernel
theorem dC_rest_44 : decode prog_1_method_9_code 44 = .ok (.iload_n 1, 1) := by decide +kernel
theorem dC_rest_45 : decode prog_1_method_9_code 45 = .ok (.iload_n 2, 1) := by decide +kernel
theorem dC_rest_46 : decode prog_1_method_9_code 46 = .ok (.invokevirtual 121, 3) := by decide +kernel
theorem dC_rest_49 : decode prog_1_method_9_code 49 = .ok (.ireturn, 1) := by decide +kernel
theorem dC_match_0 : decode prog_1_method_10_code 0 = .ok (.iload_n 1, 1) := by decide +kernel
theorem dC_match_1 : decode prog_1_method_10_code 1 = .ok (.invokestatic 66, 3) := by decide +kernel
theorem dC_match_4 : decode prog_1_method_10_code 4 = .ok (.ifCond .eq 26, 3) := by decide +kernel
theorem dC_match_7 : decode prog_1_method_10_code 7 = .ok (.aload_n 0, 1) := by decide +kernel
theorem dC_match_8 : decode prog_1_method_10_code 8 = .ok (.iload_n 1, 1) := by decide +kernel
theorem dC_match_9 : decode prog_1_method_10_code 9 = .ok (.invokevirtual 73, 3) := by decide +kernel
theorem dC_match_12 : decode prog_1_method_10_code 12 = .ok (.iload_n 2, 1) := by decide +kernel
theorem dC_match_13 : decode prog_1_method_10_code 13 = .ok (.invokevirtual 125, 3) := by decide +kernel
theorem dC_match_16 : decode prog_1_method_10_code 16 = .ok (.ifCond .eq 14, 3) := by decide +kernel
theorem dC_match_19 : decode prog_1_method_10_code 19 = .ok (.aload_n 0, 1) := by decide +kernel
theorem dC_match_20 : decode prog_1_method_10_code 20 = .ok (.getfield 18, 3) := by decide +kernel
theorem dC_match_23 : decode prog_1_method_10_code 23 = .ok (.iload_n 3, 1) := by decide +kernel
theorem dC_match_24 : decode prog_1_method_10_code 24 = .ok (.invokevirtual 125, 3) := by decide +kernel
theorem dC_match_27 : decode prog_1_method_10_code 27 = .ok (.ifCond .ne 6, 3) := by decide +kernel
theorem dC_match_30 : decode prog_1_method_10_code 30 = .ok (.bipush (-2), 2) := by decide +kernel
theorem dC_match_32 : decode prog_1_method_10_code 32 = .ok (.ireturn, 1) := by decide +kernel
theorem dC_match_33 : decode prog_1_method_10_code 33 = .ok (.aload_n 0, 1) := by decide +kernel
theorem dC_match_34 : decode prog_1_method_10_code 34 = .ok (.iload_n 1, 1) := by decide +kernel
theorem dC_match_35 : decode prog_1_method_10_code 35 = .ok (.invokevirtual 73, 3) := by decide +kernel
theorem dC_match_38 : decode prog_1_method_10_code 38 = .ok (.iload_n 2, 1) := by decide +kernel
theorem dC_match_39 : decode prog_1_method_10_code 39 = .ok (.aload_n 0, 1) := by decide +kernel
theorem dC_match_40 : decode prog_1_method_10_code 40 = .ok (.getfield 18, 3) := by decide +kernel
theorem dC_match_43 : decode prog_1_method_10_code 43 = .ok (.iload_n 3, 1) := by decide +kernel
theorem dC_match_44 : decode prog_1_method_10_code 44 = .ok (.invokevirtual 128, 3) := by decide +kernel
theorem dC_match_47 : decode prog_1_method_10_code 47 = .ok (.ireturn, 1) := by decide +kernel
theorem dC_act_0 : decode prog_1_method_11_code 0 = .ok (.aload_n 0, 1) := by decide +kernel
theorem dC_act_1 : decode prog_1_method_11_code 1 = .ok (.getfield 37, 3) := by decide +kernel
theorem dC_act_4 : decode prog_1_method_11_code 4 = .ok (.iload_n 1, 1) := by decide +kernel
theorem dC_act_5 : decode prog_1_method_11_code 5 = .ok (.invokevirtual 132, 3) := by decide +kernel
theorem dC_act_8 : decode prog_1_method_11_code 8 = .ok (.ifCond .ne 6, 3) := by decide +kernel
theorem dC_act_11 : decode prog_1_method_11_code 11 = .ok (.bipush (-2), 2) := by decide +kernel
theorem dC_act_13 : decode prog_1_method_11_code 13 = .ok (.ireturn, 1) := by decide +kernel
theorem dC_act_14 : decode prog_1_method_11_code 14 = .ok (.iload_n 2, 1) := by decide +kernel
theorem dC_act_15 : decode prog_1_method_11_code 15 = .ok (.tableswitch 75 0 4 #[33, 42, 51, 60, 69], 33) := by decide +kernel
theorem dC_act_48 : decode prog_1_method_11_code 48 = .ok (.aload_n 0, 1) := by decide +kernel
theorem dC_act_49 : decode prog_1_method_11_code 49 = .ok (.getfield 37, 3) := by decide +kernel
theorem dC_act_52 : decode prog_1_method_11_code 52 = .ok (.iload_n 1, 1) := by decide +kernel
theorem dC_act_53 : decode prog_1_method_11_code 53 = .ok (.invokevirtual 133, 3) := by decide +kernel
theorem dC_act_56 : decode prog_1_method_11_code 56 = .ok (.ireturn, 1) := by decide +kernel
theorem dC_act_57 : decode prog_1_method_11_code 57 = .ok (.aload_n 0, 1) := by decide +kernel
theorem dC_act_58 : decode prog_1_method_11_code 58 = .ok (.getfield 37, 3) := by decide +kernel
theorem dC_act_61 : decode prog_1_method_11_code 61 = .ok (.iload_n 1, 1) := by decide +kernel
theorem dC_act_62 : decode prog_1_method_11_code 62 = .ok (.invokevirtual 136, 3) := by decide +kernel
theorem dC_act_65 : decode prog_1_method_11_code 65 = .ok (.ireturn, 1) := by decide +kernel
theorem dC_act_66 : decode prog_1_method_11_code 66 = .ok (.aload_n 0, 1) := by decide +kernel
theorem dC_act_67 : decode prog_1_method_11_code 67 = .ok (.getfield 37, 3) := by decide +kernel
theorem dC_act_70 : decode prog_1_method_11_code 70 = .ok (.iload_n 1, 1) := by decide +kernel
theorem dC_act_71 : decode prog_1_method_11_code 71 = .ok (.invokevirtual 139, 3) := by decide +kernel
theorem dC_act_74 : decode prog_1_method_11_code 74 = .ok (.ireturn, 1) := by decide +kernel
theorem dC_act_75 : decode prog_1_method_11_code 75 = .ok (.aload_n 0, 1) := by decide +kernel
theorem dC_act_76 : decode prog_1_method_11_code 76 = .ok (.getfield 37, 3) := by decide +kernel
theorem dC_act_79 : decode prog_1_method_11_code 79 = .ok (.iload_n 1, 1) := by decide +kernel
theorem dC_act_80 : decode prog_1_method_11_code 80 = .ok (.invokevirtual 142, 3) := by decide +kernel
theorem dC_act_83 : decode prog_1_method_11_code 83 = .ok (.ireturn, 1) := by decide +kernel
theorem dC_act_84 : decode prog_1_method_11_code 84 = .ok (.aload_n 0, 1) := by decide +kernel
theorem dC_act_85 : decode prog_1_method_11_code 85 = .ok (.iload_n 1, 1) := by decide +kernel
theorem dC_act_86 : decode prog_1_method_11_code 86 = .ok (.invokevirtual 114, 3) := by decide +kernel
theorem dC_act_89 : decode prog_1_method_11_code 89 = .ok (.ireturn, 1) := by decide +kernel
theorem dC_act_90 : decode prog_1_method_11_code 90 = .ok (.bipush (-2), 2) := by decide +kernel
theorem dC_act_92 : decode prog_1_method_11_code 92 = .ok (.ireturn, 1) := by decide +kernel
theorem dC_laid_0 : decode prog_1_method_12_code 0 = .ok (.aload_n 0, 1) := by decide +kernel
theorem dC_laid_1 : decode prog_1_method_12_code 1 = .ok (.getfield 37, 3) := by decide +kernel
theorem dC_laid_4 : decode prog_1_method_12_code 4 = .ok (.iload_n 1, 1) := by decide +kernel
theorem dC_laid_5 : decode prog_1_method_12_code 5 = .ok (.invokevirtual 132, 3) := by decide +kernel
theorem dC_laid_8 : decode prog_1_method_12_code 8 = .ok (.ifCond .eq 31, 3) := by decide +kernel
theorem dC_laid_11 : decode prog_1_method_12_code 11 = .ok (.aload_n 0, 1) := by decide +kernel
theorem dC_laid_12 : decode prog_1_method_12_code 12 = .ok (.getfield 37, 3) := by decide +kernel
theorem dC_laid_15 : decode prog_1_method_12_code 15 = .ok (.iload_n 1, 1) := by decide +kernel
theorem dC_laid_16 : decode prog_1_method_12_code 16 = .ok (.invokevirtual 133, 3) := by decide +kernel
theorem dC_laid_19 : decode prog_1_method_12_code 19 = .ok (.iconst 2, 1) := by decide +kernel
theorem dC_laid_20 : decode prog_1_method_12_code 20 = .ok (.if_icmp .ne 19, 3) := by decide +kernel
theorem dC_laid_23 : decode prog_1_method_12_code 23 = .ok (.iload_n 2, 1) := by decide +kernel
theorem dC_laid_24 : decode prog_1_method_12_code 24 = .ok (.ifCond .lt 15, 3) := by decide +kernel
theorem dC_laid_27 : decode prog_1_method_12_code 27 = .ok (.iload_n 2, 1) := by decide +kernel
theorem dC_laid_28 : decode prog_1_method_12_code 28 = .ok (.aload_n 0, 1) := by decide +kernel
theorem dC_laid_29 : decode prog_1_method_12_code 29 = .ok (.getfield 37, 3) := by decide +kernel
theorem dC_laid_32 : decode prog_1_method_12_code 32 = .ok (.iload_n 1, 1) := by decide +kernel
theorem dC_laid_33 : decode prog_1_method_12_code 33 = .ok (.invokevirtual 136, 3) := by decide +kernel
theorem dC_laid_36 : decode prog_1_method_12_code 36 = .ok (.if_icmp .lt 6, 3) := by decide +kernel
theorem dC_laid_39 : decode prog_1_method_12_code 39 = .ok (.bipush (-2), 2) := by decide +kernel
theorem dC_laid_41 : decode prog_1_method_12_code 41 = .ok (.ireturn, 1) := by decide +kernel
theorem dC_laid_42 : decode prog_1_method_12_code 42 = .ok (.aload_n 0, 1) := by decide +kernel
theorem dC_laid_43 : decode prog_1_method_12_code 43 = .ok (.getfield 37, 3) := by decide +kernel
theorem dC_laid_46 : decode prog_1_method_12_code 46 = .ok (.iload_n 1, 1) := by decide +kernel
theorem dC_laid_47 : decode prog_1_method_12_code 47 = .ok (.iload_n 2, 1) := by decide +kernel
theorem dC_laid_48 : decode prog_1_method_12_code 48 = .ok (.invokevirtual 145, 3) := by decide +kernel
theorem dC_laid_51 : decode prog_1_method_12_code 51 = .ok (.ireturn, 1) := by decide +kernel
theorem dC_empty_0 : decode prog_1_method_13_code 0 = .ok (.aload_n 0, 1) := by decide +kernel
theorem dC_empty_1 : decode prog_1_method_13_code 1 = .ok (.getfield 37, 3) := by decide +kernel
theorem dC_empty_4 : decode prog_1_method_13_code 4 = .ok (.invokevirtual 113, 3) := by decide +kernel
theorem dC_empty_7 : decode prog_1_method_13_code 7 = .ok (.istore_n 1, 1) := by decide +kernel
theorem dC_empty_8 : decode prog_1_method_13_code 8 = .ok (.aload_n 0, 1) := by decide +kernel
theorem dC_empty_9 : decode prog_1_method_13_code 9 = .ok (.getfield 37, 3) := by decide +kernel
theorem dC_empty_12 : decode prog_1_method_13_code 12 = .ok (.aload_n 0, 1) := by decide +kernel
theorem dC_empty_13 : decode prog_1_method_13_code 13 = .ok (.getfield 14, 3) := by decide +kernel
theorem dC_empty_16 : decode prog_1_method_13_code 16 = .ok (.invokevirtual 102, 3) := by decide +kernel
theorem dC_empty_19 : decode prog_1_method_13_code 19 = .ok (.invokevirtual 60, 3) := by decide +kernel
theorem dC_empty_22 : decode prog_1_method_13_code 22 = .ok (.iload_n 1, 1) := by decide +kernel
theorem dC_empty_23 : decode prog_1_method_13_code 23 = .ok (.ireturn, 1) := by decide +kernel
theorem dC_add_0 : decode prog_1_method_14_code 0 = .ok (.iload_n 1, 1) := by decide +kernel
theorem dC_add_1 : decode prog_1_method_14_code 1 = .ok (.ifCond .eq 11, 3) := by decide +kernel
theorem dC_add_4 : decode prog_1_method_14_code 4 = .ok (.iload_n 1, 1) := by decide +kernel
theorem dC_add_5 : decode prog_1_method_14_code 5 = .ok (.iconst 1, 1) := by decide +kernel
theorem dC_add_6 : decode prog_1_method_14_code 6 = .ok (.if_icmp .eq 6, 3) := by decide +kernel
theorem dC_add_9 : decode prog_1_method_14_code 9 = .ok (.bipush (-2), 2) := by decide +kernel
theorem dC_add_11 : decode prog_1_method_14_code 11 = .ok (.ireturn, 1) := by decide +kernel
theorem dC_add_12 : decode prog_1_method_14_code 12 = .ok (.iload_n 2, 1) := by decide +kernel
theorem dC_add_13 : decode prog_1_method_14_code 13 = .ok (.ifCond .lt 20, 3) := by decide +kernel
theorem dC_add_16 : decode prog_1_method_14_code 16 = .ok (.iload_n 2, 1) := by decide +kernel
theorem dC_add_17 : decode prog_1_method_14_code 17 = .ok (.bipush 79, 2) := by decide +kernel
theorem dC_add_19 : decode prog_1_method_14_code 19 = .ok (.if_icmp .gt 14, 3) := by decide +kernel
theorem dC_add_22 : decode prog_1_method_14_code 22 = .ok (.iload_n 3, 1) := by decide +kernel
theorem dC_add_23 : decode prog_1_method_14_code 23 = .ok (.iconst 1, 1) := by decide +kernel
theorem dC_add_24 : decode prog_1_method_14_code 24 = .ok (.if_icmp .lt 9, 3) := by decide +kernel
theorem dC_add_27 : decode prog_1_method_14_code 27 = .ok (.iload_n 3, 1) := by decide +kernel
theorem dC_add_28 : decode prog_1_method_14_code 28 = .ok (.bipush 40, 2) := by decide +kernel
theorem dC_add_30 : decode prog_1_method_14_code 30 = .ok (.if_icmp .le 6, 3) := by decide +kernel
theorem dC_add_33 : decode prog_1_method_14_code 33 = .ok (.bipush (-2), 2) := by decide +kernel
theorem dC_add_35 : decode prog_1_method_14_code 35 = .ok (.ireturn, 1) := by decide +kernel
theorem dC_add_36 : decode prog_1_method_14_code 36 = .ok (.aload_n 0, 1) := by decide +kernel
theorem dC_add_37 : decode prog_1_method_14_code 37 = .ok (.getfield 37, 3) := by decide +kernel
theorem dC_add_40 : decode prog_1_method_14_code 40 = .ok (.invokevirtual 148, 3) := by decide +kernel
theorem dC_add_43 : decode prog_1_method_14_code 43 = .ok (.ifCond .eq 6, 3) := by decide +kernel
theorem dC_add_46 : decode prog_1_method_14_code 46 = .ok (.bipush (-3), 2) := by decide +kernel
theorem dC_add_48 : decode prog_1_method_14_code 48 = .ok (.ireturn, 1) := by decide +kernel
theorem dC_add_49 : decode prog_1_method_14_code 49 = .ok (.aload_n 0, 1) := by decide +kernel
theorem dC_add_50 : decode prog_1_method_14_code 50 = .ok (.getfield 37, 3) := by decide +kernel
theorem dC_add_53 : decode prog_1_method_14_code 53 = .ok (.iload_n 1, 1) := by decide +kernel
theorem dC_add_54 : decode prog_1_method_14_code 54 = .ok (.iload_n 2, 1) := by decide +kernel
theorem dC_add_55 : decode prog_1_method_14_code 55 = .ok (.iload_n 3, 1) := by decide +kernel
theorem dC_add_56 : decode prog_1_method_14_code 56 = .ok (.invokevirtual 149, 3) := by decide +kernel
theorem dC_add_59 : decode prog_1_method_14_code 59 = .ok (.aload_n 0, 1) := by decide +kernel
theorem dC_add_60 : decode prog_1_method_14_code 60 = .ok (.getfield 37, 3) := by decide +kernel
theorem dC_add_63 : decode prog_1_method_14_code 63 = .ok (.invokevirtual 113, 3) := by decide +kernel
theorem dC_add_66 : decode prog_1_method_14_code 66 = .ok (.ireturn, 1) := by decide +kernel
theorem dC_lay_0 : decode prog_1_method_15_code 0 = .ok (.iload_n 1, 1) := by decide +kernel
theorem dC_lay_1 : decode prog_1_method_15_code 1 = .ok (.invokestatic 70, 3) := by decide +kernel
theorem dC_lay_4 : decode prog_1_method_15_code 4 = .ok (.ifCond .ne 6, 3) := by decide +kernel
theorem dC_lay_7 : decode prog_1_method_15_code 7 = .ok (.bipush (-2), 2) := by decide +kernel
theorem dC_lay_9 : decode prog_1_method_15_code 9 = .ok (.ireturn, 1) := by decide +kernel
theorem dC_lay_10 : decode prog_1_method_15_code 10 = .ok (.aload_n 0, 1) := by decide +kernel
theorem dC_lay_11 : decode prog_1_method_15_code 11 = .ok (.getfield 37, 3) := by decide +kernel
theorem dC_lay_14 : decode prog_1_method_15_code 14 = .ok (.invokevirtual 152, 3) := by decide +kernel
theorem dC_lay_17 : decode prog_1_method_15_code 17 = .ok (.ifCond .ne 23, 3) := by decide +kernel
theorem dC_lay_20 : decode prog_1_method_15_code 20 = .ok (.aload_n 0, 1) := by decide +kernel
theorem dC_lay_21 : decode prog_1_method_15_code 21 = .ok (.getfield 37, 3) := by decide +kernel
theorem dC_lay_24 : decode prog_1_method_15_code 24 = .ok (.invokevirtual 148, 3) := by decide +kernel
theorem dC_lay_27 : decode prog_1_method_15_code 27 = .ok (.ifCond .eq 6, 3) := by decide +kernel
theorem dC_lay_30 : decode prog_1_method_15_code 30 = .ok (.bipush (-3), 2) := by decide +kernel
theorem dC_lay_32 : decode prog_1_method_15_code 32 = .ok (.ireturn, 1) := by decide +kernel
theorem dC_lay_33 : decode prog_1_method_15_code 33 = .ok (.aload_n 0, 1) := by decide +kernel
theorem dC_lay_34 : decode prog_1_method_15_code 34 = .ok (.getfield 37, 3) := by decide +kernel
theorem dC_lay_37 : decode prog_1_method_15_code 37 = .ok (.invokevirtual 155, 3) := by decide +kernel
theorem dC_lay_40 : decode prog_1_method_15_code 40 = .ok (.aload_n 0, 1) := by decide +kernel
theorem dC_lay_41 : decode prog_1_method_15_code 41 = .ok (.getfield 37, 3) := by decide +kernel
theorem dC_lay_44 : decode prog_1_method_15_code 44 = .ok (.iload_n 1, 1) := by decide +kernel
theorem dC_lay_45 : decode prog_1_method_15_code 45 = .ok (.invokevirtual 158, 3) := by decide +kernel
theorem dC_lay_48 : decode prog_1_method_15_code 48 = .ok (.aload_n 0, 1) := by decide +kernel
theorem dC_lay_49 : decode prog_1_method_15_code 49 = .ok (.getfield 37, 3) := by decide +kernel
theorem dC_lay_52 : decode prog_1_method_15_code 52 = .ok (.invokevirtual 113, 3) := by decide +kernel
theorem dC_lay_55 : decode prog_1_method_15_code 55 = .ok (.ireturn, 1) := by decide +kernel
theorem dC_make_0 : decode prog_1_method_16_code 0 = .ok (.aload_n 0, 1) := by decide +kernel
theorem dC_make_1 : decode prog_1_method_16_code 1 = .ok (.getfield 14, 3) := by decide +kernel
theorem dC_make_4 : decode prog_1_method_16_code 4 = .ok (.invokevirtual 102, 3) := by decide +kernel
theorem dC_make_7 : decode prog_1_method_16_code 7 = .ok (.aload_n 0, 1) := by decide +kernel
theorem dC_make_8 : decode prog_1_method_16_code 8 = .ok (.getfield 37, 3) := by decide +kernel
theorem dC_make_11 : decode prog_1_method_16_code 11 = .ok (.invokevirtual 161, 3) := by decide +kernel
theorem dC_make_14 : decode prog_1_method_16_code 14 = .ok (.if_icmp .eq 6, 3) := by decide +kernel
theorem dC_make_17 : decode prog_1_method_16_code 17 = .ok (.bipush (-4), 2) := by decide +kernel
theorem dC_make_19 : decode prog_1_method_16_code 19 = .ok (.ireturn, 1) := by decide +kernel
theorem dC_make_20 : decode prog_1_method_16_code 20 = .ok (.aload_n 0, 1) := by decide +kernel
theorem dC_make_21 : decode prog_1_method_16_code 21 = .ok (.getfield 21, 3) := by decide +kernel
theorem dC_make_24 : decode prog_1_method_16_code 24 = .ok (.invokevirtual 54, 3) := by decide +kernel
theorem dC_make_27 : decode prog_1_method_16_code 27 = .ok (.iconst 0, 1) := by decide +kernel
theorem dC_make_28 : decode prog_1_method_16_code 28 = .ok (.istore_n 1, 1) := by decide +kernel
theorem dC_make_29 : decode prog_1_method_16_code 29 = .ok (.iload_n 1, 1) := by decide +kernel
theorem dC_make_30 : decode prog_1_method_16_code 30 = .ok (.aload_n 0, 1) := by decide +kernel
theorem dC_make_31 : decode prog_1_method_16_code 31 = .ok (.getfield 37, 3) := by decide +kernel
theorem dC_make_34 : decode prog_1_method_16_code 34 = .ok (.invokevirtual 113, 3) := by decide +kernel
theorem dC_make_37 : decode prog_1_method_16_code 37 = .ok (.if_icmp .ge 28, 3) := by decide +kernel
theorem dC_make_40 : decode prog_1_method_16_code 40 = .ok (.aload_n 0, 1) := by decide +kernel
theorem dC_make_41 : decode prog_1_method_16_code 41 = .ok (.iload_n 1, 1) := by decide +kernel
theorem dC_make_42 : decode prog_1_method_16_code 42 = .ok (.invokevirtual 162, 3) := by decide +kernel
theorem dC_make_45 : decode prog_1_method_16_code 45 = .ok (.ifCond .eq 9, 3) := by decide +kernel
theorem dC_make_48 : decode prog_1_method_16_code 48 = .ok (.sipush (-1000), 3) := by decide +kernel
theorem dC_make_51 : decode prog_1_method_16_code 51 = .ok (.iload_n 1, 1) := by decide +kernel
theorem dC_make_52 : decode prog_1_method_16_code 52 = .ok (.isub, 1) := by decide +kernel
theorem dC_make_53 : decode prog_1_method_16_code 53 = .ok (.ireturn, 1) := by decide +kernel
theorem dC_make_54 : decode prog_1_method_16_code 54 = .ok (.aload_n 0, 1) := by decide +kernel
theorem dC_make_55 : decode prog_1_method_16_code 55 = .ok (.iload_n 1, 1) := by decide +kernel
theorem dC_make_56 : decode prog_1_method_16_code 56 = .ok (.invokevirtual 165, 3) := by decide +kernel
theorem dC_make_59 : decode prog_1_method_16_code 59 = .ok (.iinc 1 1, 3) := by decide +kernel
theorem dC_make_62 : decode prog_1_method_16_code 62 = .ok (.goto (-33), 3) := by decide +kernel
theorem dC_make_65 : decode prog_1_method_16_code 65 = .ok (.aload_n 0, 1) := by decide +kernel
theorem dC_make_66 : decode prog_1_method_16_code 66 = .ok (.getfield 21, 3) := by decide +kernel
theorem dC_make_69 : decode prog_1_method_16_code 69 = .ok (.invokevirtual 50, 3) := by decide +kernel
theorem dC_make_72 : decode prog_1_method_16_code 72 = .ok (.ireturn, 1) := by decide +kernel
theorem dC_fails_0 : decode prog_1_method_33_code 0 = .ok (.aload_n 0, 1) := by decide +kernel
theorem dC_fails_1 : decode prog_1_method_33_code 1 = .ok (.getfield 37, 3) := by decide +kernel
theorem dC_fails_4 : decode prog_1_method_33_code 4 = .ok (.iload_n 1, 1) := by decide +kernel
theorem dC_fails_5 : decode prog_1_method_33_code 5 = .ok (.invokevirtual 136, 3) := by decide +kernel
theorem dC_fails_8 : decode prog_1_method_33_code 8 = .ok (.istore_n 2, 1) := by decide +kernel
theorem dC_fails_9 : decode prog_1_method_33_code 9 = .ok (.aload_n 0, 1) := by decide +kernel
theorem dC_fails_10 : decode prog_1_method_33_code 10 = .ok (.getfield 21, 3) := by decide +kernel
theorem dC_fails_13 : decode prog_1_method_33_code 13 = .ok (.invokevirtual 50, 3) := by decide +kernel
theorem dC_fails_16 : decode prog_1_method_33_code 16 = .ok (.iload_n 2, 1) := by decide +kernel
theorem dC_fails_17 : decode prog_1_method_33_code 17 = .ok (.iadd, 1) := by decide +kernel
theorem dC_fails_18 : decode prog_1_method_33_code 18 = .ok (.bipush 80, 2) := by decide +kernel
theorem dC_fails_20 : decode prog_1_method_33_code 20 = .ok (.if_icmp .le 5, 3) := by decide +kernel
theorem dC_fails_23 : decode prog_1_method_33_code 23 = .ok (.iconst 1, 1) := by decide +kernel
theorem dC_fails_24 : decode prog_1_method_33_code 24 = .ok (.ireturn, 1) := by decide +kernel
theorem dC_fails_25 : decode prog_1_method_33_code 25 = .ok (.aload_n 0, 1) := by decide +kernel
theorem dC_fails_26 : decode prog_1_method_33_code 26 = .ok (.getfield 37, 3) := by decide +kernel
theorem dC_fails_29 : decode prog_1_method_33_code 29 = .ok (.iload_n 1, 1) := by decide +kernel
theorem dC_fails_30 : decode prog_1_method_33_code 30 = .ok (.invokevirtual 133, 3) := by decide +kernel
theorem dC_fails_33 : decode prog_1_method_33_code 33 = .ok (.lookupswitch 77 #[(0, 27), (1, 53)], 27) := by decide +kernel
theorem dC_fails_60 : decode prog_1_method_33_code 60 = .ok (.aload_n 0, 1) := by decide +kernel
theorem dC_fails_61 : decode prog_1_method_33_code 61 = .ok (.getfield 37, 3) := by decide +kernel
theorem dC_fails_64 : decode prog_1_method_33_code 64 = .ok (.iload_n 1, 1) := by decide +kernel
theorem dC_fails_65 : decode prog_1_method_33_code 65 = .ok (.invokevirtual 139, 3) := by decide +kernel
theorem dC_fails_68 : decode prog_1_method_33_code 68 = .ok (.iload_n 2, 1) := by decide +kernel
theorem dC_fails_69 : decode prog_1_method_33_code 69 = .ok (.iadd, 1) := by decide +kernel
theorem dC_fails_70 : decode prog_1_method_33_code 70 = .ok (.aload_n 0, 1) := by decide +kernel
theorem dC_fails_71 : decode prog_1_method_33_code 71 = .ok (.getfield 14, 3) := by decide +kernel
theorem dC_fails_74 : decode prog_1_method_33_code 74 = .ok (.invokevirtual 50, 3) := by decide +kernel
theorem dC_fails_77 : decode prog_1_method_33_code 77 = .ok (.if_icmp .le 7, 3) := by decide +kernel
theorem dC_fails_80 : decode prog_1_method_33_code 80 = .ok (.iconst 1, 1) := by decide +kernel
theorem dC_fails_81 : decode prog_1_method_33_code 81 = .ok (.goto 4, 3) := by decide +kernel
theorem dC_fails_84 : decode prog_1_method_33_code 84 = .ok (.iconst 0, 1) := by decide +kernel
theorem dC_fails_85 : decode prog_1_method_33_code 85 = .ok (.ireturn, 1) := by decide +kernel
theorem dC_fails_86 : decode prog_1_method_33_code 86 = .ok (.aload_n 0, 1) := by decide +kernel
theorem dC_fails_87 : decode prog_1_method_33_code 87 = .ok (.getfield 37, 3) := by decide +kernel
theorem dC_fails_90 : decode prog_1_method_33_code 90 = .ok (.iload_n 1, 1) := by decide +kernel
theorem dC_fails_91 : decode prog_1_method_33_code 91 = .ok (.invokevirtual 139, 3) := by decide +kernel
theorem dC_fails_94 : decode prog_1_method_33_code 94 = .ok (.aload_n 0, 1) := by decide +kernel
theorem dC_fails_95 : decode prog_1_method_33_code 95 = .ok (.getfield 21, 3) := by decide +kernel
theorem dC_fails_98 : decode prog_1_method_33_code 98 = .ok (.invokevirtual 50, 3) := by decide +kernel
theorem dC_fails_101 : decode prog_1_method_33_code 101 = .ok (.if_icmp .lt 7, 3) := by decide +kernel
theorem dC_fails_104 : decode prog_1_method_33_code 104 = .ok (.iconst 1, 1) := by decide +kernel
theorem dC_fails_105 : decode prog_1_method_33_code 105 = .ok (.goto 4, 3) := by decide +kernel
theorem dC_fails_108 : decode prog_1_method_33_code 108 = .ok (.iconst 0, 1) := by decide +kernel
theorem dC_fails_109 : decode prog_1_method_33_code 109 = .ok (.ireturn, 1) := by decide +kernel
theorem dC_fails_110 : decode prog_1_method_33_code 110 = .ok (.iconst 0, 1) := by decide +kernel
theorem dC_fails_111 : decode prog_1_method_33_code 111 = .ok (.ireturn, 1) := by decide +kernel
theorem dC_perform_0 : decode prog_1_method_34_code 0 = .ok (.iconst 0, 1) := by decide +kernel
theorem dC_perform_1 : decode prog_1_method_34_code 1 = .ok (.istore_n 2, 1) := by decide +kernel
theorem dC_perform_2 : decode prog_1_method_34_code 2 = .ok (.iload_n 2, 1) := by decide +kernel
theorem dC_perform_3 : decode prog_1_method_34_code 3 = .ok (.aload_n 0, 1) := by decide +kernel
theorem dC_perform_4 : decode prog_1_method_34_code 4 = .ok (.getfield 37, 3) := by decide +kernel
theorem dC_perform_7 : decode prog_1_method_34_code 7 = .ok (.iload_n 1, 1) := by decide +kernel
theorem dC_perform_8 : decode prog_1_method_34_code 8 = .ok (.invokevirtual 136, 3) := by decide +kernel
theorem dC_perform_11 : decode prog_1_method_34_code 11 = .ok (.if_icmp .ge 22, 3) := by decide +kernel
theorem dC_perform_14 : decode prog_1_method_34_code 14 = .ok (.aload_n 0, 1) := by decide +kernel
theorem dC_perform_15 : decode prog_1_method_34_code 15 = .ok (.getfield 21, 3) := by decide +kernel
theorem dC_perform_18 : decode prog_1_method_34_code 18 = .ok (.aload_n 0, 1) := by decide +kernel
theorem dC_perform_19 : decode prog_1_method_34_code 19 = .ok (.iload_n 1, 1) := by decide +kernel
theorem dC_perform_20 : decode prog_1_method_34_code 20 = .ok (.iload_n 2, 1) := by decide +kernel
theorem dC_perform_21 : decode prog_1_method_34_code 21 = .ok (.invokevirtual 212, 3) := by decide +kernel
theorem dC_perform_24 : decode prog_1_method_34_code 24 = .ok (.invokevirtual 81, 3) := by decide +kernel
theorem dC_perform_27 : decode prog_1_method_34_code 27 = .ok (.iinc 2 1, 3) := by decide +kernel
theorem dC_perform_30 : decode prog_1_method_34_code 30 = .ok (.goto (-28), 3) := by decide +kernel
theorem dC_perform_33 : decode prog_1_method_34_code 33 = .ok (.return_, 1) := by decide +kernel
theorem dC_byteOf_0 : decode prog_1_method_35_code 0 = .ok (.aload_n 0, 1) := by decide +kernel
theorem dC_byteOf_1 : decode prog_1_method_35_code 1 = .ok (.getfield 37, 3) := by decide +kernel
theorem dC_byteOf_4 : decode prog_1_method_35_code 4 = .ok (.iload_n 1, 1) := by decide +kernel
theorem dC_byteOf_5 : decode prog_1_method_35_code 5 = .ok (.invokevirtual 133, 3) := by decide +kernel
theorem dC_byteOf_8 : decode prog_1_method_35_code 8 = .ok (.lookupswitch 64 #[(0, 28), (1, 46)], 28) := by decide +kernel
theorem dC_byteOf_36 : decode prog_1_method_35_code 36 = .ok (.aload_n 0, 1) := by decide +kernel
theorem dC_byteOf_37 : decode prog_1_method_35_code 37 = .ok (.getfield 14, 3) := by decide +kernel
theorem dC_byteOf_40 : decode prog_1_method_35_code 40 = .ok (.aload_n 0, 1) := by decide +kernel
theorem dC_byteOf_41 : decode prog_1_method_35_code 41 = .ok (.getfield 37, 3) := by decide +kernel
theorem dC_byteOf_44 : decode prog_1_method_35_code 44 = .ok (.iload_n 1, 1) := by decide +kernel
theorem dC_byteOf_45 : decode prog_1_method_35_code 45 = .ok (.invokevirtual 139, 3) := by decide +kernel
theorem dC_byteOf_48 : decode prog_1_method_35_code 48 = .ok (.iload_n 2, 1) := by decide +kernel
theorem dC_byteOf_49 : decode prog_1_method_35_code 49 = .ok (.iadd, 1) := by decide +kernel
theorem dC_byteOf_50 : decode prog_1_method_35_code 50 = .ok (.invokevirtual 168, 3) := by decide +kernel
theorem dC_byteOf_53 : decode prog_1_method_35_code 53 = .ok (.ireturn, 1) := by decide +kernel
theorem dC_byteOf_54 : decode prog_1_method_35_code 54 = .ok (.aload_n 0, 1) := by decide +kernel
theorem dC_byteOf_55 : decode prog_1_method_35_code 55 = .ok (.getfield 21, 3) := by decide +kernel
theorem dC_byteOf_58 : decode prog_1_method_35_code 58 = .ok (.aload_n 0, 1) := by decide +kernel
theorem dC_byteOf_59 : decode prog_1_method_35_code 59 = .ok (.getfield 37, 3) := by decide +kernel
theorem dC_byteOf_62 : decode prog_1_method_35_code 62 = .ok (.iload_n 1, 1) := by decide +kernel
theorem dC_byteOf_63 : decode prog_1_method_35_code 63 = .ok (.invokevirtual 139, 3) := by decide +kernel
theorem dC_byteOf_66 : decode prog_1_method_35_code 66 = .ok (.iload_n 2, 1) := by decide +kernel
theorem dC_byteOf_67 : decode prog_1_method_35_code 67 = .ok (.iadd, 1) := by decide +kernel
theorem dC_byteOf_68 : decode prog_1_method_35_code 68 = .ok (.invokevirtual 168, 3) := by decide +kernel
theorem dC_byteOf_71 : decode prog_1_method_35_code 71 = .ok (.ireturn, 1) := by decide +kernel
theorem dC_byteOf_72 : decode prog_1_method_35_code 72 = .ok (.aload_n 0, 1) := by decide +kernel
theorem dC_byteOf_73 : decode prog_1_method_35_code 73 = .ok (.getfield 37, 3) := by decide +kernel
theorem dC_byteOf_76 : decode prog_1_method_35_code 76 = .ok (.iload_n 1, 1) := by decide +kernel
theorem dC_byteOf_77 : decode prog_1_method_35_code 77 = .ok (.iload_n 2, 1) := by decide +kernel
theorem dC_byteOf_78 : decode prog_1_method_35_code 78 = .ok (.invokevirtual 145, 3) := by decide +kernel
theorem dC_byteOf_81 : decode prog_1_method_35_code 81 = .ok (.ireturn, 1) := by decide +kernel
theorem dC_made_0 : decode prog_1_method_17_code 0 = .ok (.aload_n 0, 1) := by decide +kernel
theorem dC_made_1 : decode prog_1_method_17_code 1 = .ok (.getfield 21, 3) := by decide +kernel
theorem dC_made_4 : decode prog_1_method_17_code 4 = .ok (.iload_n 1, 1) := by decide +kernel
theorem dC_made_5 : decode prog_1_method_17_code 5 = .ok (.invokevirtual 168, 3) := by decide +kernel
theorem dC_made_8 : decode prog_1_method_17_code 8 = .ok (.ireturn, 1) := by decide +kernel
theorem dC_isNew_0 : decode prog_1_method_18_code 0 = .ok (.aload_n 0, 1) := by decide +kernel
theorem dC_isNew_1 : decode prog_1_method_18_code 1 = .ok (.getfield 21, 3) := by decide +kernel
theorem dC_isNew_4 : decode prog_1_method_18_code 4 = .ok (.aload_n 0, 1) := by decide +kernel
theorem dC_isNew_5 : decode prog_1_method_18_code 5 = .ok (.getfield 18, 3) := by decide +kernel
theorem dC_isNew_8 : decode prog_1_method_18_code 8 = .ok (.invokevirtual 171, 3) := by decide +kernel
theorem dC_isNew_11 : decode prog_1_method_18_code 11 = .ok (.ifCond .eq 7, 3) := by decide +kernel
theorem dC_isNew_14 : decode prog_1_method_18_code 14 = .ok (.iconst 1, 1) := by decide +kernel
theorem dC_isNew_15 : decode prog_1_method_18_code 15 = .ok (.goto 4, 3) := by decide +kernel
theorem dC_isNew_18 : decode prog_1_method_18_code 18 = .ok (.iconst 0, 1) := by decide +kernel
theorem dC_isNew_19 : decode prog_1_method_18_code 19 = .ok (.ireturn, 1) := by decide +kernel
theorem dC_write_0 : decode prog_1_method_19_code 0 = .ok (.aload_n 0, 1) := by decide +kernel
theorem dC_write_1 : decode prog_1_method_19_code 1 = .ok (.getfield 24, 3) := by decide +kernel
theorem dC_write_4 : decode prog_1_method_19_code 4 = .ok (.invokevirtual 54, 3) := by decide +kernel
theorem dC_write_7 : decode prog_1_method_19_code 7 = .ok (.aload_n 0, 1) := by decide +kernel
theorem dC_write_8 : decode prog_1_method_19_code 8 = .ok (.getfield 24, 3) := by decide +kernel
theorem dC_write_11 : decode prog_1_method_19_code 11 = .ok (.aload_n 0, 1) := by decide +kernel
theorem dC_write_12 : decode prog_1_method_19_code 12 = .ok (.getfield 37, 3) := by decide +kernel
theorem dC_write_15 : decode prog_1_method_19_code 15 = .ok (.invokevirtual 161, 3) := by decide +kernel
theorem dC_write_18 : decode prog_1_method_19_code 18 = .ok (.sipush 256, 3) := by decide +kernel
theorem dC_write_21 : decode prog_1_method_19_code 21 = .ok (.idiv, 1) := by decide +kernel
theorem dC_write_22 : decode prog_1_method_19_code 22 = .ok (.invokevirtual 81, 3) := by decide +kernel
theorem dC_write_25 : decode prog_1_method_19_code 25 = .ok (.aload_n 0, 1) := by decide +kernel
theorem dC_write_26 : decode prog_1_method_19_code 26 = .ok (.getfield 24, 3) := by decide +kernel
theorem dC_write_29 : decode prog_1_method_19_code 29 = .ok (.aload_n 0, 1) := by decide +kernel
theorem dC_write_30 : decode prog_1_method_19_code 30 = .ok (.getfield 37, 3) := by decide +kernel
theorem dC_write_33 : decode prog_1_method_19_code 33 = .ok (.invokevirtual 161, 3) := by decide +kernel
theorem dC_write_36 : decode prog_1_method_19_code 36 = .ok (.sipush 256, 3) := by decide +kernel
theorem dC_write_39 : decode prog_1_method_19_code 39 = .ok (.irem, 1) := by decide +kernel
theorem dC_write_40 : decode prog_1_method_19_code 40 = .ok (.invokevirtual 81, 3) := by decide +kernel
theorem dC_write_43 : decode prog_1_method_19_code 43 = .ok (.iconst 0, 1) := by decide +kernel
theorem dC_write_44 : decode prog_1_method_19_code 44 = .ok (.istore_n 1, 1) := by decide +kernel
theorem dC_write_45 : decode prog_1_method_19_code 45 = .ok (.iload_n 1, 1) := by decide +kernel
theorem dC_write_46 : decode prog_1_method_19_code 46 = .ok (.aload_n 0, 1) := by decide +kernel
theorem dC_write_47 : decode prog_1_method_19_code 47 = .ok (.getfield 37, 3) := by decide +kernel
theorem dC_write_50 : decode prog_1_method_19_code 50 = .ok (.invokevirtual 113, 3) := by decide +kernel
theorem dC_write_53 : decode prog_1_method_19_code 53 = .ok (.if_icmp .ge 14, 3) := by decide +kernel
theorem dC_write_56 : decode prog_1_method_19_code 56 = .ok (.aload_n 0, 1) := by decide +kernel
theorem dC_write_57 : decode prog_1_method_19_code 57 = .ok (.iload_n 1, 1) := by decide +kernel
theorem dC_write_58 : decode prog_1_method_19_code 58 = .ok (.invokevirtual 175, 3) := by decide +kernel
theorem dC_write_61 : decode prog_1_method_19_code 61 = .ok (.iinc 1 1, 3) := by decide +kernel
theorem dC_write_64 : decode prog_1_method_19_code 64 = .ok (.goto (-19), 3) := by decide +kernel
theorem dC_write_67 : decode prog_1_method_19_code 67 = .ok (.aload_n 0, 1) := by decide +kernel
theorem dC_write_68 : decode prog_1_method_19_code 68 = .ok (.getfield 24, 3) := by decide +kernel
