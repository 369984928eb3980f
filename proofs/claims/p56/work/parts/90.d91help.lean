/-! decode rows, out of the printed names -/
theorem dL_cell_0 : decode cL_cell 0 = .ok (.iload_n 1, 1) := by decide +kernel
theorem dL_cell_1 : decode cL_cell 1 = .ok (.aload_n 0, 1) := by decide +kernel
theorem dL_cell_2 : decode cL_cell 2 = .ok (.arraylength, 1) := by decide +kernel
theorem dL_cell_3 : decode cL_cell 3 = .ok (.if_icmp .ge 9, 3) := by decide +kernel
theorem dL_cell_6 : decode cL_cell 6 = .ok (.aload_n 0, 1) := by decide +kernel
theorem dL_cell_7 : decode cL_cell 7 = .ok (.iload_n 1, 1) := by decide +kernel
theorem dL_cell_8 : decode cL_cell 8 = .ok (.iaload, 1) := by decide +kernel
theorem dL_cell_9 : decode cL_cell 9 = .ok (.goto 10, 3) := by decide +kernel
theorem dL_cell_12 : decode cL_cell 12 = .ok (.ldc 7, 2) := by decide +kernel
theorem dL_cell_14 : decode cL_cell 14 = .ok (.iload_n 1, 1) := by decide +kernel
theorem dL_cell_15 : decode cL_cell 15 = .ok (.imul, 1) := by decide +kernel
theorem dL_cell_16 : decode cL_cell 16 = .ok (.ldc 8, 2) := by decide +kernel
theorem dL_cell_18 : decode cL_cell 18 = .ok (.iadd, 1) := by decide +kernel
theorem dL_cell_19 : decode cL_cell 19 = .ok (.ireturn, 1) := by decide +kernel
theorem dL_low_0 : decode cL_low 0 = .ok (.iload_n 0, 1) := by decide +kernel
theorem dL_low_1 : decode cL_low 1 = .ok (.ldc 9, 2) := by decide +kernel
theorem dL_low_3 : decode cL_low 3 = .ok (.iand, 1) := by decide +kernel
theorem dL_low_4 : decode cL_low 4 = .ok (.iload_n 1, 1) := by decide +kernel
theorem dL_low_5 : decode cL_low 5 = .ok (.irem, 1) := by decide +kernel
theorem dL_low_6 : decode cL_low 6 = .ok (.ireturn, 1) := by decide +kernel
theorem dL_isRepeat_0 : decode cL_isRepeat 0 = .ok (.iload_n 3, 1) := by decide +kernel
theorem dL_isRepeat_1 : decode cL_isRepeat 1 = .ok (.iload_n 2, 1) := by decide +kernel
theorem dL_isRepeat_2 : decode cL_isRepeat 2 = .ok (.if_icmp .gt 29, 3) := by decide +kernel
theorem dL_isRepeat_5 : decode cL_isRepeat 5 = .ok (.iload 4, 2) := by decide +kernel
theorem dL_isRepeat_7 : decode cL_isRepeat 7 = .ok (.aload_n 1, 1) := by decide +kernel
theorem dL_isRepeat_8 : decode cL_isRepeat 8 = .ok (.iconst 2, 1) := by decide +kernel
theorem dL_isRepeat_9 : decode cL_isRepeat 9 = .ok (.iaload, 1) := by decide +kernel
theorem dL_isRepeat_10 : decode cL_isRepeat 10 = .ok (.if_icmp .lt 21, 3) := by decide +kernel
theorem dL_isRepeat_13 : decode cL_isRepeat 13 = .ok (.iload 4, 2) := by decide +kernel
theorem dL_isRepeat_15 : decode cL_isRepeat 15 = .ok (.aload_n 1, 1) := by decide +kernel
theorem dL_isRepeat_16 : decode cL_isRepeat 16 = .ok (.iconst 3, 1) := by decide +kernel
theorem dL_isRepeat_17 : decode cL_isRepeat 17 = .ok (.iaload, 1) := by decide +kernel
theorem dL_isRepeat_18 : decode cL_isRepeat 18 = .ok (.if_icmp .gt 13, 3) := by decide +kernel
theorem dL_isRepeat_21 : decode cL_isRepeat 21 = .ok (.iload_n 2, 1) := by decide +kernel
theorem dL_isRepeat_22 : decode cL_isRepeat 22 = .ok (.iload 4, 2) := by decide +kernel
theorem dL_isRepeat_24 : decode cL_isRepeat 24 = .ok (.iadd, 1) := by decide +kernel
theorem dL_isRepeat_25 : decode cL_isRepeat 25 = .ok (.aload_n 1, 1) := by decide +kernel
theorem dL_isRepeat_26 : decode cL_isRepeat 26 = .ok (.iconst 0, 1) := by decide +kernel
theorem dL_isRepeat_27 : decode cL_isRepeat 27 = .ok (.iaload, 1) := by decide +kernel
theorem dL_isRepeat_28 : decode cL_isRepeat 28 = .ok (.if_icmp .le 5, 3) := by decide +kernel
theorem dL_isRepeat_31 : decode cL_isRepeat 31 = .ok (.iconst 0, 1) := by decide +kernel
theorem dL_isRepeat_32 : decode cL_isRepeat 32 = .ok (.ireturn, 1) := by decide +kernel
theorem dL_isRepeat_33 : decode cL_isRepeat 33 = .ok (.iload_n 2, 1) := by decide +kernel
theorem dL_isRepeat_34 : decode cL_isRepeat 34 = .ok (.iload 4, 2) := by decide +kernel
theorem dL_isRepeat_36 : decode cL_isRepeat 36 = .ok (.iadd, 1) := by decide +kernel
theorem dL_isRepeat_37 : decode cL_isRepeat 37 = .ok (.iconst 1, 1) := by decide +kernel
theorem dL_isRepeat_38 : decode cL_isRepeat 38 = .ok (.isub, 1) := by decide +kernel
theorem dL_isRepeat_39 : decode cL_isRepeat 39 = .ok (.istore 5, 2) := by decide +kernel
theorem dL_isRepeat_41 : decode cL_isRepeat 41 = .ok (.iload 5, 2) := by decide +kernel
theorem dL_isRepeat_43 : decode cL_isRepeat 43 = .ok (.iload_n 2, 1) := by decide +kernel
theorem dL_isRepeat_44 : decode cL_isRepeat 44 = .ok (.if_icmp .lt 24, 3) := by decide +kernel
theorem dL_isRepeat_47 : decode cL_isRepeat 47 = .ok (.aload_n 0, 1) := by decide +kernel
theorem dL_isRepeat_48 : decode cL_isRepeat 48 = .ok (.iload 5, 2) := by decide +kernel
theorem dL_isRepeat_50 : decode cL_isRepeat 50 = .ok (.iaload, 1) := by decide +kernel
theorem dL_isRepeat_51 : decode cL_isRepeat 51 = .ok (.aload_n 0, 1) := by decide +kernel
theorem dL_isRepeat_52 : decode cL_isRepeat 52 = .ok (.iload 5, 2) := by decide +kernel
theorem dL_isRepeat_54 : decode cL_isRepeat 54 = .ok (.iload_n 3, 1) := by decide +kernel
theorem dL_isRepeat_55 : decode cL_isRepeat 55 = .ok (.isub, 1) := by decide +kernel
theorem dL_isRepeat_56 : decode cL_isRepeat 56 = .ok (.iaload, 1) := by decide +kernel
theorem dL_isRepeat_57 : decode cL_isRepeat 57 = .ok (.if_icmp .eq 5, 3) := by decide +kernel
theorem dL_isRepeat_60 : decode cL_isRepeat 60 = .ok (.iconst 0, 1) := by decide +kernel
theorem dL_isRepeat_61 : decode cL_isRepeat 61 = .ok (.ireturn, 1) := by decide +kernel
theorem dL_isRepeat_62 : decode cL_isRepeat 62 = .ok (.iinc 5 (-1), 3) := by decide +kernel
theorem dL_isRepeat_65 : decode cL_isRepeat 65 = .ok (.goto (-24), 3) := by decide +kernel
theorem dL_isRepeat_68 : decode cL_isRepeat 68 = .ok (.iconst 1, 1) := by decide +kernel
theorem dL_isRepeat_69 : decode cL_isRepeat 69 = .ok (.ireturn, 1) := by decide +kernel
theorem dL_longest_0 : decode cL_longest 0 = .ok (.aload_n 1, 1) := by decide +kernel
theorem dL_longest_1 : decode cL_longest 1 = .ok (.iconst 3, 1) := by decide +kernel
theorem dL_longest_2 : decode cL_longest 2 = .ok (.iaload, 1) := by decide +kernel
theorem dL_longest_3 : decode cL_longest 3 = .ok (.istore 4, 2) := by decide +kernel
theorem dL_longest_5 : decode cL_longest 5 = .ok (.iload 4, 2) := by decide +kernel
theorem dL_longest_7 : decode cL_longest 7 = .ok (.aload_n 1, 1) := by decide +kernel
theorem dL_longest_8 : decode cL_longest 8 = .ok (.iconst 2, 1) := by decide +kernel
theorem dL_longest_9 : decode cL_longest 9 = .ok (.iaload, 1) := by decide +kernel
theorem dL_longest_10 : decode cL_longest 10 = .ok (.if_icmp .lt 40, 3) := by decide +kernel
theorem dL_longest_13 : decode cL_longest 13 = .ok (.iconst 1, 1) := by decide +kernel
theorem dL_longest_14 : decode cL_longest 14 = .ok (.istore 5, 2) := by decide +kernel
theorem dL_longest_16 : decode cL_longest 16 = .ok (.iload 5, 2) := by decide +kernel
theorem dL_longest_18 : decode cL_longest 18 = .ok (.iload_n 3, 1) := by decide +kernel
theorem dL_longest_19 : decode cL_longest 19 = .ok (.if_icmp .gt 25, 3) := by decide +kernel
theorem dL_longest_22 : decode cL_longest 22 = .ok (.aload_n 0, 1) := by decide +kernel
theorem dL_longest_23 : decode cL_longest 23 = .ok (.aload_n 1, 1) := by decide +kernel
theorem dL_longest_24 : decode cL_longest 24 = .ok (.iload_n 2, 1) := by decide +kernel
theorem dL_longest_25 : decode cL_longest 25 = .ok (.iload 5, 2) := by decide +kernel
theorem dL_longest_27 : decode cL_longest 27 = .ok (.iload 4, 2) := by decide +kernel
theorem dL_longest_29 : decode cL_longest 29 = .ok (.invokestatic 10, 3) := by decide +kernel
theorem dL_longest_32 : decode cL_longest 32 = .ok (.ifCond .eq 6, 3) := by decide +kernel
theorem dL_longest_35 : decode cL_longest 35 = .ok (.iload 4, 2) := by decide +kernel
theorem dL_longest_37 : decode cL_longest 37 = .ok (.ireturn, 1) := by decide +kernel
theorem dL_longest_38 : decode cL_longest 38 = .ok (.iinc 5 1, 3) := by decide +kernel
theorem dL_longest_41 : decode cL_longest 41 = .ok (.goto (-25), 3) := by decide +kernel
theorem dL_longest_44 : decode cL_longest 44 = .ok (.iinc 4 (-1), 3) := by decide +kernel
theorem dL_longest_47 : decode cL_longest 47 = .ok (.goto (-42), 3) := by decide +kernel
theorem dL_longest_50 : decode cL_longest 50 = .ok (.iconst 0, 1) := by decide +kernel
theorem dL_longest_51 : decode cL_longest 51 = .ok (.ireturn, 1) := by decide +kernel
theorem dL_nearest_0 : decode cL_nearest 0 = .ok (.iconst 1, 1) := by decide +kernel
theorem dL_nearest_1 : decode cL_nearest 1 = .ok (.istore 4, 2) := by decide +kernel
theorem dL_nearest_3 : decode cL_nearest 3 = .ok (.iload 4, 2) := by decide +kernel
theorem dL_nearest_5 : decode cL_nearest 5 = .ok (.aload_n 1, 1) := by decide +kernel
theorem dL_nearest_6 : decode cL_nearest 6 = .ok (.iconst 1, 1) := by decide +kernel
theorem dL_nearest_7 : decode cL_nearest 7 = .ok (.iaload, 1) := by decide +kernel
theorem dL_nearest_8 : decode cL_nearest 8 = .ok (.if_icmp .gt 24, 3) := by decide +kernel
theorem dL_nearest_11 : decode cL_nearest 11 = .ok (.aload_n 0, 1) := by decide +kernel
theorem dL_nearest_12 : decode cL_nearest 12 = .ok (.aload_n 1, 1) := by decide +kernel
theorem dL_nearest_13 : decode cL_nearest 13 = .ok (.iload_n 2, 1) := by decide +kernel
theorem dL_nearest_14 : decode cL_nearest 14 = .ok (.iload 4, 2) := by decide +kernel
theorem dL_nearest_16 : decode cL_nearest 16 = .ok (.iload_n 3, 1) := by decide +kernel
theorem dL_nearest_17 : decode cL_nearest 17 = .ok (.invokestatic 10, 3) := by decide +kernel
theorem dL_nearest_20 : decode cL_nearest 20 = .ok (.ifCond .eq 6, 3) := by decide +kernel
theorem dL_nearest_23 : decode cL_nearest 23 = .ok (.iload 4, 2) := by decide +kernel
theorem dL_nearest_25 : decode cL_nearest 25 = .ok (.ireturn, 1) := by decide +kernel
theorem dL_nearest_26 : decode cL_nearest 26 = .ok (.iinc 4 1, 3) := by decide +kernel
theorem dL_nearest_29 : decode cL_nearest 29 = .ok (.goto (-26), 3) := by decide +kernel
theorem dL_nearest_32 : decode cL_nearest 32 = .ok (.iconst 0, 1) := by decide +kernel
theorem dL_nearest_33 : decode cL_nearest 33 = .ok (.ireturn, 1) := by decide +kernel
theorem dL_costs_0 : decode cL_costs 0 = .ok (.aload_n 3, 1) := by decide +kernel
theorem dL_costs_1 : decode cL_costs 1 = .ok (.aload_n 1, 1) := by decide +kernel
theorem dL_costs_2 : decode cL_costs 2 = .ok (.iconst 0, 1) := by decide +kernel
theorem dL_costs_3 : decode cL_costs 3 = .ok (.iaload, 1) := by decide +kernel
theorem dL_costs_4 : decode cL_costs 4 = .ok (.iconst 0, 1) := by decide +kernel
theorem dL_costs_5 : decode cL_costs 5 = .ok (.iastore, 1) := by decide +kernel
theorem dL_costs_6 : decode cL_costs 6 = .ok (.aload_n 1, 1) := by decide +kernel
theorem dL_costs_7 : decode cL_costs 7 = .ok (.iconst 0, 1) := by decide +kernel
theorem dL_costs_8 : decode cL_costs 8 = .ok (.iaload, 1) := by decide +kernel
theorem dL_costs_9 : decode cL_costs 9 = .ok (.iconst 1, 1) := by decide +kernel
theorem dL_costs_10 : decode cL_costs 10 = .ok (.isub, 1) := by decide +kernel
theorem dL_costs_11 : decode cL_costs 11 = .ok (.istore 4, 2) := by decide +kernel
theorem dL_costs_13 : decode cL_costs 13 = .ok (.iload 4, 2) := by decide +kernel
theorem dL_costs_15 : decode cL_costs 15 = .ok (.ifCond .lt 87, 3) := by decide +kernel
theorem dL_costs_18 : decode cL_costs 18 = .ok (.aload_n 3, 1) := by decide +kernel
theorem dL_costs_19 : decode cL_costs 19 = .ok (.iload 4, 2) := by decide +kernel
theorem dL_costs_21 : decode cL_costs 21 = .ok (.aload_n 3, 1) := by decide +kernel
theorem dL_costs_22 : decode cL_costs 22 = .ok (.iload 4, 2) := by decide +kernel
theorem dL_costs_24 : decode cL_costs 24 = .ok (.iconst 1, 1) := by decide +kernel
theorem dL_costs_25 : decode cL_costs 25 = .ok (.iadd, 1) := by decide +kernel
theorem dL_costs_26 : decode cL_costs 26 = .ok (.iaload, 1) := by decide +kernel
theorem dL_costs_27 : decode cL_costs 27 = .ok (.aload_n 1, 1) := by decide +kernel
theorem dL_costs_28 : decode cL_costs 28 = .ok (.iconst 4, 1) := by decide +kernel
theorem dL_costs_29 : decode cL_costs 29 = .ok (.iaload, 1) := by decide +kernel
theorem dL_costs_30 : decode cL_costs 30 = .ok (.iadd, 1) := by decide +kernel
theorem dL_costs_31 : decode cL_costs 31 = .ok (.iastore, 1) := by decide +kernel
theorem dL_costs_32 : decode cL_costs 32 = .ok (.aload_n 0, 1) := by decide +kernel
theorem dL_costs_33 : decode cL_costs 33 = .ok (.aload_n 1, 1) := by decide +kernel
theorem dL_costs_34 : decode cL_costs 34 = .ok (.iload 4, 2) := by decide +kernel
theorem dL_costs_36 : decode cL_costs 36 = .ok (.iload_n 2, 1) := by decide +kernel
theorem dL_costs_37 : decode cL_costs 37 = .ok (.invokestatic 16, 3) := by decide +kernel
theorem dL_costs_40 : decode cL_costs 40 = .ok (.istore 5, 2) := by decide +kernel
theorem dL_costs_42 : decode cL_costs 42 = .ok (.iload 5, 2) := by decide +kernel
theorem dL_costs_44 : decode cL_costs 44 = .ok (.aload_n 1, 1) := by decide +kernel
theorem dL_costs_45 : decode cL_costs 45 = .ok (.iconst 2, 1) := by decide +kernel
theorem dL_costs_46 : decode cL_costs 46 = .ok (.iaload, 1) := by decide +kernel
theorem dL_costs_47 : decode cL_costs 47 = .ok (.if_icmp .lt 49, 3) := by decide +kernel
theorem dL_costs_50 : decode cL_costs 50 = .ok (.aload_n 3, 1) := by decide +kernel
theorem dL_costs_51 : decode cL_costs 51 = .ok (.iload 4, 2) := by decide +kernel
theorem dL_costs_53 : decode cL_costs 53 = .ok (.aload_n 3, 1) := by decide +kernel
theorem dL_costs_54 : decode cL_costs 54 = .ok (.iload 4, 2) := by decide +kernel
theorem dL_costs_56 : decode cL_costs 56 = .ok (.iload 5, 2) := by decide +kernel
theorem dL_costs_58 : decode cL_costs 58 = .ok (.iadd, 1) := by decide +kernel
theorem dL_costs_59 : decode cL_costs 59 = .ok (.iaload, 1) := by decide +kernel
theorem dL_costs_60 : decode cL_costs 60 = .ok (.aload_n 1, 1) := by decide +kernel
theorem dL_costs_61 : decode cL_costs 61 = .ok (.iconst 5, 1) := by decide +kernel
theorem dL_costs_62 : decode cL_costs 62 = .ok (.iaload, 1) := by decide +kernel
theorem dL_costs_63 : decode cL_costs 63 = .ok (.iadd, 1) := by decide +kernel
theorem dL_costs_64 : decode cL_costs 64 = .ok (.aload_n 3, 1) := by decide +kernel
theorem dL_costs_65 : decode cL_costs 65 = .ok (.iload 4, 2) := by decide +kernel
theorem dL_costs_67 : decode cL_costs 67 = .ok (.iaload, 1) := by decide +kernel
theorem dL_costs_68 : decode cL_costs 68 = .ok (.if_icmp .ge 17, 3) := by decide +kernel
theorem dL_costs_71 : decode cL_costs 71 = .ok (.aload_n 3, 1) := by decide +kernel
theorem dL_costs_72 : decode cL_costs 72 = .ok (.iload 4, 2) := by decide +kernel
theorem dL_costs_74 : decode cL_costs 74 = .ok (.iload 5, 2) := by decide +kernel
theorem dL_costs_76 : decode cL_costs 76 = .ok (.iadd, 1) := by decide +kernel
theorem dL_costs_77 : decode cL_costs 77 = .ok (.iaload, 1) := by decide +kernel
theorem dL_costs_78 : decode cL_costs 78 = .ok (.aload_n 1, 1) := by decide +kernel
theorem dL_costs_79 : decode cL_costs 79 = .ok (.iconst 5, 1) := by decide +kernel
theorem dL_costs_80 : decode cL_costs 80 = .ok (.iaload, 1) := by decide +kernel
theorem dL_costs_81 : decode cL_costs 81 = .ok (.iadd, 1) := by decide +kernel
theorem dL_costs_82 : decode cL_costs 82 = .ok (.goto 7, 3) := by decide +kernel
theorem dL_costs_85 : decode cL_costs 85 = .ok (.aload_n 3, 1) := by decide +kernel
theorem dL_costs_86 : decode cL_costs 86 = .ok (.iload 4, 2) := by decide +kernel
theorem dL_costs_88 : decode cL_costs 88 = .ok (.iaload, 1) := by decide +kernel
theorem dL_costs_89 : decode cL_costs 89 = .ok (.iastore, 1) := by decide +kernel
theorem dL_costs_90 : decode cL_costs 90 = .ok (.iinc 5 (-1), 3) := by decide +kernel
theorem dL_costs_93 : decode cL_costs 93 = .ok (.goto (-51), 3) := by decide +kernel
theorem dL_costs_96 : decode cL_costs 96 = .ok (.iinc 4 (-1), 3) := by decide +kernel
theorem dL_costs_99 : decode cL_costs 99 = .ok (.goto (-86), 3) := by decide +kernel
theorem dL_costs_102 : decode cL_costs 102 = .ok (.return_, 1) := by decide +kernel
theorem dL_by_0 : decode cL_by 0 = .ok (.aload_n 0, 1) := by decide +kernel
theorem dL_by_1 : decode cL_by 1 = .ok (.aload_n 1, 1) := by decide +kernel
theorem dL_by_2 : decode cL_by 2 = .ok (.iload 4, 2) := by decide +kernel
theorem dL_by_4 : decode cL_by 4 = .ok (.aload_n 1, 1) := by decide +kernel
theorem dL_by_5 : decode cL_by 5 = .ok (.iconst 1, 1) := by decide +kernel
theorem dL_by_6 : decode cL_by 6 = .ok (.iaload, 1) := by decide +kernel
theorem dL_by_7 : decode cL_by 7 = .ok (.invokestatic 16, 3) := by decide +kernel
theorem dL_by_10 : decode cL_by 10 = .ok (.istore 5, 2) := by decide +kernel
theorem dL_by_12 : decode cL_by 12 = .ok (.iload_n 3, 1) := by decide +kernel
theorem dL_by_13 : decode cL_by 13 = .ok (.iconst 2, 1) := by decide +kernel
theorem dL_by_14 : decode cL_by 14 = .ok (.if_icmp .ne 47, 3) := by decide +kernel
theorem dL_by_17 : decode cL_by 17 = .ok (.iload 5, 2) := by decide +kernel
theorem dL_by_19 : decode cL_by 19 = .ok (.ifCond .le 82, 3) := by decide +kernel
theorem dL_by_22 : decode cL_by 22 = .ok (.aload_n 2, 1) := by decide +kernel
theorem dL_by_23 : decode cL_by 23 = .ok (.iload 4, 2) := by decide +kernel
theorem dL_by_25 : decode cL_by 25 = .ok (.iaload, 1) := by decide +kernel
theorem dL_by_26 : decode cL_by 26 = .ok (.aload_n 2, 1) := by decide +kernel
theorem dL_by_27 : decode cL_by 27 = .ok (.iload 4, 2) := by decide +kernel
theorem dL_by_29 : decode cL_by 29 = .ok (.iload 5, 2) := by decide +kernel
theorem dL_by_31 : decode cL_by 31 = .ok (.iadd, 1) := by decide +kernel
theorem dL_by_32 : decode cL_by 32 = .ok (.iaload, 1) := by decide +kernel
theorem dL_by_33 : decode cL_by 33 = .ok (.aload_n 1, 1) := by decide +kernel
theorem dL_by_34 : decode cL_by 34 = .ok (.iconst 5, 1) := by decide +kernel
theorem dL_by_35 : decode cL_by 35 = .ok (.iaload, 1) := by decide +kernel
theorem dL_by_36 : decode cL_by 36 = .ok (.iadd, 1) := by decide +kernel
theorem dL_by_37 : decode cL_by 37 = .ok (.if_icmp .eq 64, 3) := by decide +kernel
theorem dL_by_40 : decode cL_by 40 = .ok (.iload 5, 2) := by decide +kernel
theorem dL_by_42 : decode cL_by 42 = .ok (.aload_n 1, 1) := by decide +kernel
theorem dL_by_43 : decode cL_by 43 = .ok (.iconst 2, 1) := by decide +kernel
theorem dL_by_44 : decode cL_by 44 = .ok (.iaload, 1) := by decide +kernel
theorem dL_by_45 : decode cL_by 45 = .ok (.if_icmp .le 10, 3) := by decide +kernel
theorem dL_by_48 : decode cL_by 48 = .ok (.iload 5, 2) := by decide +kernel
theorem dL_by_50 : decode cL_by 50 = .ok (.iconst 1, 1) := by decide +kernel
theorem dL_by_51 : decode cL_by 51 = .ok (.isub, 1) := by decide +kernel
theorem dL_by_52 : decode cL_by 52 = .ok (.goto 4, 3) := by decide +kernel
theorem dL_by_55 : decode cL_by 55 = .ok (.iconst 0, 1) := by decide +kernel
theorem dL_by_56 : decode cL_by 56 = .ok (.istore 5, 2) := by decide +kernel
theorem dL_by_58 : decode cL_by 58 = .ok (.goto (-41), 3) := by decide +kernel
theorem dL_by_61 : decode cL_by 61 = .ok (.iload_n 3, 1) := by decide +kernel
theorem dL_by_62 : decode cL_by 62 = .ok (.iconst 1, 1) := by decide +kernel
theorem dL_by_63 : decode cL_by 63 = .ok (.if_icmp .ne 38, 3) := by decide +kernel
theorem dL_by_66 : decode cL_by 66 = .ok (.iload 4, 2) := by decide +kernel
theorem dL_by_68 : decode cL_by 68 = .ok (.aload_n 1, 1) := by decide +kernel
theorem dL_by_69 : decode cL_by 69 = .ok (.iconst 0, 1) := by decide +kernel
theorem dL_by_70 : decode cL_by 70 = .ok (.iaload, 1) := by decide +kernel
theorem dL_by_71 : decode cL_by 71 = .ok (.iconst 1, 1) := by decide +kernel
theorem dL_by_72 : decode cL_by 72 = .ok (.isub, 1) := by decide +kernel
theorem dL_by_73 : decode cL_by 73 = .ok (.if_icmp .ge 28, 3) := by decide +kernel
theorem dL_by_76 : decode cL_by 76 = .ok (.aload_n 0, 1) := by decide +kernel
theorem dL_by_77 : decode cL_by 77 = .ok (.aload_n 1, 1) := by decide +kernel
theorem dL_by_78 : decode cL_by 78 = .ok (.iload 4, 2) := by decide +kernel
theorem dL_by_80 : decode cL_by 80 = .ok (.iconst 1, 1) := by decide +kernel
theorem dL_by_81 : decode cL_by 81 = .ok (.iadd, 1) := by decide +kernel
theorem dL_by_82 : decode cL_by 82 = .ok (.aload_n 1, 1) := by decide +kernel
theorem dL_by_83 : decode cL_by 83 = .ok (.iconst 1, 1) := by decide +kernel
theorem dL_by_84 : decode cL_by 84 = .ok (.iaload, 1) := by decide +kernel
theorem dL_by_85 : decode cL_by 85 = .ok (.invokestatic 16, 3) := by decide +kernel
theorem dL_by_88 : decode cL_by 88 = .ok (.iload 5, 2) := by decide +kernel
theorem dL_by_90 : decode cL_by 90 = .ok (.if_icmp .le 7, 3) := by decide +kernel
theorem dL_by_93 : decode cL_by 93 = .ok (.iconst 0, 1) := by decide +kernel
theorem dL_by_94 : decode cL_by 94 = .ok (.goto 5, 3) := by decide +kernel
theorem dL_by_97 : decode cL_by 97 = .ok (.iload 5, 2) := by decide +kernel
theorem dL_by_99 : decode cL_by 99 = .ok (.istore 5, 2) := by decide +kernel
theorem dL_by_101 : decode cL_by 101 = .ok (.iload 5, 2) := by decide +kernel
theorem dL_by_103 : decode cL_by 103 = .ok (.ireturn, 1) := by decide +kernel
theorem dL_pack_0 : decode cL_pack 0 = .ok (.bipush 41, 2) := by decide +kernel
theorem dL_pack_2 : decode cL_pack 2 = .ok (.newarray .int, 2) := by decide +kernel
theorem dL_pack_4 : decode cL_pack 4 = .ok (.astore 5, 2) := by decide +kernel
theorem dL_pack_6 : decode cL_pack 6 = .ok (.aload_n 0, 1) := by decide +kernel
theorem dL_pack_7 : decode cL_pack 7 = .ok (.aload_n 1, 1) := by decide +kernel
theorem dL_pack_8 : decode cL_pack 8 = .ok (.aload_n 1, 1) := by decide +kernel
theorem dL_pack_9 : decode cL_pack 9 = .ok (.iconst 1, 1) := by decide +kernel
theorem dL_pack_10 : decode cL_pack 10 = .ok (.iaload, 1) := by decide +kernel
theorem dL_pack_11 : decode cL_pack 11 = .ok (.aload 5, 2) := by decide +kernel
theorem dL_pack_13 : decode cL_pack 13 = .ok (.invokestatic 20, 3) := by decide +kernel
theorem dL_pack_16 : decode cL_pack 16 = .ok (.iconst 0, 1) := by decide +kernel
theorem dL_pack_17 : decode cL_pack 17 = .ok (.istore 6, 2) := by decide +kernel
theorem dL_pack_19 : decode cL_pack 19 = .ok (.iconst 0, 1) := by decide +kernel
theorem dL_pack_20 : decode cL_pack 20 = .ok (.istore 7, 2) := by decide +kernel
theorem dL_pack_22 : decode cL_pack 22 = .ok (.iconst 0, 1) := by decide +kernel
theorem dL_pack_23 : decode cL_pack 23 = .ok (.istore 8, 2) := by decide +kernel
theorem dL_pack_25 : decode cL_pack 25 = .ok (.iload 8, 2) := by decide +kernel
theorem dL_pack_27 : decode cL_pack 27 = .ok (.aload_n 1, 1) := by decide +kernel
theorem dL_pack_28 : decode cL_pack 28 = .ok (.iconst 0, 1) := by decide +kernel
theorem dL_pack_29 : decode cL_pack 29 = .ok (.iaload, 1) := by decide +kernel
theorem dL_pack_30 : decode cL_pack 30 = .ok (.if_icmp .ge 97, 3) := by decide +kernel
theorem dL_pack_33 : decode cL_pack 33 = .ok (.aload_n 0, 1) := by decide +kernel
theorem dL_pack_34 : decode cL_pack 34 = .ok (.aload_n 1, 1) := by decide +kernel
theorem dL_pack_35 : decode cL_pack 35 = .ok (.aload 5, 2) := by decide +kernel
theorem dL_pack_37 : decode cL_pack 37 = .ok (.iload_n 2, 1) := by decide +kernel
theorem dL_pack_38 : decode cL_pack 38 = .ok (.iload 8, 2) := by decide +kernel
theorem dL_pack_40 : decode cL_pack 40 = .ok (.invokestatic 24, 3) := by decide +kernel
theorem dL_pack_43 : decode cL_pack 43 = .ok (.istore 9, 2) := by decide +kernel
theorem dL_pack_45 : decode cL_pack 45 = .ok (.aload_n 3, 1) := by decide +kernel
theorem dL_pack_46 : decode cL_pack 46 = .ok (.iload 6, 2) := by decide +kernel
theorem dL_pack_48 : decode cL_pack 48 = .ok (.iload 9, 2) := by decide +kernel
theorem dL_pack_50 : decode cL_pack 50 = .ok (.ifCond .ne 7, 3) := by decide +kernel
theorem dL_pack_53 : decode cL_pack 53 = .ok (.iconst 0, 1) := by decide +kernel
theorem dL_pack_54 : decode cL_pack 54 = .ok (.goto 12, 3) := by decide +kernel
theorem dL_pack_57 : decode cL_pack 57 = .ok (.aload_n 0, 1) := by decide +kernel
theorem dL_pack_58 : decode cL_pack 58 = .ok (.aload_n 1, 1) := by decide +kernel
theorem dL_pack_59 : decode cL_pack 59 = .ok (.iload 8, 2) := by decide +kernel
theorem dL_pack_61 : decode cL_pack 61 = .ok (.iload 9, 2) := by decide +kernel
theorem dL_pack_63 : decode cL_pack 63 = .ok (.invokestatic 28, 3) := by decide +kernel
theorem dL_pack_66 : decode cL_pack 66 = .ok (.iastore, 1) := by decide +kernel
theorem dL_pack_67 : decode cL_pack 67 = .ok (.aload 4, 2) := by decide +kernel
theorem dL_pack_69 : decode cL_pack 69 = .ok (.iload 6, 2) := by decide +kernel
theorem dL_pack_71 : decode cL_pack 71 = .ok (.iload 9, 2) := by decide +kernel
theorem dL_pack_73 : decode cL_pack 73 = .ok (.ifCond .ne 10, 3) := by decide +kernel
theorem dL_pack_76 : decode cL_pack 76 = .ok (.aload_n 0, 1) := by decide +kernel
theorem dL_pack_77 : decode cL_pack 77 = .ok (.iload 8, 2) := by decide +kernel
theorem dL_pack_79 : decode cL_pack 79 = .ok (.iaload, 1) := by decide +kernel
theorem dL_pack_80 : decode cL_pack 80 = .ok (.goto 5, 3) := by decide +kernel
theorem dL_pack_83 : decode cL_pack 83 = .ok (.iload 9, 2) := by decide +kernel
theorem dL_pack_85 : decode cL_pack 85 = .ok (.iastore, 1) := by decide +kernel
theorem dL_pack_86 : decode cL_pack 86 = .ok (.iload 7, 2) := by decide +kernel
theorem dL_pack_88 : decode cL_pack 88 = .ok (.iload 9, 2) := by decide +kernel
theorem dL_pack_90 : decode cL_pack 90 = .ok (.ifCond .ne 9, 3) := by decide +kernel
theorem dL_pack_93 : decode cL_pack 93 = .ok (.aload_n 1, 1) := by decide +kernel
theorem dL_pack_94 : decode cL_pack 94 = .ok (.iconst 4, 1) := by decide +kernel
theorem dL_pack_95 : decode cL_pack 95 = .ok (.iaload, 1) := by decide +kernel
theorem dL_pack_96 : decode cL_pack 96 = .ok (.goto 6, 3) := by decide +kernel
theorem dL_pack_99 : decode cL_pack 99 = .ok (.aload_n 1, 1) := by decide +kernel
theorem dL_pack_100 : decode cL_pack 100 = .ok (.iconst 5, 1) := by decide +kernel
theorem dL_pack_101 : decode cL_pack 101 = .ok (.iaload, 1) := by decide +kernel
theorem dL_pack_102 : decode cL_pack 102 = .ok (.iadd, 1) := by decide +kernel
theorem dL_pack_103 : decode cL_pack 103 = .ok (.istore 7, 2) := by decide +kernel
theorem dL_pack_105 : decode cL_pack 105 = .ok (.iload 8, 2) := by decide +kernel
theorem dL_pack_107 : decode cL_pack 107 = .ok (.iload 9, 2) := by decide +kernel
theorem dL_pack_109 : decode cL_pack 109 = .ok (.ifCond .ne 7, 3) := by decide +kernel
theorem dL_pack_112 : decode cL_pack 112 = .ok (.iconst 1, 1) := by decide +kernel
theorem dL_pack_113 : decode cL_pack 113 = .ok (.goto 5, 3) := by decide +kernel
theorem dL_pack_116 : decode cL_pack 116 = .ok (.iload 9, 2) := by decide +kernel
theorem dL_pack_118 : decode cL_pack 118 = .ok (.iadd, 1) := by decide +kernel
theorem dL_pack_119 : decode cL_pack 119 = .ok (.istore 8, 2) := by decide +kernel
theorem dL_pack_121 : decode cL_pack 121 = .ok (.iinc 6 1, 3) := by decide +kernel
theorem dL_pack_124 : decode cL_pack 124 = .ok (.goto (-99), 3) := by decide +kernel
theorem dL_pack_127 : decode cL_pack 127 = .ok (.iload 6, 2) := by decide +kernel
theorem dL_pack_129 : decode cL_pack 129 = .ok (.sipush 1000, 3) := by decide +kernel
theorem dL_pack_132 : decode cL_pack 132 = .ok (.iload 7, 2) := by decide +kernel
theorem dL_pack_134 : decode cL_pack 134 = .ok (.imul, 1) := by decide +kernel
theorem dL_pack_135 : decode cL_pack 135 = .ok (.iadd, 1) := by decide +kernel
theorem dL_pack_136 : decode cL_pack 136 = .ok (.ireturn, 1) := by decide +kernel
theorem dL_unpack_0 : decode cL_unpack 0 = .ok (.iconst 0, 1) := by decide +kernel
theorem dL_unpack_1 : decode cL_unpack 1 = .ok (.istore 4, 2) := by decide +kernel
theorem dL_unpack_3 : decode cL_unpack 3 = .ok (.iconst 0, 1) := by decide +kernel
theorem dL_unpack_4 : decode cL_unpack 4 = .ok (.istore 5, 2) := by decide +kernel
theorem dL_unpack_6 : decode cL_unpack 6 = .ok (.iload 5, 2) := by decide +kernel
theorem dL_unpack_8 : decode cL_unpack 8 = .ok (.aload_n 2, 1) := by decide +kernel
theorem dL_unpack_9 : decode cL_unpack 9 = .ok (.bipush 6, 2) := by decide +kernel
theorem dL_unpack_11 : decode cL_unpack 11 = .ok (.iaload, 1) := by decide +kernel
theorem dL_unpack_12 : decode cL_unpack 12 = .ok (.if_icmp .ge 118, 3) := by decide +kernel
theorem dL_unpack_15 : decode cL_unpack 15 = .ok (.aload_n 0, 1) := by decide +kernel
theorem dL_unpack_16 : decode cL_unpack 16 = .ok (.iload 5, 2) := by decide +kernel
theorem dL_unpack_18 : decode cL_unpack 18 = .ok (.iaload, 1) := by decide +kernel
theorem dL_unpack_19 : decode cL_unpack 19 = .ok (.ifCond .ne 7, 3) := by decide +kernel
theorem dL_unpack_22 : decode cL_unpack 22 = .ok (.iconst 1, 1) := by decide +kernel
theorem dL_unpack_23 : decode cL_unpack 23 = .ok (.goto 7, 3) := by decide +kernel
theorem dL_unpack_26 : decode cL_unpack 26 = .ok (.aload_n 1, 1) := by decide +kernel
theorem dL_unpack_27 : decode cL_unpack 27 = .ok (.iload 5, 2) := by decide +kernel
theorem dL_unpack_29 : decode cL_unpack 29 = .ok (.iaload, 1) := by decide +kernel
theorem dL_unpack_30 : decode cL_unpack 30 = .ok (.istore 6, 2) := by decide +kernel
theorem dL_unpack_32 : decode cL_unpack 32 = .ok (.aload_n 0, 1) := by decide +kernel
theorem dL_unpack_33 : decode cL_unpack 33 = .ok (.iload 5, 2) := by decide +kernel
theorem dL_unpack_35 : decode cL_unpack 35 = .ok (.iaload, 1) := by decide +kernel
theorem dL_unpack_36 : decode cL_unpack 36 = .ok (.iload 4, 2) := by decide +kernel
theorem dL_unpack_38 : decode cL_unpack 38 = .ok (.if_icmp .le 7, 3) := by decide +kernel
theorem dL_unpack_41 : decode cL_unpack 41 = .ok (.iconst 1, 1) := by decide +kernel
theorem dL_unpack_42 : decode cL_unpack 42 = .ok (.goto 18, 3) := by decide +kernel
theorem dL_unpack_45 : decode cL_unpack 45 = .ok (.iload 4, 2) := by decide +kernel
theorem dL_unpack_47 : decode cL_unpack 47 = .ok (.iload 6, 2) := by decide +kernel
theorem dL_unpack_49 : decode cL_unpack 49 = .ok (.iadd, 1) := by decide +kernel
theorem dL_unpack_50 : decode cL_unpack 50 = .ok (.bipush 40, 2) := by decide +kernel
theorem dL_unpack_52 : decode cL_unpack 52 = .ok (.if_icmp .le 7, 3) := by decide +kernel
theorem dL_unpack_55 : decode cL_unpack 55 = .ok (.iconst 2, 1) := by decide +kernel
theorem dL_unpack_56 : decode cL_unpack 56 = .ok (.goto 4, 3) := by decide +kernel
theorem dL_unpack_59 : decode cL_unpack 59 = .ok (.iconst 0, 1) := by decide +kernel
theorem dL_unpack_60 : decode cL_unpack 60 = .ok (.istore 7, 2) := by decide +kernel
theorem dL_unpack_62 : decode cL_unpack 62 = .ok (.iload 7, 2) := by decide +kernel
theorem dL_unpack_64 : decode cL_unpack 64 = .ok (.ifCond .le 14, 3) := by decide +kernel
theorem dL_unpack_67 : decode cL_unpack 67 = .ok (.bipush (-10), 2) := by decide +kernel
theorem dL_unpack_69 : decode cL_unpack 69 = .ok (.iload 5, 2) := by decide +kernel
theorem dL_unpack_71 : decode cL_unpack 71 = .ok (.iconst 1, 1) := by decide +kernel
theorem dL_unpack_72 : decode cL_unpack 72 = .ok (.iadd, 1) := by decide +kernel
theorem dL_unpack_73 : decode cL_unpack 73 = .ok (.imul, 1) := by decide +kernel
theorem dL_unpack_74 : decode cL_unpack 74 = .ok (.iload 7, 2) := by decide +kernel
theorem dL_unpack_76 : decode cL_unpack 76 = .ok (.isub, 1) := by decide +kernel
theorem dL_unpack_77 : decode cL_unpack 77 = .ok (.ireturn, 1) := by decide +kernel
theorem dL_unpack_78 : decode cL_unpack 78 = .ok (.iconst 0, 1) := by decide +kernel
theorem dL_unpack_79 : decode cL_unpack 79 = .ok (.istore 8, 2) := by decide +kernel
theorem dL_unpack_81 : decode cL_unpack 81 = .ok (.iload 8, 2) := by decide +kernel
theorem dL_unpack_83 : decode cL_unpack 83 = .ok (.iload 6, 2) := by decide +kernel
theorem dL_unpack_85 : decode cL_unpack 85 = .ok (.if_icmp .ge 39, 3) := by decide +kernel
theorem dL_unpack_88 : decode cL_unpack 88 = .ok (.aload_n 3, 1) := by decide +kernel
theorem dL_unpack_89 : decode cL_unpack 89 = .ok (.iload 4, 2) := by decide +kernel
theorem dL_unpack_91 : decode cL_unpack 91 = .ok (.aload_n 0, 1) := by decide +kernel
theorem dL_unpack_92 : decode cL_unpack 92 = .ok (.iload 5, 2) := by decide +kernel
theorem dL_unpack_94 : decode cL_unpack 94 = .ok (.iaload, 1) := by decide +kernel
theorem dL_unpack_95 : decode cL_unpack 95 = .ok (.ifCond .ne 10, 3) := by decide +kernel
theorem dL_unpack_98 : decode cL_unpack 98 = .ok (.aload_n 1, 1) := by decide +kernel
theorem dL_unpack_99 : decode cL_unpack 99 = .ok (.iload 5, 2) := by decide +kernel
theorem dL_unpack_101 : decode cL_unpack 101 = .ok (.iaload, 1) := by decide +kernel
theorem dL_unpack_102 : decode cL_unpack 102 = .ok (.goto 12, 3) := by decide +kernel
theorem dL_unpack_105 : decode cL_unpack 105 = .ok (.aload_n 3, 1) := by decide +kernel
theorem dL_unpack_106 : decode cL_unpack 106 = .ok (.iload 4, 2) := by decide +kernel
theorem dL_unpack_108 : decode cL_unpack 108 = .ok (.aload_n 0, 1) := by decide +kernel
theorem dL_unpack_109 : decode cL_unpack 109 = .ok (.iload 5, 2) := by decide +kernel
theorem dL_unpack_111 : decode cL_unpack 111 = .ok (.iaload, 1) := by decide +kernel
theorem dL_unpack_112 : decode cL_unpack 112 = .ok (.isub, 1) := by decide +kernel
theorem dL_unpack_113 : decode cL_unpack 113 = .ok (.iaload, 1) := by decide +kernel
theorem dL_unpack_114 : decode cL_unpack 114 = .ok (.iastore, 1) := by decide +kernel
theorem dL_unpack_115 : decode cL_unpack 115 = .ok (.iinc 4 1, 3) := by decide +kernel
theorem dL_unpack_118 : decode cL_unpack 118 = .ok (.iinc 8 1, 3) := by decide +kernel
theorem dL_unpack_121 : decode cL_unpack 121 = .ok (.goto (-40), 3) := by decide +kernel
theorem dL_unpack_124 : decode cL_unpack 124 = .ok (.iinc 5 1, 3) := by decide +kernel
theorem dL_unpack_127 : decode cL_unpack 127 = .ok (.goto (-121), 3) := by decide +kernel
theorem dL_unpack_130 : decode cL_unpack 130 = .ok (.iload 4, 2) := by decide +kernel
theorem dL_unpack_132 : decode cL_unpack 132 = .ok (.ireturn, 1) := by decide +kernel
theorem dL_sack_0 : decode cL_sack 0 = .ok (.bipush 40, 2) := by decide +kernel
theorem dL_sack_2 : decode cL_sack 2 = .ok (.newarray .int, 2) := by decide +kernel
theorem dL_sack_4 : decode cL_sack 4 = .ok (.astore 5, 2) := by decide +kernel
theorem dL_sack_6 : decode cL_sack 6 = .ok (.iconst 0, 1) := by decide +kernel
theorem dL_sack_7 : decode cL_sack 7 = .ok (.istore 6, 2) := by decide +kernel
theorem dL_sack_9 : decode cL_sack 9 = .ok (.iconst 0, 1) := by decide +kernel
theorem dL_sack_10 : decode cL_sack 10 = .ok (.istore 7, 2) := by decide +kernel
theorem dL_sack_12 : decode cL_sack 12 = .ok (.iconst 0, 1) := by decide +kernel
theorem dL_sack_13 : decode cL_sack 13 = .ok (.istore 8, 2) := by decide +kernel
theorem dL_sack_15 : decode cL_sack 15 = .ok (.iload 8, 2) := by decide +kernel
theorem dL_sack_17 : decode cL_sack 17 = .ok (.aload 4, 2) := by decide +kernel
theorem dL_sack_19 : decode cL_sack 19 = .ok (.bipush 6, 2) := by decide +kernel
theorem dL_sack_21 : decode cL_sack 21 = .ok (.iaload, 1) := by decide +kernel
theorem dL_sack_22 : decode cL_sack 22 = .ok (.if_icmp .ge 135, 3) := by decide +kernel
theorem dL_sack_25 : decode cL_sack 25 = .ok (.iload 6, 2) := by decide +kernel
theorem dL_sack_27 : decode cL_sack 27 = .ok (.aload_n 2, 1) := by decide +kernel
theorem dL_sack_28 : decode cL_sack 28 = .ok (.iload 8, 2) := by decide +kernel
theorem dL_sack_30 : decode cL_sack 30 = .ok (.iaload, 1) := by decide +kernel
theorem dL_sack_31 : decode cL_sack 31 = .ok (.ifCond .ne 10, 3) := by decide +kernel
theorem dL_sack_34 : decode cL_sack 34 = .ok (.aload 4, 2) := by decide +kernel
theorem dL_sack_36 : decode cL_sack 36 = .ok (.iconst 4, 1) := by decide +kernel
theorem dL_sack_37 : decode cL_sack 37 = .ok (.iaload, 1) := by decide +kernel
theorem dL_sack_38 : decode cL_sack 38 = .ok (.goto 7, 3) := by decide +kernel
theorem dL_sack_41 : decode cL_sack 41 = .ok (.aload 4, 2) := by decide +kernel
theorem dL_sack_43 : decode cL_sack 43 = .ok (.iconst 5, 1) := by decide +kernel
theorem dL_sack_44 : decode cL_sack 44 = .ok (.iaload, 1) := by decide +kernel
theorem dL_sack_45 : decode cL_sack 45 = .ok (.iadd, 1) := by decide +kernel
theorem dL_sack_46 : decode cL_sack 46 = .ok (.istore 6, 2) := by decide +kernel
theorem dL_sack_48 : decode cL_sack 48 = .ok (.iload 7, 2) := by decide +kernel
theorem dL_sack_50 : decode cL_sack 50 = .ok (.aload_n 2, 1) := by decide +kernel
theorem dL_sack_51 : decode cL_sack 51 = .ok (.iload 8, 2) := by decide +kernel
theorem dL_sack_53 : decode cL_sack 53 = .ok (.iaload, 1) := by decide +kernel
theorem dL_sack_54 : decode cL_sack 54 = .ok (.ifCond .ne 7, 3) := by decide +kernel
theorem dL_sack_57 : decode cL_sack 57 = .ok (.iconst 1, 1) := by decide +kernel
theorem dL_sack_58 : decode cL_sack 58 = .ok (.goto 7, 3) := by decide +kernel
theorem dL_sack_61 : decode cL_sack 61 = .ok (.aload_n 3, 1) := by decide +kernel
theorem dL_sack_62 : decode cL_sack 62 = .ok (.iload 8, 2) := by decide +kernel
theorem dL_sack_64 : decode cL_sack 64 = .ok (.iaload, 1) := by decide +kernel
theorem dL_sack_65 : decode cL_sack 65 = .ok (.iadd, 1) := by decide +kernel
theorem dL_sack_66 : decode cL_sack 66 = .ok (.istore 7, 2) := by decide +kernel
theorem dL_sack_68 : decode cL_sack 68 = .ok (.aload_n 0, 1) := by decide +kernel
theorem dL_sack_69 : decode cL_sack 69 = .ok (.iload 8, 2) := by decide +kernel
theorem dL_sack_71 : decode cL_sack 71 = .ok (.invokevirtual 31, 3) := by decide +kernel
theorem dL_sack_74 : decode cL_sack 74 = .ok (.aload_n 2, 1) := by decide +kernel
theorem dL_sack_75 : decode cL_sack 75 = .ok (.iload 8, 2) := by decide +kernel
theorem dL_sack_77 : decode cL_sack 77 = .ok (.iaload, 1) := by decide +kernel
theorem dL_sack_78 : decode cL_sack 78 = .ok (.ifCond .le 7, 3) := by decide +kernel
theorem dL_sack_81 : decode cL_sack 81 = .ok (.iconst 1, 1) := by decide +kernel
theorem dL_sack_82 : decode cL_sack 82 = .ok (.goto 4, 3) := by decide +kernel
theorem dL_sack_85 : decode cL_sack 85 = .ok (.iconst 0, 1) := by decide +kernel
theorem dL_sack_86 : decode cL_sack 86 = .ok (.if_icmp .ne 63, 3) := by decide +kernel
theorem dL_sack_89 : decode cL_sack 89 = .ok (.aload_n 0, 1) := by decide +kernel
theorem dL_sack_90 : decode cL_sack 90 = .ok (.iload 8, 2) := by decide +kernel
theorem dL_sack_92 : decode cL_sack 92 = .ok (.invokevirtual 36, 3) := by decide +kernel
theorem dL_sack_95 : decode cL_sack 95 = .ok (.aload_n 2, 1) := by decide +kernel
theorem dL_sack_96 : decode cL_sack 96 = .ok (.iload 8, 2) := by decide +kernel
theorem dL_sack_98 : decode cL_sack 98 = .ok (.iaload, 1) := by decide +kernel
theorem dL_sack_99 : decode cL_sack 99 = .ok (.ifCond .ne 7, 3) := by decide +kernel
theorem dL_sack_102 : decode cL_sack 102 = .ok (.iconst 1, 1) := by decide +kernel
theorem dL_sack_103 : decode cL_sack 103 = .ok (.goto 7, 3) := by decide +kernel
theorem dL_sack_106 : decode cL_sack 106 = .ok (.aload_n 3, 1) := by decide +kernel
theorem dL_sack_107 : decode cL_sack 107 = .ok (.iload 8, 2) := by decide +kernel
theorem dL_sack_109 : decode cL_sack 109 = .ok (.iaload, 1) := by decide +kernel
theorem dL_sack_110 : decode cL_sack 110 = .ok (.if_icmp .ne 39, 3) := by decide +kernel
theorem dL_sack_113 : decode cL_sack 113 = .ok (.aload_n 2, 1) := by decide +kernel
theorem dL_sack_114 : decode cL_sack 114 = .ok (.iload 8, 2) := by decide +kernel
theorem dL_sack_116 : decode cL_sack 116 = .ok (.iaload, 1) := by decide +kernel
theorem dL_sack_117 : decode cL_sack 117 = .ok (.ifCond .ne 19, 3) := by decide +kernel
theorem dL_sack_120 : decode cL_sack 120 = .ok (.aload_n 0, 1) := by decide +kernel
theorem dL_sack_121 : decode cL_sack 121 = .ok (.iload 8, 2) := by decide +kernel
theorem dL_sack_123 : decode cL_sack 123 = .ok (.invokevirtual 40, 3) := by decide +kernel
theorem dL_sack_126 : decode cL_sack 126 = .ok (.aload_n 3, 1) := by decide +kernel
theorem dL_sack_127 : decode cL_sack 127 = .ok (.iload 8, 2) := by decide +kernel
theorem dL_sack_129 : decode cL_sack 129 = .ok (.iaload, 1) := by decide +kernel
theorem dL_sack_130 : decode cL_sack 130 = .ok (.if_icmp .eq 21, 3) := by decide +kernel
theorem dL_sack_133 : decode cL_sack 133 = .ok (.goto 16, 3) := by decide +kernel
theorem dL_sack_136 : decode cL_sack 136 = .ok (.aload_n 0, 1) := by decide +kernel
theorem dL_sack_137 : decode cL_sack 137 = .ok (.iload 8, 2) := by decide +kernel
theorem dL_sack_139 : decode cL_sack 139 = .ok (.invokevirtual 43, 3) := by decide +kernel
theorem dL_sack_142 : decode cL_sack 142 = .ok (.aload_n 2, 1) := by decide +kernel
theorem dL_sack_143 : decode cL_sack 143 = .ok (.iload 8, 2) := by decide +kernel
theorem dL_sack_145 : decode cL_sack 145 = .ok (.iaload, 1) := by decide +kernel
theorem dL_sack_146 : decode cL_sack 146 = .ok (.if_icmp .eq 5, 3) := by decide +kernel
theorem dL_sack_149 : decode cL_sack 149 = .ok (.iconst 0, 1) := by decide +kernel
theorem dL_sack_150 : decode cL_sack 150 = .ok (.ireturn, 1) := by decide +kernel
theorem dL_sack_151 : decode cL_sack 151 = .ok (.iinc 8 1, 3) := by decide +kernel
theorem dL_sack_154 : decode cL_sack 154 = .ok (.goto (-139), 3) := by decide +kernel
theorem dL_sack_157 : decode cL_sack 157 = .ok (.aload_n 2, 1) := by decide +kernel
theorem dL_sack_158 : decode cL_sack 158 = .ok (.aload_n 3, 1) := by decide +kernel
theorem dL_sack_159 : decode cL_sack 159 = .ok (.aload 4, 2) := by decide +kernel
theorem dL_sack_161 : decode cL_sack 161 = .ok (.aload 5, 2) := by decide +kernel
theorem dL_sack_163 : decode cL_sack 163 = .ok (.invokestatic 46, 3) := by decide +kernel
theorem dL_sack_166 : decode cL_sack 166 = .ok (.istore 8, 2) := by decide +kernel
theorem dL_sack_168 : decode cL_sack 168 = .ok (.iload 8, 2) := by decide +kernel
theorem dL_sack_170 : decode cL_sack 170 = .ok (.aload 4, 2) := by decide +kernel
theorem dL_sack_172 : decode cL_sack 172 = .ok (.iconst 0, 1) := by decide +kernel
theorem dL_sack_173 : decode cL_sack 173 = .ok (.iaload, 1) := by decide +kernel
theorem dL_sack_174 : decode cL_sack 174 = .ok (.if_icmp .ne 7, 3) := by decide +kernel
theorem dL_sack_177 : decode cL_sack 177 = .ok (.iconst 1, 1) := by decide +kernel
theorem dL_sack_178 : decode cL_sack 178 = .ok (.goto 4, 3) := by decide +kernel
theorem dL_sack_181 : decode cL_sack 181 = .ok (.iconst 0, 1) := by decide +kernel
theorem dL_sack_182 : decode cL_sack 182 = .ok (.istore 9, 2) := by decide +kernel
theorem dL_sack_184 : decode cL_sack 184 = .ok (.iconst 0, 1) := by decide +kernel
theorem dL_sack_185 : decode cL_sack 185 = .ok (.istore 10, 2) := by decide +kernel
theorem dL_sack_187 : decode cL_sack 187 = .ok (.iload 10, 2) := by decide +kernel
theorem dL_sack_189 : decode cL_sack 189 = .ok (.aload 4, 2) := by decide +kernel
theorem dL_sack_191 : decode cL_sack 191 = .ok (.iconst 0, 1) := by decide +kernel
theorem dL_sack_192 : decode cL_sack 192 = .ok (.iaload, 1) := by decide +kernel
theorem dL_sack_193 : decode cL_sack 193 = .ok (.if_icmp .ge 33, 3) := by decide +kernel
theorem dL_sack_196 : decode cL_sack 196 = .ok (.iload 9, 2) := by decide +kernel
theorem dL_sack_198 : decode cL_sack 198 = .ok (.ifCond .eq 28, 3) := by decide +kernel
theorem dL_sack_201 : decode cL_sack 201 = .ok (.aload 5, 2) := by decide +kernel
theorem dL_sack_203 : decode cL_sack 203 = .ok (.iload 10, 2) := by decide +kernel
theorem dL_sack_205 : decode cL_sack 205 = .ok (.iaload, 1) := by decide +kernel
theorem dL_sack_206 : decode cL_sack 206 = .ok (.aload_n 1, 1) := by decide +kernel
theorem dL_sack_207 : decode cL_sack 207 = .ok (.iload 10, 2) := by decide +kernel
theorem dL_sack_209 : decode cL_sack 209 = .ok (.iaload, 1) := by decide +kernel
theorem dL_sack_210 : decode cL_sack 210 = .ok (.if_icmp .ne 7, 3) := by decide +kernel
theorem dL_sack_213 : decode cL_sack 213 = .ok (.iconst 1, 1) := by decide +kernel
theorem dL_sack_214 : decode cL_sack 214 = .ok (.goto 4, 3) := by decide +kernel
theorem dL_sack_217 : decode cL_sack 217 = .ok (.iconst 0, 1) := by decide +kernel
theorem dL_sack_218 : decode cL_sack 218 = .ok (.istore 9, 2) := by decide +kernel
theorem dL_sack_220 : decode cL_sack 220 = .ok (.iinc 10 1, 3) := by decide +kernel
theorem dL_sack_223 : decode cL_sack 223 = .ok (.goto (-36), 3) := by decide +kernel
theorem dL_sack_226 : decode cL_sack 226 = .ok (.aload_n 0, 1) := by decide +kernel
theorem dL_sack_227 : decode cL_sack 227 = .ok (.invokevirtual 50, 3) := by decide +kernel
theorem dL_sack_230 : decode cL_sack 230 = .ok (.aload 4, 2) := by decide +kernel
theorem dL_sack_232 : decode cL_sack 232 = .ok (.bipush 6, 2) := by decide +kernel
theorem dL_sack_234 : decode cL_sack 234 = .ok (.iaload, 1) := by decide +kernel
theorem dL_sack_235 : decode cL_sack 235 = .ok (.if_icmp .ne 80, 3) := by decide +kernel
theorem dL_sack_238 : decode cL_sack 238 = .ok (.aload_n 0, 1) := by decide +kernel
theorem dL_sack_239 : decode cL_sack 239 = .ok (.invokevirtual 54, 3) := by decide +kernel
theorem dL_sack_242 : decode cL_sack 242 = .ok (.iload 6, 2) := by decide +kernel
theorem dL_sack_244 : decode cL_sack 244 = .ok (.if_icmp .ne 71, 3) := by decide +kernel
theorem dL_sack_247 : decode cL_sack 247 = .ok (.aload_n 0, 1) := by decide +kernel
theorem dL_sack_248 : decode cL_sack 248 = .ok (.invokevirtual 57, 3) := by decide +kernel
theorem dL_sack_251 : decode cL_sack 251 = .ok (.iload 7, 2) := by decide +kernel
theorem dL_sack_253 : decode cL_sack 253 = .ok (.if_icmp .ne 62, 3) := by decide +kernel
theorem dL_sack_256 : decode cL_sack 256 = .ok (.aload_n 0, 1) := by decide +kernel
theorem dL_sack_257 : decode cL_sack 257 = .ok (.invokevirtual 60, 3) := by decide +kernel
theorem dL_sack_260 : decode cL_sack 260 = .ok (.iload 9, 2) := by decide +kernel
theorem dL_sack_262 : decode cL_sack 262 = .ok (.if_icmp .ne 53, 3) := by decide +kernel
theorem dL_sack_265 : decode cL_sack 265 = .ok (.aload_n 0, 1) := by decide +kernel
theorem dL_sack_266 : decode cL_sack 266 = .ok (.invokevirtual 64, 3) := by decide +kernel
theorem dL_sack_269 : decode cL_sack 269 = .ok (.iload 8, 2) := by decide +kernel
theorem dL_sack_271 : decode cL_sack 271 = .ok (.ifCond .ge 14, 3) := by decide +kernel
theorem dL_sack_274 : decode cL_sack 274 = .ok (.iload 8, 2) := by decide +kernel
theorem dL_sack_276 : decode cL_sack 276 = .ok (.ineg, 1) := by decide +kernel
theorem dL_sack_277 : decode cL_sack 277 = .ok (.bipush 10, 2) := by decide +kernel
theorem dL_sack_279 : decode cL_sack 279 = .ok (.idiv, 1) := by decide +kernel
theorem dL_sack_280 : decode cL_sack 280 = .ok (.iconst 1, 1) := by decide +kernel
theorem dL_sack_281 : decode cL_sack 281 = .ok (.isub, 1) := by decide +kernel
theorem dL_sack_282 : decode cL_sack 282 = .ok (.goto 4, 3) := by decide +kernel
theorem dL_sack_285 : decode cL_sack 285 = .ok (.iconst (-1), 1) := by decide +kernel
theorem dL_sack_286 : decode cL_sack 286 = .ok (.if_icmp .ne 29, 3) := by decide +kernel
theorem dL_sack_289 : decode cL_sack 289 = .ok (.aload_n 0, 1) := by decide +kernel
theorem dL_sack_290 : decode cL_sack 290 = .ok (.invokevirtual 67, 3) := by decide +kernel
theorem dL_sack_293 : decode cL_sack 293 = .ok (.iload 8, 2) := by decide +kernel
theorem dL_sack_295 : decode cL_sack 295 = .ok (.ifCond .ge 12, 3) := by decide +kernel
theorem dL_sack_298 : decode cL_sack 298 = .ok (.iload 8, 2) := by decide +kernel
theorem dL_sack_300 : decode cL_sack 300 = .ok (.ineg, 1) := by decide +kernel
theorem dL_sack_301 : decode cL_sack 301 = .ok (.bipush 10, 2) := by decide +kernel
theorem dL_sack_303 : decode cL_sack 303 = .ok (.irem, 1) := by decide +kernel
theorem dL_sack_304 : decode cL_sack 304 = .ok (.goto 4, 3) := by decide +kernel
theorem dL_sack_307 : decode cL_sack 307 = .ok (.iconst 0, 1) := by decide +kernel
theorem dL_sack_308 : decode cL_sack 308 = .ok (.if_icmp .ne 7, 3) := by decide +kernel
theorem dL_sack_311 : decode cL_sack 311 = .ok (.iconst 1, 1) := by decide +kernel
theorem dL_sack_312 : decode cL_sack 312 = .ok (.goto 4, 3) := by decide +kernel
theorem dL_sack_315 : decode cL_sack 315 = .ok (.iconst 0, 1) := by decide +kernel
theorem dL_sack_316 : decode cL_sack 316 = .ok (.istore 10, 2) := by decide +kernel
theorem dL_sack_318 : decode cL_sack 318 = .ok (.iload 10, 2) := by decide +kernel
theorem dL_sack_320 : decode cL_sack 320 = .ok (.ifCond .eq 47, 3) := by decide +kernel
theorem dL_sack_323 : decode cL_sack 323 = .ok (.aload 4, 2) := by decide +kernel
theorem dL_sack_325 : decode cL_sack 325 = .ok (.bipush 6, 2) := by decide +kernel
theorem dL_sack_327 : decode cL_sack 327 = .ok (.iaload, 1) := by decide +kernel
theorem dL_sack_328 : decode cL_sack 328 = .ok (.ifCond .ne 15, 3) := by decide +kernel
theorem dL_sack_331 : decode cL_sack 331 = .ok (.aload_n 0, 1) := by decide +kernel
theorem dL_sack_332 : decode cL_sack 332 = .ok (.invokevirtual 70, 3) := by decide +kernel
theorem dL_sack_335 : decode cL_sack 335 = .ok (.dconst 1, 1) := by decide +kernel
theorem dL_sack_336 : decode cL_sack 336 = .ok (.dcmp .l, 1) := by decide +kernel
theorem dL_sack_337 : decode cL_sack 337 = .ok (.ifCond .ne 30, 3) := by decide +kernel
theorem dL_sack_340 : decode cL_sack 340 = .ok (.goto 23, 3) := by decide +kernel
theorem dL_sack_343 : decode cL_sack 343 = .ok (.aload_n 0, 1) := by decide +kernel
theorem dL_sack_344 : decode cL_sack 344 = .ok (.invokevirtual 70, 3) := by decide +kernel
theorem dL_sack_347 : decode cL_sack 347 = .ok (.iload 6, 2) := by decide +kernel
theorem dL_sack_349 : decode cL_sack 349 = .ok (.i2d, 1) := by decide +kernel
theorem dL_sack_350 : decode cL_sack 350 = .ok (.aload 4, 2) := by decide +kernel
theorem dL_sack_352 : decode cL_sack 352 = .ok (.iconst 4, 1) := by decide +kernel
theorem dL_sack_353 : decode cL_sack 353 = .ok (.iaload, 1) := by decide +kernel
theorem dL_sack_354 : decode cL_sack 354 = .ok (.iload 7, 2) := by decide +kernel
theorem dL_sack_356 : decode cL_sack 356 = .ok (.imul, 1) := by decide +kernel
theorem dL_sack_357 : decode cL_sack 357 = .ok (.i2d, 1) := by decide +kernel
theorem dL_sack_358 : decode cL_sack 358 = .ok (.ddiv, 1) := by decide +kernel
theorem dL_sack_359 : decode cL_sack 359 = .ok (.dcmp .l, 1) := by decide +kernel
theorem dL_sack_360 : decode cL_sack 360 = .ok (.ifCond .ne 7, 3) := by decide +kernel
theorem dL_sack_363 : decode cL_sack 363 = .ok (.iconst 1, 1) := by decide +kernel
theorem dL_sack_364 : decode cL_sack 364 = .ok (.goto 4, 3) := by decide +kernel
theorem dL_sack_367 : decode cL_sack 367 = .ok (.iconst 0, 1) := by decide +kernel
theorem dL_sack_368 : decode cL_sack 368 = .ok (.ireturn, 1) := by decide +kernel
theorem dL_text_0 : decode cL_text 0 = .ok (.iconst 0, 1) := by decide +kernel
theorem dL_text_1 : decode cL_text 1 = .ok (.istore_n 3, 1) := by decide +kernel
theorem dL_text_2 : decode cL_text 2 = .ok (.iload_n 3, 1) := by decide +kernel
theorem dL_text_3 : decode cL_text 3 = .ok (.aload_n 2, 1) := by decide +kernel
theorem dL_text_4 : decode cL_text 4 = .ok (.iconst 0, 1) := by decide +kernel
theorem dL_text_5 : decode cL_text 5 = .ok (.iaload, 1) := by decide +kernel
theorem dL_text_6 : decode cL_text 6 = .ok (.if_icmp .ge 78, 3) := by decide +kernel
theorem dL_text_9 : decode cL_text 9 = .ok (.aload_n 1, 1) := by decide +kernel
theorem dL_text_10 : decode cL_text 10 = .ok (.aload_n 2, 1) := by decide +kernel
theorem dL_text_11 : decode cL_text 11 = .ok (.iload_n 3, 1) := by decide +kernel
theorem dL_text_12 : decode cL_text 12 = .ok (.aload_n 2, 1) := by decide +kernel
theorem dL_text_13 : decode cL_text 13 = .ok (.iconst 1, 1) := by decide +kernel
theorem dL_text_14 : decode cL_text 14 = .ok (.iaload, 1) := by decide +kernel
theorem dL_text_15 : decode cL_text 15 = .ok (.invokestatic 16, 3) := by decide +kernel
theorem dL_text_18 : decode cL_text 18 = .ok (.istore 4, 2) := by decide +kernel
theorem dL_text_20 : decode cL_text 20 = .ok (.aload_n 0, 1) := by decide +kernel
theorem dL_text_21 : decode cL_text 21 = .ok (.iload_n 3, 1) := by decide +kernel
theorem dL_text_22 : decode cL_text 22 = .ok (.invokevirtual 74, 3) := by decide +kernel
theorem dL_text_25 : decode cL_text 25 = .ok (.aload_n 1, 1) := by decide +kernel
theorem dL_text_26 : decode cL_text 26 = .ok (.iload_n 3, 1) := by decide +kernel
theorem dL_text_27 : decode cL_text 27 = .ok (.iaload, 1) := by decide +kernel
theorem dL_text_28 : decode cL_text 28 = .ok (.if_icmp .ne 48, 3) := by decide +kernel
theorem dL_text_31 : decode cL_text 31 = .ok (.aload_n 0, 1) := by decide +kernel
theorem dL_text_32 : decode cL_text 32 = .ok (.iload_n 3, 1) := by decide +kernel
theorem dL_text_33 : decode cL_text 33 = .ok (.invokevirtual 77, 3) := by decide +kernel
theorem dL_text_36 : decode cL_text 36 = .ok (.iload 4, 2) := by decide +kernel
theorem dL_text_38 : decode cL_text 38 = .ok (.if_icmp .ne 38, 3) := by decide +kernel
theorem dL_text_41 : decode cL_text 41 = .ok (.aload_n 0, 1) := by decide +kernel
theorem dL_text_42 : decode cL_text 42 = .ok (.iload_n 3, 1) := by decide +kernel
theorem dL_text_43 : decode cL_text 43 = .ok (.invokevirtual 80, 3) := by decide +kernel
theorem dL_text_46 : decode cL_text 46 = .ok (.iload 4, 2) := by decide +kernel
theorem dL_text_48 : decode cL_text 48 = .ok (.if_icmp .ne 28, 3) := by decide +kernel
theorem dL_text_51 : decode cL_text 51 = .ok (.aload_n 0, 1) := by decide +kernel
theorem dL_text_52 : decode cL_text 52 = .ok (.iload_n 3, 1) := by decide +kernel
theorem dL_text_53 : decode cL_text 53 = .ok (.invokevirtual 83, 3) := by decide +kernel
theorem dL_text_56 : decode cL_text 56 = .ok (.iload 4, 2) := by decide +kernel
theorem dL_text_58 : decode cL_text 58 = .ok (.ifCond .ne 7, 3) := by decide +kernel
theorem dL_text_61 : decode cL_text 61 = .ok (.iconst 0, 1) := by decide +kernel
theorem dL_text_62 : decode cL_text 62 = .ok (.goto 11, 3) := by decide +kernel
theorem dL_text_65 : decode cL_text 65 = .ok (.aload_n 1, 1) := by decide +kernel
theorem dL_text_66 : decode cL_text 66 = .ok (.aload_n 2, 1) := by decide +kernel
theorem dL_text_67 : decode cL_text 67 = .ok (.iload_n 3, 1) := by decide +kernel
theorem dL_text_68 : decode cL_text 68 = .ok (.iload 4, 2) := by decide +kernel
theorem dL_text_70 : decode cL_text 70 = .ok (.invokestatic 28, 3) := by decide +kernel
theorem dL_text_73 : decode cL_text 73 = .ok (.if_icmp .eq 5, 3) := by decide +kernel
theorem dL_text_76 : decode cL_text 76 = .ok (.iconst 0, 1) := by decide +kernel
theorem dL_text_77 : decode cL_text 77 = .ok (.ireturn, 1) := by decide +kernel
theorem dL_text_78 : decode cL_text 78 = .ok (.iinc 3 1, 3) := by decide +kernel
theorem dL_text_81 : decode cL_text 81 = .ok (.goto (-79), 3) := by decide +kernel
theorem dL_text_84 : decode cL_text 84 = .ok (.iconst 0, 1) := by decide +kernel
theorem dL_text_85 : decode cL_text 85 = .ok (.istore_n 3, 1) := by decide +kernel
theorem dL_text_86 : decode cL_text 86 = .ok (.iconst (-1), 1) := by decide +kernel
theorem dL_text_87 : decode cL_text 87 = .ok (.istore 4, 2) := by decide +kernel
theorem dL_text_89 : decode cL_text 89 = .ok (.iconst 0, 1) := by decide +kernel
theorem dL_text_90 : decode cL_text 90 = .ok (.istore 5, 2) := by decide +kernel
theorem dL_text_92 : decode cL_text 92 = .ok (.iload 5, 2) := by decide +kernel
theorem dL_text_94 : decode cL_text 94 = .ok (.bipush 16, 2) := by decide +kernel
theorem dL_text_96 : decode cL_text 96 = .ok (.if_icmp .ge 146, 3) := by decide +kernel
theorem dL_text_99 : decode cL_text 99 = .ok (.iconst 0, 1) := by decide +kernel
theorem dL_text_100 : decode cL_text 100 = .ok (.istore 6, 2) := by decide +kernel
theorem dL_text_102 : decode cL_text 102 = .ok (.iconst (-1), 1) := by decide +kernel
theorem dL_text_103 : decode cL_text 103 = .ok (.istore 7, 2) := by decide +kernel
theorem dL_text_105 : decode cL_text 105 = .ok (.iconst 1, 1) := by decide +kernel
theorem dL_text_106 : decode cL_text 106 = .ok (.istore 8, 2) := by decide +kernel
theorem dL_text_108 : decode cL_text 108 = .ok (.iload 8, 2) := by decide +kernel
theorem dL_text_110 : decode cL_text 110 = .ok (.aload_n 2, 1) := by decide +kernel
theorem dL_text_111 : decode cL_text 111 = .ok (.iconst 0, 1) := by decide +kernel
theorem dL_text_112 : decode cL_text 112 = .ok (.iaload, 1) := by decide +kernel
theorem dL_text_113 : decode cL_text 113 = .ok (.if_icmp .ge 71, 3) := by decide +kernel
theorem dL_text_116 : decode cL_text 116 = .ok (.aload_n 1, 1) := by decide +kernel
theorem dL_text_117 : decode cL_text 117 = .ok (.iload 8, 2) := by decide +kernel
theorem dL_text_119 : decode cL_text 119 = .ok (.iconst 1, 1) := by decide +kernel
theorem dL_text_120 : decode cL_text 120 = .ok (.isub, 1) := by decide +kernel
theorem dL_text_121 : decode cL_text 121 = .ok (.iaload, 1) := by decide +kernel
theorem dL_text_122 : decode cL_text 122 = .ok (.iload 5, 2) := by decide +kernel
theorem dL_text_124 : decode cL_text 124 = .ok (.iconst 4, 1) := by decide +kernel
theorem dL_text_125 : decode cL_text 125 = .ok (.idiv, 1) := by decide +kernel
theorem dL_text_126 : decode cL_text 126 = .ok (.if_icmp .ne 18, 3) := by decide +kernel
theorem dL_text_129 : decode cL_text 129 = .ok (.aload_n 1, 1) := by decide +kernel
theorem dL_text_130 : decode cL_text 130 = .ok (.iload 8, 2) := by decide +kernel
theorem dL_text_132 : decode cL_text 132 = .ok (.iaload, 1) := by decide +kernel
theorem dL_text_133 : decode cL_text 133 = .ok (.iload 5, 2) := by decide +kernel
theorem dL_text_135 : decode cL_text 135 = .ok (.iconst 4, 1) := by decide +kernel
theorem dL_text_136 : decode cL_text 136 = .ok (.irem, 1) := by decide +kernel
theorem dL_text_137 : decode cL_text 137 = .ok (.if_icmp .ne 7, 3) := by decide +kernel
theorem dL_text_140 : decode cL_text 140 = .ok (.iconst 1, 1) := by decide +kernel
theorem dL_text_141 : decode cL_text 141 = .ok (.goto 4, 3) := by decide +kernel
theorem dL_text_144 : decode cL_text 144 = .ok (.iconst 0, 1) := by decide +kernel
theorem dL_text_145 : decode cL_text 145 = .ok (.istore 9, 2) := by decide +kernel
theorem dL_text_147 : decode cL_text 147 = .ok (.iload 6, 2) := by decide +kernel
theorem dL_text_149 : decode cL_text 149 = .ok (.iload 9, 2) := by decide +kernel
theorem dL_text_151 : decode cL_text 151 = .ok (.ifCond .eq 7, 3) := by decide +kernel
theorem dL_text_154 : decode cL_text 154 = .ok (.iconst 1, 1) := by decide +kernel
theorem dL_text_155 : decode cL_text 155 = .ok (.goto 4, 3) := by decide +kernel
theorem dL_text_158 : decode cL_text 158 = .ok (.iconst 0, 1) := by decide +kernel
theorem dL_text_159 : decode cL_text 159 = .ok (.iadd, 1) := by decide +kernel
theorem dL_text_160 : decode cL_text 160 = .ok (.istore 6, 2) := by decide +kernel
theorem dL_text_162 : decode cL_text 162 = .ok (.iload 9, 2) := by decide +kernel
theorem dL_text_164 : decode cL_text 164 = .ok (.ifCond .eq 10, 3) := by decide +kernel
theorem dL_text_167 : decode cL_text 167 = .ok (.iload 8, 2) := by decide +kernel
theorem dL_text_169 : decode cL_text 169 = .ok (.iconst 1, 1) := by decide +kernel
theorem dL_text_170 : decode cL_text 170 = .ok (.isub, 1) := by decide +kernel
theorem dL_text_171 : decode cL_text 171 = .ok (.goto 5, 3) := by decide +kernel
theorem dL_text_174 : decode cL_text 174 = .ok (.iload 7, 2) := by decide +kernel
theorem dL_text_176 : decode cL_text 176 = .ok (.istore 7, 2) := by decide +kernel
theorem dL_text_178 : decode cL_text 178 = .ok (.iinc 8 1, 3) := by decide +kernel
theorem dL_text_181 : decode cL_text 181 = .ok (.goto (-73), 3) := by decide +kernel
theorem dL_text_184 : decode cL_text 184 = .ok (.iload 6, 2) := by decide +kernel
theorem dL_text_186 : decode cL_text 186 = .ok (.iload_n 3, 1) := by decide +kernel
theorem dL_text_187 : decode cL_text 187 = .ok (.if_icmp .le 8, 3) := by decide +kernel
theorem dL_text_190 : decode cL_text 190 = .ok (.iload 5, 2) := by decide +kernel
theorem dL_text_192 : decode cL_text 192 = .ok (.goto 5, 3) := by decide +kernel
theorem dL_text_195 : decode cL_text 195 = .ok (.iload 4, 2) := by decide +kernel
theorem dL_text_197 : decode cL_text 197 = .ok (.istore 4, 2) := by decide +kernel
theorem dL_text_199 : decode cL_text 199 = .ok (.iload 6, 2) := by decide +kernel
theorem dL_text_201 : decode cL_text 201 = .ok (.iload_n 3, 1) := by decide +kernel
theorem dL_text_202 : decode cL_text 202 = .ok (.if_icmp .le 8, 3) := by decide +kernel
theorem dL_text_205 : decode cL_text 205 = .ok (.iload 6, 2) := by decide +kernel
theorem dL_text_207 : decode cL_text 207 = .ok (.goto 4, 3) := by decide +kernel
theorem dL_text_210 : decode cL_text 210 = .ok (.iload_n 3, 1) := by decide +kernel
theorem dL_text_211 : decode cL_text 211 = .ok (.istore_n 3, 1) := by decide +kernel
theorem dL_text_212 : decode cL_text 212 = .ok (.aload_n 0, 1) := by decide +kernel
theorem dL_text_213 : decode cL_text 213 = .ok (.iload 5, 2) := by decide +kernel
theorem dL_text_215 : decode cL_text 215 = .ok (.invokevirtual 86, 3) := by decide +kernel
theorem dL_text_218 : decode cL_text 218 = .ok (.iload 6, 2) := by decide +kernel
theorem dL_text_220 : decode cL_text 220 = .ok (.if_icmp .ne 14, 3) := by decide +kernel
theorem dL_text_223 : decode cL_text 223 = .ok (.aload_n 0, 1) := by decide +kernel
theorem dL_text_224 : decode cL_text 224 = .ok (.iload 5, 2) := by decide +kernel
theorem dL_text_226 : decode cL_text 226 = .ok (.invokevirtual 89, 3) := by decide +kernel
theorem dL_text_229 : decode cL_text 229 = .ok (.iload 7, 2) := by decide +kernel
theorem dL_text_231 : decode cL_text 231 = .ok (.if_icmp .eq 5, 3) := by decide +kernel
theorem dL_text_234 : decode cL_text 234 = .ok (.iconst 0, 1) := by decide +kernel
theorem dL_text_235 : decode cL_text 235 = .ok (.ireturn, 1) := by decide +kernel
theorem dL_text_236 : decode cL_text 236 = .ok (.iinc 5 1, 3) := by decide +kernel
theorem dL_text_239 : decode cL_text 239 = .ok (.goto (-147), 3) := by decide +kernel
theorem dL_text_242 : decode cL_text 242 = .ok (.aload_n 0, 1) := by decide +kernel
theorem dL_text_243 : decode cL_text 243 = .ok (.invokevirtual 92, 3) := by decide +kernel
theorem dL_text_246 : decode cL_text 246 = .ok (.aload_n 2, 1) := by decide +kernel
theorem dL_text_247 : decode cL_text 247 = .ok (.iconst 0, 1) := by decide +kernel
theorem dL_text_248 : decode cL_text 248 = .ok (.iaload, 1) := by decide +kernel
theorem dL_text_249 : decode cL_text 249 = .ok (.if_icmp .ne 53, 3) := by decide +kernel
theorem dL_text_252 : decode cL_text 252 = .ok (.aload_n 0, 1) := by decide +kernel
theorem dL_text_253 : decode cL_text 253 = .ok (.invokevirtual 95, 3) := by decide +kernel
theorem dL_text_256 : decode cL_text 256 = .ok (.aload_n 2, 1) := by decide +kernel
theorem dL_text_257 : decode cL_text 257 = .ok (.iconst 1, 1) := by decide +kernel
theorem dL_text_258 : decode cL_text 258 = .ok (.iaload, 1) := by decide +kernel
theorem dL_text_259 : decode cL_text 259 = .ok (.if_icmp .ne 43, 3) := by decide +kernel
theorem dL_text_262 : decode cL_text 262 = .ok (.aload_n 0, 1) := by decide +kernel
theorem dL_text_263 : decode cL_text 263 = .ok (.invokevirtual 98, 3) := by decide +kernel
theorem dL_text_266 : decode cL_text 266 = .ok (.aload_n 2, 1) := by decide +kernel
theorem dL_text_267 : decode cL_text 267 = .ok (.iconst 2, 1) := by decide +kernel
theorem dL_text_268 : decode cL_text 268 = .ok (.iaload, 1) := by decide +kernel
theorem dL_text_269 : decode cL_text 269 = .ok (.if_icmp .ne 33, 3) := by decide +kernel
theorem dL_text_272 : decode cL_text 272 = .ok (.aload_n 0, 1) := by decide +kernel
theorem dL_text_273 : decode cL_text 273 = .ok (.invokevirtual 101, 3) := by decide +kernel
theorem dL_text_276 : decode cL_text 276 = .ok (.aload_n 2, 1) := by decide +kernel
theorem dL_text_277 : decode cL_text 277 = .ok (.iconst 3, 1) := by decide +kernel
theorem dL_text_278 : decode cL_text 278 = .ok (.iaload, 1) := by decide +kernel
theorem dL_text_279 : decode cL_text 279 = .ok (.if_icmp .ne 23, 3) := by decide +kernel
theorem dL_text_282 : decode cL_text 282 = .ok (.aload_n 2, 1) := by decide +kernel
theorem dL_text_283 : decode cL_text 283 = .ok (.iconst 0, 1) := by decide +kernel
theorem dL_text_284 : decode cL_text 284 = .ok (.iaload, 1) := by decide +kernel
theorem dL_text_285 : decode cL_text 285 = .ok (.iconst 2, 1) := by decide +kernel
theorem dL_text_286 : decode cL_text 286 = .ok (.if_icmp .lt 12, 3) := by decide +kernel
theorem dL_text_289 : decode cL_text 289 = .ok (.aload_n 0, 1) := by decide +kernel
theorem dL_text_290 : decode cL_text 290 = .ok (.invokevirtual 103, 3) := by decide +kernel
theorem dL_text_293 : decode cL_text 293 = .ok (.iload 4, 2) := by decide +kernel
theorem dL_text_295 : decode cL_text 295 = .ok (.if_icmp .ne 7, 3) := by decide +kernel
theorem dL_text_298 : decode cL_text 298 = .ok (.iconst 1, 1) := by decide +kernel
theorem dL_text_299 : decode cL_text 299 = .ok (.goto 4, 3) := by decide +kernel
theorem dL_text_302 : decode cL_text 302 = .ok (.iconst 0, 1) := by decide +kernel
theorem dL_text_303 : decode cL_text 303 = .ok (.ireturn, 1) := by decide +kernel
theorem dL_costsOf_0 : decode cL_costsOf 0 = .ok (.bipush 41, 2) := by decide +kernel
theorem dL_costsOf_2 : decode cL_costsOf 2 = .ok (.newarray .int, 2) := by decide +kernel
theorem dL_costsOf_4 : decode cL_costsOf 4 = .ok (.astore 4, 2) := by decide +kernel
theorem dL_costsOf_6 : decode cL_costsOf 6 = .ok (.bipush 40, 2) := by decide +kernel
theorem dL_costsOf_8 : decode cL_costsOf 8 = .ok (.newarray .int, 2) := by decide +kernel
theorem dL_costsOf_10 : decode cL_costsOf 10 = .ok (.astore 5, 2) := by decide +kernel
theorem dL_costsOf_12 : decode cL_costsOf 12 = .ok (.bipush 40, 2) := by decide +kernel
theorem dL_costsOf_14 : decode cL_costsOf 14 = .ok (.newarray .int, 2) := by decide +kernel
theorem dL_costsOf_16 : decode cL_costsOf 16 = .ok (.astore 6, 2) := by decide +kernel
theorem dL_costsOf_18 : decode cL_costsOf 18 = .ok (.aload_n 1, 1) := by decide +kernel
theorem dL_costsOf_19 : decode cL_costsOf 19 = .ok (.aload_n 2, 1) := by decide +kernel
theorem dL_costsOf_20 : decode cL_costsOf 20 = .ok (.iload_n 3, 1) := by decide +kernel
theorem dL_costsOf_21 : decode cL_costsOf 21 = .ok (.aload 4, 2) := by decide +kernel
theorem dL_costsOf_23 : decode cL_costsOf 23 = .ok (.invokestatic 20, 3) := by decide +kernel
theorem dL_costsOf_26 : decode cL_costsOf 26 = .ok (.aload_n 0, 1) := by decide +kernel
theorem dL_costsOf_27 : decode cL_costsOf 27 = .ok (.iload_n 3, 1) := by decide +kernel
theorem dL_costsOf_28 : decode cL_costsOf 28 = .ok (.invokevirtual 106, 3) := by decide +kernel
theorem dL_costsOf_31 : decode cL_costsOf 31 = .ok (.aload 4, 2) := by decide +kernel
theorem dL_costsOf_33 : decode cL_costsOf 33 = .ok (.iconst 0, 1) := by decide +kernel
theorem dL_costsOf_34 : decode cL_costsOf 34 = .ok (.iaload, 1) := by decide +kernel
theorem dL_costsOf_35 : decode cL_costsOf 35 = .ok (.if_icmp .ne 7, 3) := by decide +kernel
theorem dL_costsOf_38 : decode cL_costsOf 38 = .ok (.iconst 1, 1) := by decide +kernel
theorem dL_costsOf_39 : decode cL_costsOf 39 = .ok (.goto 4, 3) := by decide +kernel
theorem dL_costsOf_42 : decode cL_costsOf 42 = .ok (.iconst 0, 1) := by decide +kernel
theorem dL_costsOf_43 : decode cL_costsOf 43 = .ok (.istore 7, 2) := by decide +kernel
theorem dL_costsOf_45 : decode cL_costsOf 45 = .ok (.aload_n 1, 1) := by decide +kernel
theorem dL_costsOf_46 : decode cL_costsOf 46 = .ok (.aload_n 2, 1) := by decide +kernel
theorem dL_costsOf_47 : decode cL_costsOf 47 = .ok (.aload_n 2, 1) := by decide +kernel
theorem dL_costsOf_48 : decode cL_costsOf 48 = .ok (.iconst 1, 1) := by decide +kernel
theorem dL_costsOf_49 : decode cL_costsOf 49 = .ok (.iaload, 1) := by decide +kernel
theorem dL_costsOf_50 : decode cL_costsOf 50 = .ok (.aload 4, 2) := by decide +kernel
theorem dL_costsOf_52 : decode cL_costsOf 52 = .ok (.invokestatic 20, 3) := by decide +kernel
theorem dL_costsOf_55 : decode cL_costsOf 55 = .ok (.iload 7, 2) := by decide +kernel
theorem dL_costsOf_57 : decode cL_costsOf 57 = .ok (.ifCond .eq 29, 3) := by decide +kernel
theorem dL_costsOf_60 : decode cL_costsOf 60 = .ok (.aload_n 0, 1) := by decide +kernel
theorem dL_costsOf_61 : decode cL_costsOf 61 = .ok (.invokevirtual 109, 3) := by decide +kernel
theorem dL_costsOf_64 : decode cL_costsOf 64 = .ok (.aload 4, 2) := by decide +kernel
theorem dL_costsOf_66 : decode cL_costsOf 66 = .ok (.iconst 0, 1) := by decide +kernel
theorem dL_costsOf_67 : decode cL_costsOf 67 = .ok (.iaload, 1) := by decide +kernel
theorem dL_costsOf_68 : decode cL_costsOf 68 = .ok (.if_icmp .ne 18, 3) := by decide +kernel
theorem dL_costsOf_71 : decode cL_costsOf 71 = .ok (.aload_n 0, 1) := by decide +kernel
theorem dL_costsOf_72 : decode cL_costsOf 72 = .ok (.invokevirtual 112, 3) := by decide +kernel
theorem dL_costsOf_75 : decode cL_costsOf 75 = .ok (.aload 4, 2) := by decide +kernel
theorem dL_costsOf_77 : decode cL_costsOf 77 = .ok (.iconst 0, 1) := by decide +kernel
theorem dL_costsOf_78 : decode cL_costsOf 78 = .ok (.iaload, 1) := by decide +kernel
theorem dL_costsOf_79 : decode cL_costsOf 79 = .ok (.if_icmp .ne 7, 3) := by decide +kernel
theorem dL_costsOf_82 : decode cL_costsOf 82 = .ok (.iconst 1, 1) := by decide +kernel
theorem dL_costsOf_83 : decode cL_costsOf 83 = .ok (.goto 4, 3) := by decide +kernel
theorem dL_costsOf_86 : decode cL_costsOf 86 = .ok (.iconst 0, 1) := by decide +kernel
theorem dL_costsOf_87 : decode cL_costsOf 87 = .ok (.istore 7, 2) := by decide +kernel
theorem dL_costsOf_89 : decode cL_costsOf 89 = .ok (.iconst 0, 1) := by decide +kernel
theorem dL_costsOf_90 : decode cL_costsOf 90 = .ok (.istore 8, 2) := by decide +kernel
theorem dL_costsOf_92 : decode cL_costsOf 92 = .ok (.iload 8, 2) := by decide +kernel
theorem dL_costsOf_94 : decode cL_costsOf 94 = .ok (.iconst 3, 1) := by decide +kernel
theorem dL_costsOf_95 : decode cL_costsOf 95 = .ok (.if_icmp .ge 64, 3) := by decide +kernel
theorem dL_costsOf_98 : decode cL_costsOf 98 = .ok (.aload_n 1, 1) := by decide +kernel
theorem dL_costsOf_99 : decode cL_costsOf 99 = .ok (.aload_n 2, 1) := by decide +kernel
theorem dL_costsOf_100 : decode cL_costsOf 100 = .ok (.iload 8, 2) := by decide +kernel
theorem dL_costsOf_102 : decode cL_costsOf 102 = .ok (.aload 5, 2) := by decide +kernel
theorem dL_costsOf_104 : decode cL_costsOf 104 = .ok (.aload 6, 2) := by decide +kernel
theorem dL_costsOf_106 : decode cL_costsOf 106 = .ok (.invokestatic 115, 3) := by decide +kernel
theorem dL_costsOf_109 : decode cL_costsOf 109 = .ok (.istore 9, 2) := by decide +kernel
theorem dL_costsOf_111 : decode cL_costsOf 111 = .ok (.iload 7, 2) := by decide +kernel
theorem dL_costsOf_113 : decode cL_costsOf 113 = .ok (.ifCond .eq 37, 3) := by decide +kernel
theorem dL_costsOf_116 : decode cL_costsOf 116 = .ok (.aload_n 0, 1) := by decide +kernel
theorem dL_costsOf_117 : decode cL_costsOf 117 = .ok (.iload 8, 2) := by decide +kernel
theorem dL_costsOf_119 : decode cL_costsOf 119 = .ok (.invokevirtual 119, 3) := by decide +kernel
theorem dL_costsOf_122 : decode cL_costsOf 122 = .ok (.iload 9, 2) := by decide +kernel
theorem dL_costsOf_124 : decode cL_costsOf 124 = .ok (.sipush 1000, 3) := by decide +kernel
theorem dL_costsOf_127 : decode cL_costsOf 127 = .ok (.irem, 1) := by decide +kernel
theorem dL_costsOf_128 : decode cL_costsOf 128 = .ok (.if_icmp .ne 22, 3) := by decide +kernel
theorem dL_costsOf_131 : decode cL_costsOf 131 = .ok (.aload_n 0, 1) := by decide +kernel
theorem dL_costsOf_132 : decode cL_costsOf 132 = .ok (.iload 8, 2) := by decide +kernel
theorem dL_costsOf_134 : decode cL_costsOf 134 = .ok (.invokevirtual 122, 3) := by decide +kernel
theorem dL_costsOf_137 : decode cL_costsOf 137 = .ok (.iload 9, 2) := by decide +kernel
theorem dL_costsOf_139 : decode cL_costsOf 139 = .ok (.sipush 1000, 3) := by decide +kernel
theorem dL_costsOf_142 : decode cL_costsOf 142 = .ok (.idiv, 1) := by decide +kernel
theorem dL_costsOf_143 : decode cL_costsOf 143 = .ok (.if_icmp .ne 7, 3) := by decide +kernel
theorem dL_costsOf_146 : decode cL_costsOf 146 = .ok (.iconst 1, 1) := by decide +kernel
theorem dL_costsOf_147 : decode cL_costsOf 147 = .ok (.goto 4, 3) := by decide +kernel
theorem dL_costsOf_150 : decode cL_costsOf 150 = .ok (.iconst 0, 1) := by decide +kernel
theorem dL_costsOf_151 : decode cL_costsOf 151 = .ok (.istore 7, 2) := by decide +kernel
theorem dL_costsOf_153 : decode cL_costsOf 153 = .ok (.iinc 8 1, 3) := by decide +kernel
theorem dL_costsOf_156 : decode cL_costsOf 156 = .ok (.goto (-64), 3) := by decide +kernel
theorem dL_costsOf_159 : decode cL_costsOf 159 = .ok (.iload 7, 2) := by decide +kernel
theorem dL_costsOf_161 : decode cL_costsOf 161 = .ok (.ireturn, 1) := by decide +kernel
theorem dL_add_0 : decode cL_add 0 = .ok (.aload_n 0, 1) := by decide +kernel
theorem dL_add_1 : decode cL_add 1 = .ok (.iload_n 1, 1) := by decide +kernel
theorem dL_add_2 : decode cL_add 2 = .ok (.invokevirtual 125, 3) := by decide +kernel
theorem dL_add_5 : decode cL_add 5 = .ok (.ireturn, 1) := by decide +kernel
theorem dL_add_6 : decode cL_add 6 = .ok (.astore_n 2, 1) := by decide +kernel
theorem dL_add_7 : decode cL_add 7 = .ok (.bipush (-101), 2) := by decide +kernel
theorem dL_add_9 : decode cL_add 9 = .ok (.ireturn, 1) := by decide +kernel
theorem dL_add_10 : decode cL_add 10 = .ok (.astore_n 2, 1) := by decide +kernel
theorem dL_add_11 : decode cL_add 11 = .ok (.bipush (-102), 2) := by decide +kernel
theorem dL_add_13 : decode cL_add 13 = .ok (.ireturn, 1) := by decide +kernel
theorem dL_token_0 : decode cL_token 0 = .ok (.iload_n 1, 1) := by decide +kernel
theorem dL_token_1 : decode cL_token 1 = .ok (.ifCond .ne 11, 3) := by decide +kernel
theorem dL_token_4 : decode cL_token 4 = .ok (.aload_n 0, 1) := by decide +kernel
theorem dL_token_5 : decode cL_token 5 = .ok (.iload_n 2, 1) := by decide +kernel
theorem dL_token_6 : decode cL_token 6 = .ok (.invokevirtual 132, 3) := by decide +kernel
theorem dL_token_9 : decode cL_token 9 = .ok (.goto 9, 3) := by decide +kernel
theorem dL_token_12 : decode cL_token 12 = .ok (.aload_n 0, 1) := by decide +kernel
theorem dL_token_13 : decode cL_token 13 = .ok (.iload_n 1, 1) := by decide +kernel
theorem dL_token_14 : decode cL_token 14 = .ok (.iload_n 2, 1) := by decide +kernel
theorem dL_token_15 : decode cL_token 15 = .ok (.invokevirtual 135, 3) := by decide +kernel
theorem dL_token_18 : decode cL_token 18 = .ok (.ireturn, 1) := by decide +kernel
theorem dL_token_19 : decode cL_token 19 = .ok (.astore_n 3, 1) := by decide +kernel
theorem dL_token_20 : decode cL_token 20 = .ok (.bipush (-101), 2) := by decide +kernel
theorem dL_token_22 : decode cL_token 22 = .ok (.ireturn, 1) := by decide +kernel
theorem dL_token_23 : decode cL_token 23 = .ok (.astore_n 3, 1) := by decide +kernel
theorem dL_token_24 : decode cL_token 24 = .ok (.bipush (-102), 2) := by decide +kernel
theorem dL_token_26 : decode cL_token 26 = .ok (.ireturn, 1) := by decide +kernel
theorem dL_unpacks_0 : decode cL_unpacks 0 = .ok (.aload_n 0, 1) := by decide +kernel
theorem dL_unpacks_1 : decode cL_unpacks 1 = .ok (.invokevirtual 139, 3) := by decide +kernel
theorem dL_unpacks_4 : decode cL_unpacks 4 = .ok (.ireturn, 1) := by decide +kernel
theorem dL_unpacks_5 : decode cL_unpacks 5 = .ok (.astore_n 1, 1) := by decide +kernel
theorem dL_unpacks_6 : decode cL_unpacks 6 = .ok (.bipush (-101), 2) := by decide +kernel
theorem dL_unpacks_8 : decode cL_unpacks 8 = .ok (.ireturn, 1) := by decide +kernel
theorem dL_last_0 : decode cL_last 0 = .ok (.aload_n 0, 1) := by decide +kernel
theorem dL_last_1 : decode cL_last 1 = .ok (.invokevirtual 141, 3) := by decide +kernel
theorem dL_last_4 : decode cL_last 4 = .ok (.ireturn, 1) := by decide +kernel
theorem dL_last_5 : decode cL_last 5 = .ok (.astore_n 1, 1) := by decide +kernel
theorem dL_last_6 : decode cL_last 6 = .ok (.bipush (-101), 2) := by decide +kernel
theorem dL_last_8 : decode cL_last 8 = .ok (.ireturn, 1) := by decide +kernel
