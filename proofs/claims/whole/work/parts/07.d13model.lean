/-! decode rows, out of the printed names -/
theorem dX11_thrown_0 : decode cX11_thrown 0 = .ok (.aload_n 0, 1) := by decide +kernel
theorem dX11_thrown_1 : decode cX11_thrown 1 = .ok (.getfield 35, 3) := by decide +kernel
theorem dX11_thrown_4 : decode cX11_thrown 4 = .ok (.ireturn, 1) := by decide +kernel
theorem dX11_in_0 : decode cX11_in 0 = .ok (.iload_n 0, 1) := by decide +kernel
theorem dX11_in_1 : decode cX11_in 1 = .ok (.iload_n 1, 1) := by decide +kernel
theorem dX11_in_2 : decode cX11_in 2 = .ok (.if_icmp .lt 12, 3) := by decide +kernel
theorem dX11_in_5 : decode cX11_in 5 = .ok (.iload_n 0, 1) := by decide +kernel
theorem dX11_in_6 : decode cX11_in 6 = .ok (.iload_n 2, 1) := by decide +kernel
theorem dX11_in_7 : decode cX11_in 7 = .ok (.if_icmp .gt 7, 3) := by decide +kernel
theorem dX11_in_10 : decode cX11_in 10 = .ok (.iconst 1, 1) := by decide +kernel
theorem dX11_in_11 : decode cX11_in 11 = .ok (.goto 4, 3) := by decide +kernel
theorem dX11_in_14 : decode cX11_in 14 = .ok (.iconst 0, 1) := by decide +kernel
theorem dX11_in_15 : decode cX11_in 15 = .ok (.ireturn, 1) := by decide +kernel
theorem dX11_asks_0 : decode cX11_asks 0 = .ok (.aload_n 0, 1) := by decide +kernel
theorem dX11_asks_1 : decode cX11_asks 1 = .ok (.iload_n 1, 1) := by decide +kernel
theorem dX11_asks_2 : decode cX11_asks 2 = .ok (.ifCond .eq 7, 3) := by decide +kernel
theorem dX11_asks_5 : decode cX11_asks 5 = .ok (.iconst 0, 1) := by decide +kernel
theorem dX11_asks_6 : decode cX11_asks 6 = .ok (.goto 4, 3) := by decide +kernel
theorem dX11_asks_9 : decode cX11_asks 9 = .ok (.iconst 1, 1) := by decide +kernel
theorem dX11_asks_10 : decode cX11_asks 10 = .ok (.putfield 35, 3) := by decide +kernel
theorem dX11_asks_13 : decode cX11_asks 13 = .ok (.iload_n 1, 1) := by decide +kernel
theorem dX11_asks_14 : decode cX11_asks 14 = .ok (.ireturn, 1) := by decide +kernel
theorem dX11_asksThen_0 : decode cX11_asksThen 0 = .ok (.aload_n 0, 1) := by decide +kernel
theorem dX11_asksThen_1 : decode cX11_asksThen 1 = .ok (.aload_n 0, 1) := by decide +kernel
theorem dX11_asksThen_2 : decode cX11_asksThen 2 = .ok (.getfield 35, 3) := by decide +kernel
theorem dX11_asksThen_5 : decode cX11_asksThen 5 = .ok (.ifCond .le 10, 3) := by decide +kernel
theorem dX11_asksThen_8 : decode cX11_asksThen 8 = .ok (.aload_n 0, 1) := by decide +kernel
theorem dX11_asksThen_9 : decode cX11_asksThen 9 = .ok (.getfield 35, 3) := by decide +kernel
theorem dX11_asksThen_12 : decode cX11_asksThen 12 = .ok (.goto 12, 3) := by decide +kernel
theorem dX11_asksThen_15 : decode cX11_asksThen 15 = .ok (.iload_n 1, 1) := by decide +kernel
theorem dX11_asksThen_16 : decode cX11_asksThen 16 = .ok (.ifCond .eq 7, 3) := by decide +kernel
theorem dX11_asksThen_19 : decode cX11_asksThen 19 = .ok (.iconst 0, 1) := by decide +kernel
theorem dX11_asksThen_20 : decode cX11_asksThen 20 = .ok (.goto 4, 3) := by decide +kernel
theorem dX11_asksThen_23 : decode cX11_asksThen 23 = .ok (.iload_n 2, 1) := by decide +kernel
theorem dX11_asksThen_24 : decode cX11_asksThen 24 = .ok (.putfield 35, 3) := by decide +kernel
theorem dX11_asksThen_27 : decode cX11_asksThen 27 = .ok (.aload_n 0, 1) := by decide +kernel
theorem dX11_asksThen_28 : decode cX11_asksThen 28 = .ok (.getfield 35, 3) := by decide +kernel
theorem dX11_asksThen_31 : decode cX11_asksThen 31 = .ok (.ifCond .ne 7, 3) := by decide +kernel
theorem dX11_asksThen_34 : decode cX11_asksThen 34 = .ok (.iconst 1, 1) := by decide +kernel
theorem dX11_asksThen_35 : decode cX11_asksThen 35 = .ok (.goto 4, 3) := by decide +kernel
theorem dX11_asksThen_38 : decode cX11_asksThen 38 = .ok (.iconst 0, 1) := by decide +kernel
theorem dX11_asksThen_39 : decode cX11_asksThen 39 = .ok (.ireturn, 1) := by decide +kernel
theorem dX11_says_0 : decode cX11_says 0 = .ok (.aload_n 0, 1) := by decide +kernel
theorem dX11_says_1 : decode cX11_says 1 = .ok (.iconst 0, 1) := by decide +kernel
theorem dX11_says_2 : decode cX11_says 2 = .ok (.putfield 35, 3) := by decide +kernel
theorem dX11_says_5 : decode cX11_says 5 = .ok (.iload_n 1, 1) := by decide +kernel
theorem dX11_says_6 : decode cX11_says 6 = .ok (.ireturn, 1) := by decide +kernel
theorem dX11_record_0 : decode cX11_record 0 = .ok (.aload_n 0, 1) := by decide +kernel
theorem dX11_record_1 : decode cX11_record 1 = .ok (.getfield 39, 3) := by decide +kernel
theorem dX11_record_4 : decode cX11_record 4 = .ok (.bipush 6, 2) := by decide +kernel
theorem dX11_record_6 : decode cX11_record 6 = .ok (.if_icmp .ne 44, 3) := by decide +kernel
theorem dX11_record_9 : decode cX11_record 9 = .ok (.iconst 0, 1) := by decide +kernel
theorem dX11_record_10 : decode cX11_record 10 = .ok (.istore_n 1, 1) := by decide +kernel
theorem dX11_record_11 : decode cX11_record 11 = .ok (.iload_n 1, 1) := by decide +kernel
theorem dX11_record_12 : decode cX11_record 12 = .ok (.sipush 650, 3) := by decide +kernel
theorem dX11_record_15 : decode cX11_record 15 = .ok (.if_icmp .ge 25, 3) := by decide +kernel
theorem dX11_record_18 : decode cX11_record 18 = .ok (.aload_n 0, 1) := by decide +kernel
theorem dX11_record_19 : decode cX11_record 19 = .ok (.getfield 13, 3) := by decide +kernel
theorem dX11_record_22 : decode cX11_record 22 = .ok (.iload_n 1, 1) := by decide +kernel
theorem dX11_record_23 : decode cX11_record 23 = .ok (.aload_n 0, 1) := by decide +kernel
theorem dX11_record_24 : decode cX11_record 24 = .ok (.getfield 13, 3) := by decide +kernel
theorem dX11_record_27 : decode cX11_record 27 = .ok (.iload_n 1, 1) := by decide +kernel
theorem dX11_record_28 : decode cX11_record 28 = .ok (.sipush 130, 3) := by decide +kernel
theorem dX11_record_31 : decode cX11_record 31 = .ok (.iadd, 1) := by decide +kernel
theorem dX11_record_32 : decode cX11_record 32 = .ok (.iaload, 1) := by decide +kernel
theorem dX11_record_33 : decode cX11_record 33 = .ok (.iastore, 1) := by decide +kernel
theorem dX11_record_34 : decode cX11_record 34 = .ok (.iinc 1 1, 3) := by decide +kernel
theorem dX11_record_37 : decode cX11_record 37 = .ok (.goto (-26), 3) := by decide +kernel
theorem dX11_record_40 : decode cX11_record 40 = .ok (.aload_n 0, 1) := by decide +kernel
theorem dX11_record_41 : decode cX11_record 41 = .ok (.dup, 1) := by decide +kernel
theorem dX11_record_42 : decode cX11_record 42 = .ok (.getfield 39, 3) := by decide +kernel
theorem dX11_record_45 : decode cX11_record 45 = .ok (.iconst 1, 1) := by decide +kernel
theorem dX11_record_46 : decode cX11_record 46 = .ok (.isub, 1) := by decide +kernel
theorem dX11_record_47 : decode cX11_record 47 = .ok (.putfield 39, 3) := by decide +kernel
theorem dX11_record_50 : decode cX11_record 50 = .ok (.iconst 0, 1) := by decide +kernel
theorem dX11_record_51 : decode cX11_record 51 = .ok (.istore_n 1, 1) := by decide +kernel
theorem dX11_record_52 : decode cX11_record 52 = .ok (.iload_n 1, 1) := by decide +kernel
theorem dX11_record_53 : decode cX11_record 53 = .ok (.sipush 130, 3) := by decide +kernel
theorem dX11_record_56 : decode cX11_record 56 = .ok (.if_icmp .ge 30, 3) := by decide +kernel
theorem dX11_record_59 : decode cX11_record 59 = .ok (.aload_n 0, 1) := by decide +kernel
theorem dX11_record_60 : decode cX11_record 60 = .ok (.getfield 13, 3) := by decide +kernel
theorem dX11_record_63 : decode cX11_record 63 = .ok (.aload_n 0, 1) := by decide +kernel
theorem dX11_record_64 : decode cX11_record 64 = .ok (.getfield 39, 3) := by decide +kernel
theorem dX11_record_67 : decode cX11_record 67 = .ok (.sipush 130, 3) := by decide +kernel
theorem dX11_record_70 : decode cX11_record 70 = .ok (.imul, 1) := by decide +kernel
theorem dX11_record_71 : decode cX11_record 71 = .ok (.iload_n 1, 1) := by decide +kernel
theorem dX11_record_72 : decode cX11_record 72 = .ok (.iadd, 1) := by decide +kernel
theorem dX11_record_73 : decode cX11_record 73 = .ok (.aload_n 0, 1) := by decide +kernel
theorem dX11_record_74 : decode cX11_record 74 = .ok (.getfield 7, 3) := by decide +kernel
theorem dX11_record_77 : decode cX11_record 77 = .ok (.iload_n 1, 1) := by decide +kernel
theorem dX11_record_78 : decode cX11_record 78 = .ok (.iaload, 1) := by decide +kernel
theorem dX11_record_79 : decode cX11_record 79 = .ok (.iastore, 1) := by decide +kernel
theorem dX11_record_80 : decode cX11_record 80 = .ok (.iinc 1 1, 3) := by decide +kernel
theorem dX11_record_83 : decode cX11_record 83 = .ok (.goto (-31), 3) := by decide +kernel
theorem dX11_record_86 : decode cX11_record 86 = .ok (.aload_n 0, 1) := by decide +kernel
theorem dX11_record_87 : decode cX11_record 87 = .ok (.dup, 1) := by decide +kernel
theorem dX11_record_88 : decode cX11_record 88 = .ok (.getfield 39, 3) := by decide +kernel
theorem dX11_record_91 : decode cX11_record 91 = .ok (.iconst 1, 1) := by decide +kernel
theorem dX11_record_92 : decode cX11_record 92 = .ok (.iadd, 1) := by decide +kernel
theorem dX11_record_93 : decode cX11_record 93 = .ok (.putfield 39, 3) := by decide +kernel
theorem dX11_record_96 : decode cX11_record 96 = .ok (.return_, 1) := by decide +kernel
theorem dX11_undo_0 : decode cX11_undo 0 = .ok (.aload_n 0, 1) := by decide +kernel
theorem dX11_undo_1 : decode cX11_undo 1 = .ok (.aload_n 0, 1) := by decide +kernel
theorem dX11_undo_2 : decode cX11_undo 2 = .ok (.getfield 39, 3) := by decide +kernel
theorem dX11_undo_5 : decode cX11_undo 5 = .ok (.ifCond .le 7, 3) := by decide +kernel
theorem dX11_undo_8 : decode cX11_undo 8 = .ok (.iconst 1, 1) := by decide +kernel
theorem dX11_undo_9 : decode cX11_undo 9 = .ok (.goto 4, 3) := by decide +kernel
theorem dX11_undo_12 : decode cX11_undo 12 = .ok (.iconst 0, 1) := by decide +kernel
theorem dX11_undo_13 : decode cX11_undo 13 = .ok (.invokevirtual 42, 3) := by decide +kernel
theorem dX11_undo_16 : decode cX11_undo 16 = .ok (.ifCond .ne 5, 3) := by decide +kernel
theorem dX11_undo_19 : decode cX11_undo 19 = .ok (.iconst 0, 1) := by decide +kernel
theorem dX11_undo_20 : decode cX11_undo 20 = .ok (.ireturn, 1) := by decide +kernel
theorem dX11_undo_21 : decode cX11_undo 21 = .ok (.aload_n 0, 1) := by decide +kernel
theorem dX11_undo_22 : decode cX11_undo 22 = .ok (.dup, 1) := by decide +kernel
theorem dX11_undo_23 : decode cX11_undo 23 = .ok (.getfield 39, 3) := by decide +kernel
theorem dX11_undo_26 : decode cX11_undo 26 = .ok (.iconst 1, 1) := by decide +kernel
theorem dX11_undo_27 : decode cX11_undo 27 = .ok (.isub, 1) := by decide +kernel
theorem dX11_undo_28 : decode cX11_undo 28 = .ok (.putfield 39, 3) := by decide +kernel
theorem dX11_undo_31 : decode cX11_undo 31 = .ok (.iconst 0, 1) := by decide +kernel
theorem dX11_undo_32 : decode cX11_undo 32 = .ok (.istore_n 1, 1) := by decide +kernel
theorem dX11_undo_33 : decode cX11_undo 33 = .ok (.iload_n 1, 1) := by decide +kernel
theorem dX11_undo_34 : decode cX11_undo 34 = .ok (.sipush 130, 3) := by decide +kernel
theorem dX11_undo_37 : decode cX11_undo 37 = .ok (.if_icmp .ge 30, 3) := by decide +kernel
theorem dX11_undo_40 : decode cX11_undo 40 = .ok (.aload_n 0, 1) := by decide +kernel
theorem dX11_undo_41 : decode cX11_undo 41 = .ok (.getfield 7, 3) := by decide +kernel
theorem dX11_undo_44 : decode cX11_undo 44 = .ok (.iload_n 1, 1) := by decide +kernel
theorem dX11_undo_45 : decode cX11_undo 45 = .ok (.aload_n 0, 1) := by decide +kernel
theorem dX11_undo_46 : decode cX11_undo 46 = .ok (.getfield 13, 3) := by decide +kernel
theorem dX11_undo_49 : decode cX11_undo 49 = .ok (.aload_n 0, 1) := by decide +kernel
theorem dX11_undo_50 : decode cX11_undo 50 = .ok (.getfield 39, 3) := by decide +kernel
theorem dX11_undo_53 : decode cX11_undo 53 = .ok (.sipush 130, 3) := by decide +kernel
theorem dX11_undo_56 : decode cX11_undo 56 = .ok (.imul, 1) := by decide +kernel
theorem dX11_undo_57 : decode cX11_undo 57 = .ok (.iload_n 1, 1) := by decide +kernel
theorem dX11_undo_58 : decode cX11_undo 58 = .ok (.iadd, 1) := by decide +kernel
theorem dX11_undo_59 : decode cX11_undo 59 = .ok (.iaload, 1) := by decide +kernel
theorem dX11_undo_60 : decode cX11_undo 60 = .ok (.iastore, 1) := by decide +kernel
theorem dX11_undo_61 : decode cX11_undo 61 = .ok (.iinc 1 1, 3) := by decide +kernel
theorem dX11_undo_64 : decode cX11_undo 64 = .ok (.goto (-31), 3) := by decide +kernel
theorem dX11_undo_67 : decode cX11_undo 67 = .ok (.aload_n 0, 1) := by decide +kernel
theorem dX11_undo_68 : decode cX11_undo 68 = .ok (.getfield 39, 3) := by decide +kernel
theorem dX11_undo_71 : decode cX11_undo 71 = .ok (.ireturn, 1) := by decide +kernel
theorem dX11_keep_0 : decode cX11_keep 0 = .ok (.aload_n 0, 1) := by decide +kernel
theorem dX11_keep_1 : decode cX11_keep 1 = .ok (.iconst 1, 1) := by decide +kernel
theorem dX11_keep_2 : decode cX11_keep 2 = .ok (.putfield 46, 3) := by decide +kernel
theorem dX11_keep_5 : decode cX11_keep 5 = .ok (.iconst 0, 1) := by decide +kernel
theorem dX11_keep_6 : decode cX11_keep 6 = .ok (.istore_n 1, 1) := by decide +kernel
theorem dX11_keep_7 : decode cX11_keep 7 = .ok (.iload_n 1, 1) := by decide +kernel
theorem dX11_keep_8 : decode cX11_keep 8 = .ok (.sipush 130, 3) := by decide +kernel
theorem dX11_keep_11 : decode cX11_keep 11 = .ok (.if_icmp .ge 21, 3) := by decide +kernel
theorem dX11_keep_14 : decode cX11_keep 14 = .ok (.aload_n 0, 1) := by decide +kernel
theorem dX11_keep_15 : decode cX11_keep 15 = .ok (.getfield 16, 3) := by decide +kernel
theorem dX11_keep_18 : decode cX11_keep 18 = .ok (.iload_n 1, 1) := by decide +kernel
theorem dX11_keep_19 : decode cX11_keep 19 = .ok (.aload_n 0, 1) := by decide +kernel
theorem dX11_keep_20 : decode cX11_keep 20 = .ok (.getfield 7, 3) := by decide +kernel
theorem dX11_keep_23 : decode cX11_keep 23 = .ok (.iload_n 1, 1) := by decide +kernel
theorem dX11_keep_24 : decode cX11_keep 24 = .ok (.iaload, 1) := by decide +kernel
theorem dX11_keep_25 : decode cX11_keep 25 = .ok (.iastore, 1) := by decide +kernel
theorem dX11_keep_26 : decode cX11_keep 26 = .ok (.iinc 1 1, 3) := by decide +kernel
theorem dX11_keep_29 : decode cX11_keep 29 = .ok (.goto (-22), 3) := by decide +kernel
theorem dX11_keep_32 : decode cX11_keep 32 = .ok (.aload_n 0, 1) := by decide +kernel
theorem dX11_keep_33 : decode cX11_keep 33 = .ok (.aload_n 0, 1) := by decide +kernel
theorem dX11_keep_34 : decode cX11_keep 34 = .ok (.getfield 7, 3) := by decide +kernel
theorem dX11_keep_37 : decode cX11_keep 37 = .ok (.iconst 0, 1) := by decide +kernel
theorem dX11_keep_38 : decode cX11_keep 38 = .ok (.iaload, 1) := by decide +kernel
theorem dX11_keep_39 : decode cX11_keep 39 = .ok (.invokevirtual 50, 3) := by decide +kernel
theorem dX11_keep_42 : decode cX11_keep 42 = .ok (.ireturn, 1) := by decide +kernel
theorem dX11_restore_0 : decode cX11_restore 0 = .ok (.aload_n 0, 1) := by decide +kernel
theorem dX11_restore_1 : decode cX11_restore 1 = .ok (.aload_n 0, 1) := by decide +kernel
theorem dX11_restore_2 : decode cX11_restore 2 = .ok (.getfield 46, 3) := by decide +kernel
theorem dX11_restore_5 : decode cX11_restore 5 = .ok (.invokevirtual 42, 3) := by decide +kernel
theorem dX11_restore_8 : decode cX11_restore 8 = .ok (.ifCond .ne 5, 3) := by decide +kernel
theorem dX11_restore_11 : decode cX11_restore 11 = .ok (.iconst 0, 1) := by decide +kernel
theorem dX11_restore_12 : decode cX11_restore 12 = .ok (.ireturn, 1) := by decide +kernel
theorem dX11_restore_13 : decode cX11_restore 13 = .ok (.aload_n 0, 1) := by decide +kernel
theorem dX11_restore_14 : decode cX11_restore 14 = .ok (.invokevirtual 54, 3) := by decide +kernel
theorem dX11_restore_17 : decode cX11_restore 17 = .ok (.iconst 0, 1) := by decide +kernel
theorem dX11_restore_18 : decode cX11_restore 18 = .ok (.istore_n 1, 1) := by decide +kernel
theorem dX11_restore_19 : decode cX11_restore 19 = .ok (.iload_n 1, 1) := by decide +kernel
theorem dX11_restore_20 : decode cX11_restore 20 = .ok (.sipush 130, 3) := by decide +kernel
theorem dX11_restore_23 : decode cX11_restore 23 = .ok (.if_icmp .ge 21, 3) := by decide +kernel
theorem dX11_restore_26 : decode cX11_restore 26 = .ok (.aload_n 0, 1) := by decide +kernel
theorem dX11_restore_27 : decode cX11_restore 27 = .ok (.getfield 7, 3) := by decide +kernel
theorem dX11_restore_30 : decode cX11_restore 30 = .ok (.iload_n 1, 1) := by decide +kernel
theorem dX11_restore_31 : decode cX11_restore 31 = .ok (.aload_n 0, 1) := by decide +kernel
theorem dX11_restore_32 : decode cX11_restore 32 = .ok (.getfield 16, 3) := by decide +kernel
theorem dX11_restore_35 : decode cX11_restore 35 = .ok (.iload_n 1, 1) := by decide +kernel
theorem dX11_restore_36 : decode cX11_restore 36 = .ok (.iaload, 1) := by decide +kernel
theorem dX11_restore_37 : decode cX11_restore 37 = .ok (.iastore, 1) := by decide +kernel
theorem dX11_restore_38 : decode cX11_restore 38 = .ok (.iinc 1 1, 3) := by decide +kernel
theorem dX11_restore_41 : decode cX11_restore 41 = .ok (.goto (-22), 3) := by decide +kernel
theorem dX11_restore_44 : decode cX11_restore 44 = .ok (.aload_n 0, 1) := by decide +kernel
theorem dX11_restore_45 : decode cX11_restore 45 = .ok (.getfield 7, 3) := by decide +kernel
theorem dX11_restore_48 : decode cX11_restore 48 = .ok (.iconst 0, 1) := by decide +kernel
theorem dX11_restore_49 : decode cX11_restore 49 = .ok (.iaload, 1) := by decide +kernel
theorem dX11_restore_50 : decode cX11_restore 50 = .ok (.ireturn, 1) := by decide +kernel
theorem dX11_savedStates_0 : decode cX11_savedStates 0 = .ok (.aload_n 0, 1) := by decide +kernel
theorem dX11_savedStates_1 : decode cX11_savedStates 1 = .ok (.aload_n 0, 1) := by decide +kernel
theorem dX11_savedStates_2 : decode cX11_savedStates 2 = .ok (.getfield 39, 3) := by decide +kernel
theorem dX11_savedStates_5 : decode cX11_savedStates 5 = .ok (.invokevirtual 50, 3) := by decide +kernel
theorem dX11_savedStates_8 : decode cX11_savedStates 8 = .ok (.ireturn, 1) := by decide +kernel
theorem dX11_isPlace_0 : decode cX11_isPlace 0 = .ok (.iload_n 1, 1) := by decide +kernel
theorem dX11_isPlace_1 : decode cX11_isPlace 1 = .ok (.iconst 0, 1) := by decide +kernel
theorem dX11_isPlace_2 : decode cX11_isPlace 2 = .ok (.aload_n 0, 1) := by decide +kernel
theorem dX11_isPlace_3 : decode cX11_isPlace 3 = .ok (.getfield 7, 3) := by decide +kernel
theorem dX11_isPlace_6 : decode cX11_isPlace 6 = .ok (.iconst 0, 1) := by decide +kernel
theorem dX11_isPlace_7 : decode cX11_isPlace 7 = .ok (.iaload, 1) := by decide +kernel
theorem dX11_isPlace_8 : decode cX11_isPlace 8 = .ok (.iconst 1, 1) := by decide +kernel
theorem dX11_isPlace_9 : decode cX11_isPlace 9 = .ok (.isub, 1) := by decide +kernel
theorem dX11_isPlace_10 : decode cX11_isPlace 10 = .ok (.invokestatic 57, 3) := by decide +kernel
theorem dX11_isPlace_13 : decode cX11_isPlace 13 = .ok (.ireturn, 1) := by decide +kernel
theorem dX11_addLetter_0 : decode cX11_addLetter 0 = .ok (.aload_n 0, 1) := by decide +kernel
theorem dX11_addLetter_1 : decode cX11_addLetter 1 = .ok (.iload_n 1, 1) := by decide +kernel
theorem dX11_addLetter_2 : decode cX11_addLetter 2 = .ok (.iconst 0, 1) := by decide +kernel
theorem dX11_addLetter_3 : decode cX11_addLetter 3 = .ok (.iconst 3, 1) := by decide +kernel
theorem dX11_addLetter_4 : decode cX11_addLetter 4 = .ok (.invokestatic 57, 3) := by decide +kernel
theorem dX11_addLetter_7 : decode cX11_addLetter 7 = .ok (.invokevirtual 42, 3) := by decide +kernel
theorem dX11_addLetter_10 : decode cX11_addLetter 10 = .ok (.pop, 1) := by decide +kernel
theorem dX11_addLetter_11 : decode cX11_addLetter 11 = .ok (.aload_n 0, 1) := by decide +kernel
theorem dX11_addLetter_12 : decode cX11_addLetter 12 = .ok (.aload_n 0, 1) := by decide +kernel
theorem dX11_addLetter_13 : decode cX11_addLetter 13 = .ok (.getfield 7, 3) := by decide +kernel
theorem dX11_addLetter_16 : decode cX11_addLetter 16 = .ok (.iconst 0, 1) := by decide +kernel
theorem dX11_addLetter_17 : decode cX11_addLetter 17 = .ok (.iaload, 1) := by decide +kernel
theorem dX11_addLetter_18 : decode cX11_addLetter 18 = .ok (.bipush 40, 2) := by decide +kernel
theorem dX11_addLetter_20 : decode cX11_addLetter 20 = .ok (.if_icmp .ge 7, 3) := by decide +kernel
theorem dX11_addLetter_23 : decode cX11_addLetter 23 = .ok (.iconst 1, 1) := by decide +kernel
theorem dX11_addLetter_24 : decode cX11_addLetter 24 = .ok (.goto 4, 3) := by decide +kernel
theorem dX11_addLetter_27 : decode cX11_addLetter 27 = .ok (.iconst 0, 1) := by decide +kernel
theorem dX11_addLetter_28 : decode cX11_addLetter 28 = .ok (.iconst 2, 1) := by decide +kernel
theorem dX11_addLetter_29 : decode cX11_addLetter 29 = .ok (.invokevirtual 61, 3) := by decide +kernel
theorem dX11_addLetter_32 : decode cX11_addLetter 32 = .ok (.ifCond .ne 5, 3) := by decide +kernel
theorem dX11_addLetter_35 : decode cX11_addLetter 35 = .ok (.iconst 0, 1) := by decide +kernel
theorem dX11_addLetter_36 : decode cX11_addLetter 36 = .ok (.ireturn, 1) := by decide +kernel
theorem dX11_addLetter_37 : decode cX11_addLetter 37 = .ok (.aload_n 0, 1) := by decide +kernel
theorem dX11_addLetter_38 : decode cX11_addLetter 38 = .ok (.invokevirtual 54, 3) := by decide +kernel
theorem dX11_addLetter_41 : decode cX11_addLetter 41 = .ok (.aload_n 0, 1) := by decide +kernel
theorem dX11_addLetter_42 : decode cX11_addLetter 42 = .ok (.getfield 7, 3) := by decide +kernel
theorem dX11_addLetter_45 : decode cX11_addLetter 45 = .ok (.bipush 10, 2) := by decide +kernel
theorem dX11_addLetter_47 : decode cX11_addLetter 47 = .ok (.aload_n 0, 1) := by decide +kernel
theorem dX11_addLetter_48 : decode cX11_addLetter 48 = .ok (.getfield 7, 3) := by decide +kernel
theorem dX11_addLetter_51 : decode cX11_addLetter 51 = .ok (.iconst 0, 1) := by decide +kernel
theorem dX11_addLetter_52 : decode cX11_addLetter 52 = .ok (.iaload, 1) := by decide +kernel
theorem dX11_addLetter_53 : decode cX11_addLetter 53 = .ok (.iadd, 1) := by decide +kernel
theorem dX11_addLetter_54 : decode cX11_addLetter 54 = .ok (.iload_n 1, 1) := by decide +kernel
theorem dX11_addLetter_55 : decode cX11_addLetter 55 = .ok (.iastore, 1) := by decide +kernel
theorem dX11_addLetter_56 : decode cX11_addLetter 56 = .ok (.aload_n 0, 1) := by decide +kernel
theorem dX11_addLetter_57 : decode cX11_addLetter 57 = .ok (.getfield 7, 3) := by decide +kernel
theorem dX11_addLetter_60 : decode cX11_addLetter 60 = .ok (.iconst 0, 1) := by decide +kernel
theorem dX11_addLetter_61 : decode cX11_addLetter 61 = .ok (.dup2, 1) := by decide +kernel
theorem dX11_addLetter_62 : decode cX11_addLetter 62 = .ok (.iaload, 1) := by decide +kernel
theorem dX11_addLetter_63 : decode cX11_addLetter 63 = .ok (.iconst 1, 1) := by decide +kernel
theorem dX11_addLetter_64 : decode cX11_addLetter 64 = .ok (.iadd, 1) := by decide +kernel
theorem dX11_addLetter_65 : decode cX11_addLetter 65 = .ok (.iastore, 1) := by decide +kernel
theorem dX11_addLetter_66 : decode cX11_addLetter 66 = .ok (.aload_n 0, 1) := by decide +kernel
theorem dX11_addLetter_67 : decode cX11_addLetter 67 = .ok (.getfield 7, 3) := by decide +kernel
theorem dX11_addLetter_70 : decode cX11_addLetter 70 = .ok (.iconst 0, 1) := by decide +kernel
theorem dX11_addLetter_71 : decode cX11_addLetter 71 = .ok (.iaload, 1) := by decide +kernel
theorem dX11_addLetter_72 : decode cX11_addLetter 72 = .ok (.ireturn, 1) := by decide +kernel
theorem dX11_setLetter_0 : decode cX11_setLetter 0 = .ok (.aload_n 0, 1) := by decide +kernel
theorem dX11_setLetter_1 : decode cX11_setLetter 1 = .ok (.aload_n 0, 1) := by decide +kernel
theorem dX11_setLetter_2 : decode cX11_setLetter 2 = .ok (.iload_n 1, 1) := by decide +kernel
theorem dX11_setLetter_3 : decode cX11_setLetter 3 = .ok (.invokevirtual 65, 3) := by decide +kernel
theorem dX11_setLetter_6 : decode cX11_setLetter 6 = .ok (.invokevirtual 42, 3) := by decide +kernel
theorem dX11_setLetter_9 : decode cX11_setLetter 9 = .ok (.pop, 1) := by decide +kernel
theorem dX11_setLetter_10 : decode cX11_setLetter 10 = .ok (.aload_n 0, 1) := by decide +kernel
theorem dX11_setLetter_11 : decode cX11_setLetter 11 = .ok (.iload_n 2, 1) := by decide +kernel
theorem dX11_setLetter_12 : decode cX11_setLetter 12 = .ok (.iconst 0, 1) := by decide +kernel
theorem dX11_setLetter_13 : decode cX11_setLetter 13 = .ok (.iconst 3, 1) := by decide +kernel
theorem dX11_setLetter_14 : decode cX11_setLetter 14 = .ok (.invokestatic 57, 3) := by decide +kernel
theorem dX11_setLetter_17 : decode cX11_setLetter 17 = .ok (.iconst 2, 1) := by decide +kernel
theorem dX11_setLetter_18 : decode cX11_setLetter 18 = .ok (.invokevirtual 61, 3) := by decide +kernel
theorem dX11_setLetter_21 : decode cX11_setLetter 21 = .ok (.ifCond .ne 5, 3) := by decide +kernel
theorem dX11_setLetter_24 : decode cX11_setLetter 24 = .ok (.iconst 0, 1) := by decide +kernel
theorem dX11_setLetter_25 : decode cX11_setLetter 25 = .ok (.ireturn, 1) := by decide +kernel
theorem dX11_setLetter_26 : decode cX11_setLetter 26 = .ok (.aload_n 0, 1) := by decide +kernel
theorem dX11_setLetter_27 : decode cX11_setLetter 27 = .ok (.invokevirtual 54, 3) := by decide +kernel
theorem dX11_setLetter_30 : decode cX11_setLetter 30 = .ok (.aload_n 0, 1) := by decide +kernel
theorem dX11_setLetter_31 : decode cX11_setLetter 31 = .ok (.getfield 7, 3) := by decide +kernel
theorem dX11_setLetter_34 : decode cX11_setLetter 34 = .ok (.bipush 10, 2) := by decide +kernel
theorem dX11_setLetter_36 : decode cX11_setLetter 36 = .ok (.iload_n 1, 1) := by decide +kernel
theorem dX11_setLetter_37 : decode cX11_setLetter 37 = .ok (.iadd, 1) := by decide +kernel
theorem dX11_setLetter_38 : decode cX11_setLetter 38 = .ok (.iaload, 1) := by decide +kernel
theorem dX11_setLetter_39 : decode cX11_setLetter 39 = .ok (.istore_n 3, 1) := by decide +kernel
theorem dX11_setLetter_40 : decode cX11_setLetter 40 = .ok (.aload_n 0, 1) := by decide +kernel
theorem dX11_setLetter_41 : decode cX11_setLetter 41 = .ok (.getfield 7, 3) := by decide +kernel
theorem dX11_setLetter_44 : decode cX11_setLetter 44 = .ok (.bipush 10, 2) := by decide +kernel
theorem dX11_setLetter_46 : decode cX11_setLetter 46 = .ok (.iload_n 1, 1) := by decide +kernel
theorem dX11_setLetter_47 : decode cX11_setLetter 47 = .ok (.iadd, 1) := by decide +kernel
theorem dX11_setLetter_48 : decode cX11_setLetter 48 = .ok (.iload_n 2, 1) := by decide +kernel
theorem dX11_setLetter_49 : decode cX11_setLetter 49 = .ok (.iastore, 1) := by decide +kernel
theorem dX11_setLetter_50 : decode cX11_setLetter 50 = .ok (.iload_n 3, 1) := by decide +kernel
theorem dX11_setLetter_51 : decode cX11_setLetter 51 = .ok (.ireturn, 1) := by decide +kernel
theorem dX11_empties_0 : decode cX11_empties 0 = .ok (.aload_n 0, 1) := by decide +kernel
theorem dX11_empties_1 : decode cX11_empties 1 = .ok (.getfield 7, 3) := by decide +kernel
theorem dX11_empties_4 : decode cX11_empties 4 = .ok (.iload_n 1, 1) := by decide +kernel
theorem dX11_empties_5 : decode cX11_empties 5 = .ok (.iaload, 1) := by decide +kernel
theorem dX11_empties_6 : decode cX11_empties 6 = .ok (.istore 4, 2) := by decide +kernel
theorem dX11_empties_8 : decode cX11_empties 8 = .ok (.aload_n 0, 1) := by decide +kernel
theorem dX11_empties_9 : decode cX11_empties 9 = .ok (.getfield 7, 3) := by decide +kernel
theorem dX11_empties_12 : decode cX11_empties 12 = .ok (.iload_n 1, 1) := by decide +kernel
theorem dX11_empties_13 : decode cX11_empties 13 = .ok (.iconst 0, 1) := by decide +kernel
theorem dX11_empties_14 : decode cX11_empties 14 = .ok (.iastore, 1) := by decide +kernel
theorem dX11_empties_15 : decode cX11_empties 15 = .ok (.iload_n 2, 1) := by decide +kernel
theorem dX11_empties_16 : decode cX11_empties 16 = .ok (.istore 5, 2) := by decide +kernel
theorem dX11_empties_18 : decode cX11_empties 18 = .ok (.iload 5, 2) := by decide +kernel
theorem dX11_empties_20 : decode cX11_empties 20 = .ok (.iload_n 2, 1) := by decide +kernel
theorem dX11_empties_21 : decode cX11_empties 21 = .ok (.iload_n 3, 1) := by decide +kernel
theorem dX11_empties_22 : decode cX11_empties 22 = .ok (.iadd, 1) := by decide +kernel
theorem dX11_empties_23 : decode cX11_empties 23 = .ok (.if_icmp .ge 17, 3) := by decide +kernel
theorem dX11_empties_26 : decode cX11_empties 26 = .ok (.aload_n 0, 1) := by decide +kernel
theorem dX11_empties_27 : decode cX11_empties 27 = .ok (.getfield 7, 3) := by decide +kernel
theorem dX11_empties_30 : decode cX11_empties 30 = .ok (.iload 5, 2) := by decide +kernel
theorem dX11_empties_32 : decode cX11_empties 32 = .ok (.iconst 0, 1) := by decide +kernel
theorem dX11_empties_33 : decode cX11_empties 33 = .ok (.iastore, 1) := by decide +kernel
theorem dX11_empties_34 : decode cX11_empties 34 = .ok (.iinc 5 1, 3) := by decide +kernel
theorem dX11_empties_37 : decode cX11_empties 37 = .ok (.goto (-19), 3) := by decide +kernel
theorem dX11_empties_40 : decode cX11_empties 40 = .ok (.iload 4, 2) := by decide +kernel
theorem dX11_empties_42 : decode cX11_empties 42 = .ok (.ireturn, 1) := by decide +kernel
theorem dX11_emptyText_0 : decode cX11_emptyText 0 = .ok (.aload_n 0, 1) := by decide +kernel
theorem dX11_emptyText_1 : decode cX11_emptyText 1 = .ok (.invokevirtual 54, 3) := by decide +kernel
theorem dX11_emptyText_4 : decode cX11_emptyText 4 = .ok (.aload_n 0, 1) := by decide +kernel
theorem dX11_emptyText_5 : decode cX11_emptyText 5 = .ok (.aload_n 0, 1) := by decide +kernel
theorem dX11_emptyText_6 : decode cX11_emptyText 6 = .ok (.iconst 0, 1) := by decide +kernel
theorem dX11_emptyText_7 : decode cX11_emptyText 7 = .ok (.bipush 10, 2) := by decide +kernel
theorem dX11_emptyText_9 : decode cX11_emptyText 9 = .ok (.bipush 40, 2) := by decide +kernel
theorem dX11_emptyText_11 : decode cX11_emptyText 11 = .ok (.invokevirtual 69, 3) := by decide +kernel
theorem dX11_emptyText_14 : decode cX11_emptyText 14 = .ok (.invokevirtual 50, 3) := by decide +kernel
theorem dX11_emptyText_17 : decode cX11_emptyText 17 = .ok (.ireturn, 1) := by decide +kernel
theorem dX11_sets_0 : decode cX11_sets 0 = .ok (.aload_n 0, 1) := by decide +kernel
theorem dX11_sets_1 : decode cX11_sets 1 = .ok (.iload_n 2, 1) := by decide +kernel
theorem dX11_sets_2 : decode cX11_sets 2 = .ok (.iload_n 3, 1) := by decide +kernel
theorem dX11_sets_3 : decode cX11_sets 3 = .ok (.iload 4, 2) := by decide +kernel
theorem dX11_sets_5 : decode cX11_sets 5 = .ok (.invokestatic 57, 3) := by decide +kernel
theorem dX11_sets_8 : decode cX11_sets 8 = .ok (.invokevirtual 42, 3) := by decide +kernel
theorem dX11_sets_11 : decode cX11_sets 11 = .ok (.ifCond .ne 5, 3) := by decide +kernel
theorem dX11_sets_14 : decode cX11_sets 14 = .ok (.iconst 0, 1) := by decide +kernel
theorem dX11_sets_15 : decode cX11_sets 15 = .ok (.ireturn, 1) := by decide +kernel
theorem dX11_sets_16 : decode cX11_sets 16 = .ok (.aload_n 0, 1) := by decide +kernel
theorem dX11_sets_17 : decode cX11_sets 17 = .ok (.invokevirtual 54, 3) := by decide +kernel
theorem dX11_sets_20 : decode cX11_sets 20 = .ok (.aload_n 0, 1) := by decide +kernel
theorem dX11_sets_21 : decode cX11_sets 21 = .ok (.getfield 7, 3) := by decide +kernel
theorem dX11_sets_24 : decode cX11_sets 24 = .ok (.iload_n 1, 1) := by decide +kernel
theorem dX11_sets_25 : decode cX11_sets 25 = .ok (.iaload, 1) := by decide +kernel
theorem dX11_sets_26 : decode cX11_sets 26 = .ok (.istore 5, 2) := by decide +kernel
theorem dX11_sets_28 : decode cX11_sets 28 = .ok (.aload_n 0, 1) := by decide +kernel
theorem dX11_sets_29 : decode cX11_sets 29 = .ok (.getfield 7, 3) := by decide +kernel
theorem dX11_sets_32 : decode cX11_sets 32 = .ok (.iload_n 1, 1) := by decide +kernel
theorem dX11_sets_33 : decode cX11_sets 33 = .ok (.iload_n 2, 1) := by decide +kernel
theorem dX11_sets_34 : decode cX11_sets 34 = .ok (.iastore, 1) := by decide +kernel
theorem dX11_sets_35 : decode cX11_sets 35 = .ok (.iload 5, 2) := by decide +kernel
theorem dX11_sets_37 : decode cX11_sets 37 = .ok (.ireturn, 1) := by decide +kernel
theorem dX11_setWindow_0 : decode cX11_setWindow 0 = .ok (.aload_n 0, 1) := by decide +kernel
theorem dX11_setWindow_1 : decode cX11_setWindow 1 = .ok (.iconst 1, 1) := by decide +kernel
theorem dX11_setWindow_2 : decode cX11_setWindow 2 = .ok (.iload_n 1, 1) := by decide +kernel
theorem dX11_setWindow_3 : decode cX11_setWindow 3 = .ok (.iconst 1, 1) := by decide +kernel
theorem dX11_setWindow_4 : decode cX11_setWindow 4 = .ok (.bipush 32, 2) := by decide +kernel
theorem dX11_setWindow_6 : decode cX11_setWindow 6 = .ok (.invokevirtual 73, 3) := by decide +kernel
theorem dX11_setWindow_9 : decode cX11_setWindow 9 = .ok (.ireturn, 1) := by decide +kernel
theorem dX11_setShortest_0 : decode cX11_setShortest 0 = .ok (.aload_n 0, 1) := by decide +kernel
theorem dX11_setShortest_1 : decode cX11_setShortest 1 = .ok (.iconst 2, 1) := by decide +kernel
theorem dX11_setShortest_2 : decode cX11_setShortest 2 = .ok (.iload_n 1, 1) := by decide +kernel
theorem dX11_setShortest_3 : decode cX11_setShortest 3 = .ok (.iconst 2, 1) := by decide +kernel
theorem dX11_setShortest_4 : decode cX11_setShortest 4 = .ok (.iconst 4, 1) := by decide +kernel
theorem dX11_setShortest_5 : decode cX11_setShortest 5 = .ok (.invokevirtual 73, 3) := by decide +kernel
theorem dX11_setShortest_8 : decode cX11_setShortest 8 = .ok (.ireturn, 1) := by decide +kernel
theorem dX11_setLongest_0 : decode cX11_setLongest 0 = .ok (.aload_n 0, 1) := by decide +kernel
theorem dX11_setLongest_1 : decode cX11_setLongest 1 = .ok (.iconst 3, 1) := by decide +kernel
theorem dX11_setLongest_2 : decode cX11_setLongest 2 = .ok (.iload_n 1, 1) := by decide +kernel
theorem dX11_setLongest_3 : decode cX11_setLongest 3 = .ok (.iconst 4, 1) := by decide +kernel
theorem dX11_setLongest_4 : decode cX11_setLongest 4 = .ok (.bipush 9, 2) := by decide +kernel
theorem dX11_setLongest_6 : decode cX11_setLongest 6 = .ok (.invokevirtual 73, 3) := by decide +kernel
theorem dX11_setLongest_9 : decode cX11_setLongest 9 = .ok (.ireturn, 1) := by decide +kernel
theorem dX11_setLetterPrice_0 : decode cX11_setLetterPrice 0 = .ok (.aload_n 0, 1) := by decide +kernel
theorem dX11_setLetterPrice_1 : decode cX11_setLetterPrice 1 = .ok (.iconst 4, 1) := by decide +kernel
theorem dX11_setLetterPrice_2 : decode cX11_setLetterPrice 2 = .ok (.iload_n 1, 1) := by decide +kernel
theorem dX11_setLetterPrice_3 : decode cX11_setLetterPrice 3 = .ok (.iconst 1, 1) := by decide +kernel
theorem dX11_setLetterPrice_4 : decode cX11_setLetterPrice 4 = .ok (.bipush 9, 2) := by decide +kernel
theorem dX11_setLetterPrice_6 : decode cX11_setLetterPrice 6 = .ok (.invokevirtual 73, 3) := by decide +kernel
theorem dX11_setLetterPrice_9 : decode cX11_setLetterPrice 9 = .ok (.ireturn, 1) := by decide +kernel
theorem dX11_setRepeatPrice_0 : decode cX11_setRepeatPrice 0 = .ok (.aload_n 0, 1) := by decide +kernel
theorem dX11_setRepeatPrice_1 : decode cX11_setRepeatPrice 1 = .ok (.iconst 5, 1) := by decide +kernel
theorem dX11_setRepeatPrice_2 : decode cX11_setRepeatPrice 2 = .ok (.iload_n 1, 1) := by decide +kernel
theorem dX11_setRepeatPrice_3 : decode cX11_setRepeatPrice 3 = .ok (.iconst 1, 1) := by decide +kernel
theorem dX11_setRepeatPrice_4 : decode cX11_setRepeatPrice 4 = .ok (.bipush 20, 2) := by decide +kernel
theorem dX11_setRepeatPrice_6 : decode cX11_setRepeatPrice 6 = .ok (.invokevirtual 73, 3) := by decide +kernel
theorem dX11_setRepeatPrice_9 : decode cX11_setRepeatPrice 9 = .ok (.ireturn, 1) := by decide +kernel
theorem dX11_alike_0 : decode cX11_alike 0 = .ok (.iconst 0, 1) := by decide +kernel
theorem dX11_alike_1 : decode cX11_alike 1 = .ok (.istore_n 3, 1) := by decide +kernel
theorem dX11_alike_2 : decode cX11_alike 2 = .ok (.iload_n 3, 1) := by decide +kernel
theorem dX11_alike_3 : decode cX11_alike 3 = .ok (.aload_n 0, 1) := by decide +kernel
theorem dX11_alike_4 : decode cX11_alike 4 = .ok (.getfield 7, 3) := by decide +kernel
theorem dX11_alike_7 : decode cX11_alike 7 = .ok (.iconst 3, 1) := by decide +kernel
theorem dX11_alike_8 : decode cX11_alike 8 = .ok (.iaload, 1) := by decide +kernel
theorem dX11_alike_9 : decode cX11_alike 9 = .ok (.if_icmp .ge 48, 3) := by decide +kernel
theorem dX11_alike_12 : decode cX11_alike 12 = .ok (.iload_n 1, 1) := by decide +kernel
theorem dX11_alike_13 : decode cX11_alike 13 = .ok (.iload_n 3, 1) := by decide +kernel
theorem dX11_alike_14 : decode cX11_alike 14 = .ok (.iadd, 1) := by decide +kernel
theorem dX11_alike_15 : decode cX11_alike 15 = .ok (.aload_n 0, 1) := by decide +kernel
theorem dX11_alike_16 : decode cX11_alike 16 = .ok (.getfield 7, 3) := by decide +kernel
theorem dX11_alike_19 : decode cX11_alike 19 = .ok (.iconst 0, 1) := by decide +kernel
theorem dX11_alike_20 : decode cX11_alike 20 = .ok (.iaload, 1) := by decide +kernel
theorem dX11_alike_21 : decode cX11_alike 21 = .ok (.if_icmp .ge 36, 3) := by decide +kernel
theorem dX11_alike_24 : decode cX11_alike 24 = .ok (.aload_n 0, 1) := by decide +kernel
theorem dX11_alike_25 : decode cX11_alike 25 = .ok (.getfield 7, 3) := by decide +kernel
theorem dX11_alike_28 : decode cX11_alike 28 = .ok (.bipush 10, 2) := by decide +kernel
theorem dX11_alike_30 : decode cX11_alike 30 = .ok (.iload_n 1, 1) := by decide +kernel
theorem dX11_alike_31 : decode cX11_alike 31 = .ok (.iadd, 1) := by decide +kernel
theorem dX11_alike_32 : decode cX11_alike 32 = .ok (.iload_n 3, 1) := by decide +kernel
theorem dX11_alike_33 : decode cX11_alike 33 = .ok (.iadd, 1) := by decide +kernel
theorem dX11_alike_34 : decode cX11_alike 34 = .ok (.iaload, 1) := by decide +kernel
theorem dX11_alike_35 : decode cX11_alike 35 = .ok (.aload_n 0, 1) := by decide +kernel
theorem dX11_alike_36 : decode cX11_alike 36 = .ok (.getfield 7, 3) := by decide +kernel
theorem dX11_alike_39 : decode cX11_alike 39 = .ok (.bipush 10, 2) := by decide +kernel
theorem dX11_alike_41 : decode cX11_alike 41 = .ok (.iload_n 1, 1) := by decide +kernel
theorem dX11_alike_42 : decode cX11_alike 42 = .ok (.iadd, 1) := by decide +kernel
theorem dX11_alike_43 : decode cX11_alike 43 = .ok (.iload_n 3, 1) := by decide +kernel
theorem dX11_alike_44 : decode cX11_alike 44 = .ok (.iadd, 1) := by decide +kernel
theorem dX11_alike_45 : decode cX11_alike 45 = .ok (.iload_n 2, 1) := by decide +kernel
theorem dX11_alike_46 : decode cX11_alike 46 = .ok (.isub, 1) := by decide +kernel
theorem dX11_alike_47 : decode cX11_alike 47 = .ok (.iaload, 1) := by decide +kernel
theorem dX11_alike_48 : decode cX11_alike 48 = .ok (.if_icmp .ne 9, 3) := by decide +kernel
theorem dX11_alike_51 : decode cX11_alike 51 = .ok (.iinc 3 1, 3) := by decide +kernel
theorem dX11_alike_54 : decode cX11_alike 54 = .ok (.goto (-52), 3) := by decide +kernel
theorem dX11_alike_57 : decode cX11_alike 57 = .ok (.iload_n 3, 1) := by decide +kernel
theorem dX11_alike_58 : decode cX11_alike 58 = .ok (.ireturn, 1) := by decide +kernel
theorem dX11_longestAt_0 : decode cX11_longestAt 0 = .ok (.iconst 0, 1) := by decide +kernel
theorem dX11_longestAt_1 : decode cX11_longestAt 1 = .ok (.istore_n 3, 1) := by decide +kernel
theorem dX11_longestAt_2 : decode cX11_longestAt 2 = .ok (.iconst 1, 1) := by decide +kernel
theorem dX11_longestAt_3 : decode cX11_longestAt 3 = .ok (.istore 4, 2) := by decide +kernel
theorem dX11_longestAt_5 : decode cX11_longestAt 5 = .ok (.iload 4, 2) := by decide +kernel
theorem dX11_longestAt_7 : decode cX11_longestAt 7 = .ok (.iload_n 2, 1) := by decide +kernel
theorem dX11_longestAt_8 : decode cX11_longestAt 8 = .ok (.if_icmp .gt 48, 3) := by decide +kernel
theorem dX11_longestAt_11 : decode cX11_longestAt 11 = .ok (.iload 4, 2) := by decide +kernel
theorem dX11_longestAt_13 : decode cX11_longestAt 13 = .ok (.iload_n 1, 1) := by decide +kernel
theorem dX11_longestAt_14 : decode cX11_longestAt 14 = .ok (.if_icmp .gt 42, 3) := by decide +kernel
theorem dX11_longestAt_17 : decode cX11_longestAt 17 = .ok (.aload_n 0, 1) := by decide +kernel
theorem dX11_longestAt_18 : decode cX11_longestAt 18 = .ok (.iload_n 1, 1) := by decide +kernel
theorem dX11_longestAt_19 : decode cX11_longestAt 19 = .ok (.iload 4, 2) := by decide +kernel
theorem dX11_longestAt_21 : decode cX11_longestAt 21 = .ok (.invokevirtual 77, 3) := by decide +kernel
theorem dX11_longestAt_24 : decode cX11_longestAt 24 = .ok (.istore 5, 2) := by decide +kernel
theorem dX11_longestAt_26 : decode cX11_longestAt 26 = .ok (.iload 5, 2) := by decide +kernel
theorem dX11_longestAt_28 : decode cX11_longestAt 28 = .ok (.aload_n 0, 1) := by decide +kernel
theorem dX11_longestAt_29 : decode cX11_longestAt 29 = .ok (.getfield 7, 3) := by decide +kernel
theorem dX11_longestAt_32 : decode cX11_longestAt 32 = .ok (.iconst 2, 1) := by decide +kernel
theorem dX11_longestAt_33 : decode cX11_longestAt 33 = .ok (.iaload, 1) := by decide +kernel
theorem dX11_longestAt_34 : decode cX11_longestAt 34 = .ok (.if_icmp .lt 14, 3) := by decide +kernel
theorem dX11_longestAt_37 : decode cX11_longestAt 37 = .ok (.iload 5, 2) := by decide +kernel
theorem dX11_longestAt_39 : decode cX11_longestAt 39 = .ok (.iload_n 3, 1) := by decide +kernel
theorem dX11_longestAt_40 : decode cX11_longestAt 40 = .ok (.if_icmp .le 8, 3) := by decide +kernel
theorem dX11_longestAt_43 : decode cX11_longestAt 43 = .ok (.iload 5, 2) := by decide +kernel
theorem dX11_longestAt_45 : decode cX11_longestAt 45 = .ok (.goto 4, 3) := by decide +kernel
theorem dX11_longestAt_48 : decode cX11_longestAt 48 = .ok (.iload_n 3, 1) := by decide +kernel
theorem dX11_longestAt_49 : decode cX11_longestAt 49 = .ok (.istore_n 3, 1) := by decide +kernel
theorem dX11_longestAt_50 : decode cX11_longestAt 50 = .ok (.iinc 4 1, 3) := by decide +kernel
theorem dX11_longestAt_53 : decode cX11_longestAt 53 = .ok (.goto (-48), 3) := by decide +kernel
theorem dX11_longestAt_56 : decode cX11_longestAt 56 = .ok (.iload_n 3, 1) := by decide +kernel
theorem dX11_longestAt_57 : decode cX11_longestAt 57 = .ok (.ireturn, 1) := by decide +kernel
theorem dX11_distanceFor_0 : decode cX11_distanceFor 0 = .ok (.iconst 1, 1) := by decide +kernel
theorem dX11_distanceFor_1 : decode cX11_distanceFor 1 = .ok (.istore_n 3, 1) := by decide +kernel
theorem dX11_distanceFor_2 : decode cX11_distanceFor 2 = .ok (.aload_n 0, 1) := by decide +kernel
theorem dX11_distanceFor_3 : decode cX11_distanceFor 3 = .ok (.iload_n 1, 1) := by decide +kernel
theorem dX11_distanceFor_4 : decode cX11_distanceFor 4 = .ok (.iload_n 3, 1) := by decide +kernel
theorem dX11_distanceFor_5 : decode cX11_distanceFor 5 = .ok (.invokevirtual 77, 3) := by decide +kernel
theorem dX11_distanceFor_8 : decode cX11_distanceFor 8 = .ok (.iload_n 2, 1) := by decide +kernel
theorem dX11_distanceFor_9 : decode cX11_distanceFor 9 = .ok (.if_icmp .ge 9, 3) := by decide +kernel
theorem dX11_distanceFor_12 : decode cX11_distanceFor 12 = .ok (.iinc 3 1, 3) := by decide +kernel
theorem dX11_distanceFor_15 : decode cX11_distanceFor 15 = .ok (.goto (-13), 3) := by decide +kernel
theorem dX11_distanceFor_18 : decode cX11_distanceFor 18 = .ok (.iload_n 3, 1) := by decide +kernel
theorem dX11_distanceFor_19 : decode cX11_distanceFor 19 = .ok (.ireturn, 1) := by decide +kernel
theorem dX11_pairAt_0 : decode cX11_pairAt 0 = .ok (.iconst 4, 1) := by decide +kernel
theorem dX11_pairAt_1 : decode cX11_pairAt 1 = .ok (.aload_n 0, 1) := by decide +kernel
theorem dX11_pairAt_2 : decode cX11_pairAt 2 = .ok (.getfield 7, 3) := by decide +kernel
theorem dX11_pairAt_5 : decode cX11_pairAt 5 = .ok (.bipush 10, 2) := by decide +kernel
theorem dX11_pairAt_7 : decode cX11_pairAt 7 = .ok (.iload_n 1, 1) := by decide +kernel
theorem dX11_pairAt_8 : decode cX11_pairAt 8 = .ok (.iadd, 1) := by decide +kernel
theorem dX11_pairAt_9 : decode cX11_pairAt 9 = .ok (.iaload, 1) := by decide +kernel
theorem dX11_pairAt_10 : decode cX11_pairAt 10 = .ok (.imul, 1) := by decide +kernel
theorem dX11_pairAt_11 : decode cX11_pairAt 11 = .ok (.aload_n 0, 1) := by decide +kernel
theorem dX11_pairAt_12 : decode cX11_pairAt 12 = .ok (.getfield 7, 3) := by decide +kernel
theorem dX11_pairAt_15 : decode cX11_pairAt 15 = .ok (.bipush 10, 2) := by decide +kernel
theorem dX11_pairAt_17 : decode cX11_pairAt 17 = .ok (.iload_n 1, 1) := by decide +kernel
theorem dX11_pairAt_18 : decode cX11_pairAt 18 = .ok (.iadd, 1) := by decide +kernel
theorem dX11_pairAt_19 : decode cX11_pairAt 19 = .ok (.iconst 1, 1) := by decide +kernel
theorem dX11_pairAt_20 : decode cX11_pairAt 20 = .ok (.iadd, 1) := by decide +kernel
theorem dX11_pairAt_21 : decode cX11_pairAt 21 = .ok (.iaload, 1) := by decide +kernel
theorem dX11_pairAt_22 : decode cX11_pairAt 22 = .ok (.iadd, 1) := by decide +kernel
theorem dX11_pairAt_23 : decode cX11_pairAt 23 = .ok (.ireturn, 1) := by decide +kernel
theorem dX11_longestByPairs_0 : decode cX11_longestByPairs 0 = .ok (.iconst 0, 1) := by decide +kernel
theorem dX11_longestByPairs_1 : decode cX11_longestByPairs 1 = .ok (.istore_n 2, 1) := by decide +kernel
theorem dX11_longestByPairs_2 : decode cX11_longestByPairs 2 = .ok (.iload_n 1, 1) := by decide +kernel
theorem dX11_longestByPairs_3 : decode cX11_longestByPairs 3 = .ok (.iconst 1, 1) := by decide +kernel
theorem dX11_longestByPairs_4 : decode cX11_longestByPairs 4 = .ok (.isub, 1) := by decide +kernel
theorem dX11_longestByPairs_5 : decode cX11_longestByPairs 5 = .ok (.istore_n 3, 1) := by decide +kernel
theorem dX11_longestByPairs_6 : decode cX11_longestByPairs 6 = .ok (.iload_n 3, 1) := by decide +kernel
theorem dX11_longestByPairs_7 : decode cX11_longestByPairs 7 = .ok (.ifCond .lt 96, 3) := by decide +kernel
theorem dX11_longestByPairs_10 : decode cX11_longestByPairs 10 = .ok (.iload_n 1, 1) := by decide +kernel
theorem dX11_longestByPairs_11 : decode cX11_longestByPairs 11 = .ok (.iconst 1, 1) := by decide +kernel
theorem dX11_longestByPairs_12 : decode cX11_longestByPairs 12 = .ok (.iadd, 1) := by decide +kernel
theorem dX11_longestByPairs_13 : decode cX11_longestByPairs 13 = .ok (.aload_n 0, 1) := by decide +kernel
theorem dX11_longestByPairs_14 : decode cX11_longestByPairs 14 = .ok (.getfield 7, 3) := by decide +kernel
theorem dX11_longestByPairs_17 : decode cX11_longestByPairs 17 = .ok (.iconst 0, 1) := by decide +kernel
theorem dX11_longestByPairs_18 : decode cX11_longestByPairs 18 = .ok (.iaload, 1) := by decide +kernel
theorem dX11_longestByPairs_19 : decode cX11_longestByPairs 19 = .ok (.if_icmp .ge 84, 3) := by decide +kernel
theorem dX11_longestByPairs_22 : decode cX11_longestByPairs 22 = .ok (.aload_n 0, 1) := by decide +kernel
theorem dX11_longestByPairs_23 : decode cX11_longestByPairs 23 = .ok (.iload_n 3, 1) := by decide +kernel
theorem dX11_longestByPairs_24 : decode cX11_longestByPairs 24 = .ok (.invokevirtual 81, 3) := by decide +kernel
theorem dX11_longestByPairs_27 : decode cX11_longestByPairs 27 = .ok (.aload_n 0, 1) := by decide +kernel
theorem dX11_longestByPairs_28 : decode cX11_longestByPairs 28 = .ok (.iload_n 1, 1) := by decide +kernel
theorem dX11_longestByPairs_29 : decode cX11_longestByPairs 29 = .ok (.invokevirtual 81, 3) := by decide +kernel
theorem dX11_longestByPairs_32 : decode cX11_longestByPairs 32 = .ok (.if_icmp .ne 19, 3) := by decide +kernel
theorem dX11_longestByPairs_35 : decode cX11_longestByPairs 35 = .ok (.iload_n 1, 1) := by decide +kernel
theorem dX11_longestByPairs_36 : decode cX11_longestByPairs 36 = .ok (.iload_n 3, 1) := by decide +kernel
theorem dX11_longestByPairs_37 : decode cX11_longestByPairs 37 = .ok (.isub, 1) := by decide +kernel
theorem dX11_longestByPairs_38 : decode cX11_longestByPairs 38 = .ok (.aload_n 0, 1) := by decide +kernel
theorem dX11_longestByPairs_39 : decode cX11_longestByPairs 39 = .ok (.getfield 7, 3) := by decide +kernel
theorem dX11_longestByPairs_42 : decode cX11_longestByPairs 42 = .ok (.iconst 1, 1) := by decide +kernel
theorem dX11_longestByPairs_43 : decode cX11_longestByPairs 43 = .ok (.iaload, 1) := by decide +kernel
theorem dX11_longestByPairs_44 : decode cX11_longestByPairs 44 = .ok (.if_icmp .gt 7, 3) := by decide +kernel
theorem dX11_longestByPairs_47 : decode cX11_longestByPairs 47 = .ok (.iconst 1, 1) := by decide +kernel
theorem dX11_longestByPairs_48 : decode cX11_longestByPairs 48 = .ok (.goto 4, 3) := by decide +kernel
theorem dX11_longestByPairs_51 : decode cX11_longestByPairs 51 = .ok (.iconst 0, 1) := by decide +kernel
theorem dX11_longestByPairs_52 : decode cX11_longestByPairs 52 = .ok (.istore 4, 2) := by decide +kernel
theorem dX11_longestByPairs_54 : decode cX11_longestByPairs 54 = .ok (.iload 4, 2) := by decide +kernel
theorem dX11_longestByPairs_56 : decode cX11_longestByPairs 56 = .ok (.ifCond .eq 14, 3) := by decide +kernel
theorem dX11_longestByPairs_59 : decode cX11_longestByPairs 59 = .ok (.aload_n 0, 1) := by decide +kernel
theorem dX11_longestByPairs_60 : decode cX11_longestByPairs 60 = .ok (.iload_n 1, 1) := by decide +kernel
theorem dX11_longestByPairs_61 : decode cX11_longestByPairs 61 = .ok (.iload_n 1, 1) := by decide +kernel
theorem dX11_longestByPairs_62 : decode cX11_longestByPairs 62 = .ok (.iload_n 3, 1) := by decide +kernel
theorem dX11_longestByPairs_63 : decode cX11_longestByPairs 63 = .ok (.isub, 1) := by decide +kernel
theorem dX11_longestByPairs_64 : decode cX11_longestByPairs 64 = .ok (.invokevirtual 77, 3) := by decide +kernel
theorem dX11_longestByPairs_67 : decode cX11_longestByPairs 67 = .ok (.goto 4, 3) := by decide +kernel
theorem dX11_longestByPairs_70 : decode cX11_longestByPairs 70 = .ok (.iconst 0, 1) := by decide +kernel
theorem dX11_longestByPairs_71 : decode cX11_longestByPairs 71 = .ok (.istore 5, 2) := by decide +kernel
theorem dX11_longestByPairs_73 : decode cX11_longestByPairs 73 = .ok (.iload 5, 2) := by decide +kernel
theorem dX11_longestByPairs_75 : decode cX11_longestByPairs 75 = .ok (.aload_n 0, 1) := by decide +kernel
theorem dX11_longestByPairs_76 : decode cX11_longestByPairs 76 = .ok (.getfield 7, 3) := by decide +kernel
theorem dX11_longestByPairs_79 : decode cX11_longestByPairs 79 = .ok (.iconst 2, 1) := by decide +kernel
theorem dX11_longestByPairs_80 : decode cX11_longestByPairs 80 = .ok (.iaload, 1) := by decide +kernel
theorem dX11_longestByPairs_81 : decode cX11_longestByPairs 81 = .ok (.if_icmp .lt 14, 3) := by decide +kernel
theorem dX11_longestByPairs_84 : decode cX11_longestByPairs 84 = .ok (.iload 5, 2) := by decide +kernel
theorem dX11_longestByPairs_86 : decode cX11_longestByPairs 86 = .ok (.iload_n 2, 1) := by decide +kernel
theorem dX11_longestByPairs_87 : decode cX11_longestByPairs 87 = .ok (.if_icmp .le 8, 3) := by decide +kernel
theorem dX11_longestByPairs_90 : decode cX11_longestByPairs 90 = .ok (.iload 5, 2) := by decide +kernel
theorem dX11_longestByPairs_92 : decode cX11_longestByPairs 92 = .ok (.goto 4, 3) := by decide +kernel
theorem dX11_longestByPairs_95 : decode cX11_longestByPairs 95 = .ok (.iload_n 2, 1) := by decide +kernel
theorem dX11_longestByPairs_96 : decode cX11_longestByPairs 96 = .ok (.istore_n 2, 1) := by decide +kernel
theorem dX11_longestByPairs_97 : decode cX11_longestByPairs 97 = .ok (.iinc 3 (-1), 3) := by decide +kernel
theorem dX11_longestByPairs_100 : decode cX11_longestByPairs 100 = .ok (.goto (-94), 3) := by decide +kernel
theorem dX11_longestByPairs_103 : decode cX11_longestByPairs 103 = .ok (.iload_n 2, 1) := by decide +kernel
theorem dX11_longestByPairs_104 : decode cX11_longestByPairs 104 = .ok (.ireturn, 1) := by decide +kernel
theorem dX11_costsToEnd_0 : decode cX11_costsToEnd 0 = .ok (.aload_n 0, 1) := by decide +kernel
theorem dX11_costsToEnd_1 : decode cX11_costsToEnd 1 = .ok (.getfield 22, 3) := by decide +kernel
theorem dX11_costsToEnd_4 : decode cX11_costsToEnd 4 = .ok (.aload_n 0, 1) := by decide +kernel
theorem dX11_costsToEnd_5 : decode cX11_costsToEnd 5 = .ok (.getfield 7, 3) := by decide +kernel
theorem dX11_costsToEnd_8 : decode cX11_costsToEnd 8 = .ok (.iconst 0, 1) := by decide +kernel
theorem dX11_costsToEnd_9 : decode cX11_costsToEnd 9 = .ok (.iaload, 1) := by decide +kernel
theorem dX11_costsToEnd_10 : decode cX11_costsToEnd 10 = .ok (.iconst 0, 1) := by decide +kernel
theorem dX11_costsToEnd_11 : decode cX11_costsToEnd 11 = .ok (.iastore, 1) := by decide +kernel
theorem dX11_costsToEnd_12 : decode cX11_costsToEnd 12 = .ok (.aload_n 0, 1) := by decide +kernel
theorem dX11_costsToEnd_13 : decode cX11_costsToEnd 13 = .ok (.getfield 7, 3) := by decide +kernel
theorem dX11_costsToEnd_16 : decode cX11_costsToEnd 16 = .ok (.iconst 0, 1) := by decide +kernel
theorem dX11_costsToEnd_17 : decode cX11_costsToEnd 17 = .ok (.iaload, 1) := by decide +kernel
theorem dX11_costsToEnd_18 : decode cX11_costsToEnd 18 = .ok (.iconst 1, 1) := by decide +kernel
theorem dX11_costsToEnd_19 : decode cX11_costsToEnd 19 = .ok (.isub, 1) := by decide +kernel
theorem dX11_costsToEnd_20 : decode cX11_costsToEnd 20 = .ok (.istore_n 2, 1) := by decide +kernel
theorem dX11_costsToEnd_21 : decode cX11_costsToEnd 21 = .ok (.iload_n 2, 1) := by decide +kernel
theorem dX11_costsToEnd_22 : decode cX11_costsToEnd 22 = .ok (.ifCond .lt 103, 3) := by decide +kernel
theorem dX11_costsToEnd_25 : decode cX11_costsToEnd 25 = .ok (.aload_n 0, 1) := by decide +kernel
theorem dX11_costsToEnd_26 : decode cX11_costsToEnd 26 = .ok (.getfield 22, 3) := by decide +kernel
theorem dX11_costsToEnd_29 : decode cX11_costsToEnd 29 = .ok (.iload_n 2, 1) := by decide +kernel
theorem dX11_costsToEnd_30 : decode cX11_costsToEnd 30 = .ok (.aload_n 0, 1) := by decide +kernel
theorem dX11_costsToEnd_31 : decode cX11_costsToEnd 31 = .ok (.getfield 7, 3) := by decide +kernel
theorem dX11_costsToEnd_34 : decode cX11_costsToEnd 34 = .ok (.iconst 4, 1) := by decide +kernel
theorem dX11_costsToEnd_35 : decode cX11_costsToEnd 35 = .ok (.iaload, 1) := by decide +kernel
theorem dX11_costsToEnd_36 : decode cX11_costsToEnd 36 = .ok (.aload_n 0, 1) := by decide +kernel
theorem dX11_costsToEnd_37 : decode cX11_costsToEnd 37 = .ok (.getfield 22, 3) := by decide +kernel
theorem dX11_costsToEnd_40 : decode cX11_costsToEnd 40 = .ok (.iload_n 2, 1) := by decide +kernel
theorem dX11_costsToEnd_41 : decode cX11_costsToEnd 41 = .ok (.iconst 1, 1) := by decide +kernel
theorem dX11_costsToEnd_42 : decode cX11_costsToEnd 42 = .ok (.iadd, 1) := by decide +kernel
theorem dX11_costsToEnd_43 : decode cX11_costsToEnd 43 = .ok (.iaload, 1) := by decide +kernel
theorem dX11_costsToEnd_44 : decode cX11_costsToEnd 44 = .ok (.iadd, 1) := by decide +kernel
theorem dX11_costsToEnd_45 : decode cX11_costsToEnd 45 = .ok (.iastore, 1) := by decide +kernel
theorem dX11_costsToEnd_46 : decode cX11_costsToEnd 46 = .ok (.aload_n 0, 1) := by decide +kernel
theorem dX11_costsToEnd_47 : decode cX11_costsToEnd 47 = .ok (.iload_n 2, 1) := by decide +kernel
theorem dX11_costsToEnd_48 : decode cX11_costsToEnd 48 = .ok (.iload_n 1, 1) := by decide +kernel
theorem dX11_costsToEnd_49 : decode cX11_costsToEnd 49 = .ok (.invokevirtual 84, 3) := by decide +kernel
theorem dX11_costsToEnd_52 : decode cX11_costsToEnd 52 = .ok (.istore_n 3, 1) := by decide +kernel
theorem dX11_costsToEnd_53 : decode cX11_costsToEnd 53 = .ok (.aload_n 0, 1) := by decide +kernel
theorem dX11_costsToEnd_54 : decode cX11_costsToEnd 54 = .ok (.getfield 7, 3) := by decide +kernel
theorem dX11_costsToEnd_57 : decode cX11_costsToEnd 57 = .ok (.iconst 2, 1) := by decide +kernel
theorem dX11_costsToEnd_58 : decode cX11_costsToEnd 58 = .ok (.iaload, 1) := by decide +kernel
theorem dX11_costsToEnd_59 : decode cX11_costsToEnd 59 = .ok (.istore 4, 2) := by decide +kernel
theorem dX11_costsToEnd_61 : decode cX11_costsToEnd 61 = .ok (.iload 4, 2) := by decide +kernel
theorem dX11_costsToEnd_63 : decode cX11_costsToEnd 63 = .ok (.iload_n 3, 1) := by decide +kernel
theorem dX11_costsToEnd_64 : decode cX11_costsToEnd 64 = .ok (.if_icmp .gt 55, 3) := by decide +kernel
theorem dX11_costsToEnd_67 : decode cX11_costsToEnd 67 = .ok (.aload_n 0, 1) := by decide +kernel
theorem dX11_costsToEnd_68 : decode cX11_costsToEnd 68 = .ok (.getfield 7, 3) := by decide +kernel
theorem dX11_costsToEnd_71 : decode cX11_costsToEnd 71 = .ok (.iconst 5, 1) := by decide +kernel
theorem dX11_costsToEnd_72 : decode cX11_costsToEnd 72 = .ok (.iaload, 1) := by decide +kernel
theorem dX11_costsToEnd_73 : decode cX11_costsToEnd 73 = .ok (.aload_n 0, 1) := by decide +kernel
theorem dX11_costsToEnd_74 : decode cX11_costsToEnd 74 = .ok (.getfield 22, 3) := by decide +kernel
theorem dX11_costsToEnd_77 : decode cX11_costsToEnd 77 = .ok (.iload_n 2, 1) := by decide +kernel
theorem dX11_costsToEnd_78 : decode cX11_costsToEnd 78 = .ok (.iload 4, 2) := by decide +kernel
theorem dX11_costsToEnd_80 : decode cX11_costsToEnd 80 = .ok (.iadd, 1) := by decide +kernel
theorem dX11_costsToEnd_81 : decode cX11_costsToEnd 81 = .ok (.iaload, 1) := by decide +kernel
theorem dX11_costsToEnd_82 : decode cX11_costsToEnd 82 = .ok (.iadd, 1) := by decide +kernel
theorem dX11_costsToEnd_83 : decode cX11_costsToEnd 83 = .ok (.istore 5, 2) := by decide +kernel
theorem dX11_costsToEnd_85 : decode cX11_costsToEnd 85 = .ok (.aload_n 0, 1) := by decide +kernel
theorem dX11_costsToEnd_86 : decode cX11_costsToEnd 86 = .ok (.getfield 22, 3) := by decide +kernel
theorem dX11_costsToEnd_89 : decode cX11_costsToEnd 89 = .ok (.iload_n 2, 1) := by decide +kernel
theorem dX11_costsToEnd_90 : decode cX11_costsToEnd 90 = .ok (.iload 5, 2) := by decide +kernel
theorem dX11_costsToEnd_92 : decode cX11_costsToEnd 92 = .ok (.aload_n 0, 1) := by decide +kernel
theorem dX11_costsToEnd_93 : decode cX11_costsToEnd 93 = .ok (.getfield 22, 3) := by decide +kernel
theorem dX11_costsToEnd_96 : decode cX11_costsToEnd 96 = .ok (.iload_n 2, 1) := by decide +kernel
theorem dX11_costsToEnd_97 : decode cX11_costsToEnd 97 = .ok (.iaload, 1) := by decide +kernel
theorem dX11_costsToEnd_98 : decode cX11_costsToEnd 98 = .ok (.if_icmp .ge 8, 3) := by decide +kernel
theorem dX11_costsToEnd_101 : decode cX11_costsToEnd 101 = .ok (.iload 5, 2) := by decide +kernel
theorem dX11_costsToEnd_103 : decode cX11_costsToEnd 103 = .ok (.goto 9, 3) := by decide +kernel
theorem dX11_costsToEnd_106 : decode cX11_costsToEnd 106 = .ok (.aload_n 0, 1) := by decide +kernel
theorem dX11_costsToEnd_107 : decode cX11_costsToEnd 107 = .ok (.getfield 22, 3) := by decide +kernel
theorem dX11_costsToEnd_110 : decode cX11_costsToEnd 110 = .ok (.iload_n 2, 1) := by decide +kernel
theorem dX11_costsToEnd_111 : decode cX11_costsToEnd 111 = .ok (.iaload, 1) := by decide +kernel
theorem dX11_costsToEnd_112 : decode cX11_costsToEnd 112 = .ok (.iastore, 1) := by decide +kernel
theorem dX11_costsToEnd_113 : decode cX11_costsToEnd 113 = .ok (.iinc 4 1, 3) := by decide +kernel
theorem dX11_costsToEnd_116 : decode cX11_costsToEnd 116 = .ok (.goto (-55), 3) := by decide +kernel
theorem dX11_costsToEnd_119 : decode cX11_costsToEnd 119 = .ok (.iinc 2 (-1), 3) := by decide +kernel
theorem dX11_costsToEnd_122 : decode cX11_costsToEnd 122 = .ok (.goto (-101), 3) := by decide +kernel
theorem dX11_costsToEnd_125 : decode cX11_costsToEnd 125 = .ok (.return_, 1) := by decide +kernel
theorem dX11_fromBeginning_0 : decode cX11_fromBeginning 0 = .ok (.iconst 0, 1) := by decide +kernel
theorem dX11_fromBeginning_1 : decode cX11_fromBeginning 1 = .ok (.istore_n 1, 1) := by decide +kernel
theorem dX11_fromBeginning_2 : decode cX11_fromBeginning 2 = .ok (.iload_n 1, 1) := by decide +kernel
theorem dX11_fromBeginning_3 : decode cX11_fromBeginning 3 = .ok (.aload_n 0, 1) := by decide +kernel
theorem dX11_fromBeginning_4 : decode cX11_fromBeginning 4 = .ok (.getfield 7, 3) := by decide +kernel
theorem dX11_fromBeginning_7 : decode cX11_fromBeginning 7 = .ok (.iconst 0, 1) := by decide +kernel
theorem dX11_fromBeginning_8 : decode cX11_fromBeginning 8 = .ok (.iaload, 1) := by decide +kernel
theorem dX11_fromBeginning_9 : decode cX11_fromBeginning 9 = .ok (.if_icmp .gt 25, 3) := by decide +kernel
theorem dX11_fromBeginning_12 : decode cX11_fromBeginning 12 = .ok (.aload_n 0, 1) := by decide +kernel
theorem dX11_fromBeginning_13 : decode cX11_fromBeginning 13 = .ok (.getfield 22, 3) := by decide +kernel
theorem dX11_fromBeginning_16 : decode cX11_fromBeginning 16 = .ok (.iload_n 1, 1) := by decide +kernel
theorem dX11_fromBeginning_17 : decode cX11_fromBeginning 17 = .ok (.iload_n 1, 1) := by decide +kernel
theorem dX11_fromBeginning_18 : decode cX11_fromBeginning 18 = .ok (.ifCond .ne 7, 3) := by decide +kernel
theorem dX11_fromBeginning_21 : decode cX11_fromBeginning 21 = .ok (.iconst 0, 1) := by decide +kernel
theorem dX11_fromBeginning_22 : decode cX11_fromBeginning 22 = .ok (.goto 5, 3) := by decide +kernel
theorem dX11_fromBeginning_25 : decode cX11_fromBeginning 25 = .ok (.ldc 87, 2) := by decide +kernel
theorem dX11_fromBeginning_27 : decode cX11_fromBeginning 27 = .ok (.iastore, 1) := by decide +kernel
theorem dX11_fromBeginning_28 : decode cX11_fromBeginning 28 = .ok (.iinc 1 1, 3) := by decide +kernel
theorem dX11_fromBeginning_31 : decode cX11_fromBeginning 31 = .ok (.goto (-29), 3) := by decide +kernel
theorem dX11_fromBeginning_34 : decode cX11_fromBeginning 34 = .ok (.iconst 0, 1) := by decide +kernel
theorem dX11_fromBeginning_35 : decode cX11_fromBeginning 35 = .ok (.istore_n 1, 1) := by decide +kernel
theorem dX11_fromBeginning_36 : decode cX11_fromBeginning 36 = .ok (.iload_n 1, 1) := by decide +kernel
theorem dX11_fromBeginning_37 : decode cX11_fromBeginning 37 = .ok (.aload_n 0, 1) := by decide +kernel
theorem dX11_fromBeginning_38 : decode cX11_fromBeginning 38 = .ok (.getfield 7, 3) := by decide +kernel
theorem dX11_fromBeginning_41 : decode cX11_fromBeginning 41 = .ok (.iconst 0, 1) := by decide +kernel
theorem dX11_fromBeginning_42 : decode cX11_fromBeginning 42 = .ok (.iaload, 1) := by decide +kernel
theorem dX11_fromBeginning_43 : decode cX11_fromBeginning 43 = .ok (.if_icmp .ge 136, 3) := by decide +kernel
theorem dX11_fromBeginning_46 : decode cX11_fromBeginning 46 = .ok (.aload_n 0, 1) := by decide +kernel
theorem dX11_fromBeginning_47 : decode cX11_fromBeginning 47 = .ok (.getfield 22, 3) := by decide +kernel
theorem dX11_fromBeginning_50 : decode cX11_fromBeginning 50 = .ok (.iload_n 1, 1) := by decide +kernel
theorem dX11_fromBeginning_51 : decode cX11_fromBeginning 51 = .ok (.iaload, 1) := by decide +kernel
theorem dX11_fromBeginning_52 : decode cX11_fromBeginning 52 = .ok (.aload_n 0, 1) := by decide +kernel
theorem dX11_fromBeginning_53 : decode cX11_fromBeginning 53 = .ok (.getfield 7, 3) := by decide +kernel
theorem dX11_fromBeginning_56 : decode cX11_fromBeginning 56 = .ok (.iconst 4, 1) := by decide +kernel
theorem dX11_fromBeginning_57 : decode cX11_fromBeginning 57 = .ok (.iaload, 1) := by decide +kernel
theorem dX11_fromBeginning_58 : decode cX11_fromBeginning 58 = .ok (.iadd, 1) := by decide +kernel
theorem dX11_fromBeginning_59 : decode cX11_fromBeginning 59 = .ok (.istore_n 2, 1) := by decide +kernel
theorem dX11_fromBeginning_60 : decode cX11_fromBeginning 60 = .ok (.aload_n 0, 1) := by decide +kernel
theorem dX11_fromBeginning_61 : decode cX11_fromBeginning 61 = .ok (.getfield 22, 3) := by decide +kernel
theorem dX11_fromBeginning_64 : decode cX11_fromBeginning 64 = .ok (.iload_n 1, 1) := by decide +kernel
theorem dX11_fromBeginning_65 : decode cX11_fromBeginning 65 = .ok (.iconst 1, 1) := by decide +kernel
theorem dX11_fromBeginning_66 : decode cX11_fromBeginning 66 = .ok (.iadd, 1) := by decide +kernel
theorem dX11_fromBeginning_67 : decode cX11_fromBeginning 67 = .ok (.iload_n 2, 1) := by decide +kernel
theorem dX11_fromBeginning_68 : decode cX11_fromBeginning 68 = .ok (.aload_n 0, 1) := by decide +kernel
theorem dX11_fromBeginning_69 : decode cX11_fromBeginning 69 = .ok (.getfield 22, 3) := by decide +kernel
theorem dX11_fromBeginning_72 : decode cX11_fromBeginning 72 = .ok (.iload_n 1, 1) := by decide +kernel
theorem dX11_fromBeginning_73 : decode cX11_fromBeginning 73 = .ok (.iconst 1, 1) := by decide +kernel
theorem dX11_fromBeginning_74 : decode cX11_fromBeginning 74 = .ok (.iadd, 1) := by decide +kernel
theorem dX11_fromBeginning_75 : decode cX11_fromBeginning 75 = .ok (.iaload, 1) := by decide +kernel
theorem dX11_fromBeginning_76 : decode cX11_fromBeginning 76 = .ok (.if_icmp .ge 7, 3) := by decide +kernel
theorem dX11_fromBeginning_79 : decode cX11_fromBeginning 79 = .ok (.iload_n 2, 1) := by decide +kernel
theorem dX11_fromBeginning_80 : decode cX11_fromBeginning 80 = .ok (.goto 11, 3) := by decide +kernel
theorem dX11_fromBeginning_83 : decode cX11_fromBeginning 83 = .ok (.aload_n 0, 1) := by decide +kernel
theorem dX11_fromBeginning_84 : decode cX11_fromBeginning 84 = .ok (.getfield 22, 3) := by decide +kernel
theorem dX11_fromBeginning_87 : decode cX11_fromBeginning 87 = .ok (.iload_n 1, 1) := by decide +kernel
theorem dX11_fromBeginning_88 : decode cX11_fromBeginning 88 = .ok (.iconst 1, 1) := by decide +kernel
theorem dX11_fromBeginning_89 : decode cX11_fromBeginning 89 = .ok (.iadd, 1) := by decide +kernel
theorem dX11_fromBeginning_90 : decode cX11_fromBeginning 90 = .ok (.iaload, 1) := by decide +kernel
theorem dX11_fromBeginning_91 : decode cX11_fromBeginning 91 = .ok (.iastore, 1) := by decide +kernel
theorem dX11_fromBeginning_92 : decode cX11_fromBeginning 92 = .ok (.aload_n 0, 1) := by decide +kernel
theorem dX11_fromBeginning_93 : decode cX11_fromBeginning 93 = .ok (.iload_n 1, 1) := by decide +kernel
theorem dX11_fromBeginning_94 : decode cX11_fromBeginning 94 = .ok (.aload_n 0, 1) := by decide +kernel
theorem dX11_fromBeginning_95 : decode cX11_fromBeginning 95 = .ok (.getfield 7, 3) := by decide +kernel
theorem dX11_fromBeginning_98 : decode cX11_fromBeginning 98 = .ok (.iconst 1, 1) := by decide +kernel
theorem dX11_fromBeginning_99 : decode cX11_fromBeginning 99 = .ok (.iaload, 1) := by decide +kernel
theorem dX11_fromBeginning_100 : decode cX11_fromBeginning 100 = .ok (.invokevirtual 84, 3) := by decide +kernel
theorem dX11_fromBeginning_103 : decode cX11_fromBeginning 103 = .ok (.istore_n 3, 1) := by decide +kernel
theorem dX11_fromBeginning_104 : decode cX11_fromBeginning 104 = .ok (.aload_n 0, 1) := by decide +kernel
theorem dX11_fromBeginning_105 : decode cX11_fromBeginning 105 = .ok (.getfield 7, 3) := by decide +kernel
theorem dX11_fromBeginning_108 : decode cX11_fromBeginning 108 = .ok (.iconst 2, 1) := by decide +kernel
theorem dX11_fromBeginning_109 : decode cX11_fromBeginning 109 = .ok (.iaload, 1) := by decide +kernel
theorem dX11_fromBeginning_110 : decode cX11_fromBeginning 110 = .ok (.istore 4, 2) := by decide +kernel
theorem dX11_fromBeginning_112 : decode cX11_fromBeginning 112 = .ok (.iload 4, 2) := by decide +kernel
theorem dX11_fromBeginning_114 : decode cX11_fromBeginning 114 = .ok (.iload_n 3, 1) := by decide +kernel
theorem dX11_fromBeginning_115 : decode cX11_fromBeginning 115 = .ok (.if_icmp .gt 58, 3) := by decide +kernel
theorem dX11_fromBeginning_118 : decode cX11_fromBeginning 118 = .ok (.aload_n 0, 1) := by decide +kernel
theorem dX11_fromBeginning_119 : decode cX11_fromBeginning 119 = .ok (.getfield 22, 3) := by decide +kernel
theorem dX11_fromBeginning_122 : decode cX11_fromBeginning 122 = .ok (.iload_n 1, 1) := by decide +kernel
theorem dX11_fromBeginning_123 : decode cX11_fromBeginning 123 = .ok (.iaload, 1) := by decide +kernel
theorem dX11_fromBeginning_124 : decode cX11_fromBeginning 124 = .ok (.aload_n 0, 1) := by decide +kernel
theorem dX11_fromBeginning_125 : decode cX11_fromBeginning 125 = .ok (.getfield 7, 3) := by decide +kernel
theorem dX11_fromBeginning_128 : decode cX11_fromBeginning 128 = .ok (.iconst 5, 1) := by decide +kernel
theorem dX11_fromBeginning_129 : decode cX11_fromBeginning 129 = .ok (.iaload, 1) := by decide +kernel
theorem dX11_fromBeginning_130 : decode cX11_fromBeginning 130 = .ok (.iadd, 1) := by decide +kernel
theorem dX11_fromBeginning_131 : decode cX11_fromBeginning 131 = .ok (.istore_n 2, 1) := by decide +kernel
theorem dX11_fromBeginning_132 : decode cX11_fromBeginning 132 = .ok (.aload_n 0, 1) := by decide +kernel
theorem dX11_fromBeginning_133 : decode cX11_fromBeginning 133 = .ok (.getfield 22, 3) := by decide +kernel
theorem dX11_fromBeginning_136 : decode cX11_fromBeginning 136 = .ok (.iload_n 1, 1) := by decide +kernel
theorem dX11_fromBeginning_137 : decode cX11_fromBeginning 137 = .ok (.iload 4, 2) := by decide +kernel
theorem dX11_fromBeginning_139 : decode cX11_fromBeginning 139 = .ok (.iadd, 1) := by decide +kernel
theorem dX11_fromBeginning_140 : decode cX11_fromBeginning 140 = .ok (.iload_n 2, 1) := by decide +kernel
theorem dX11_fromBeginning_141 : decode cX11_fromBeginning 141 = .ok (.aload_n 0, 1) := by decide +kernel
theorem dX11_fromBeginning_142 : decode cX11_fromBeginning 142 = .ok (.getfield 22, 3) := by decide +kernel
theorem dX11_fromBeginning_145 : decode cX11_fromBeginning 145 = .ok (.iload_n 1, 1) := by decide +kernel
theorem dX11_fromBeginning_146 : decode cX11_fromBeginning 146 = .ok (.iload 4, 2) := by decide +kernel
theorem dX11_fromBeginning_148 : decode cX11_fromBeginning 148 = .ok (.iadd, 1) := by decide +kernel
theorem dX11_fromBeginning_149 : decode cX11_fromBeginning 149 = .ok (.iaload, 1) := by decide +kernel
theorem dX11_fromBeginning_150 : decode cX11_fromBeginning 150 = .ok (.if_icmp .ge 7, 3) := by decide +kernel
theorem dX11_fromBeginning_153 : decode cX11_fromBeginning 153 = .ok (.iload_n 2, 1) := by decide +kernel
theorem dX11_fromBeginning_154 : decode cX11_fromBeginning 154 = .ok (.goto 12, 3) := by decide +kernel
theorem dX11_fromBeginning_157 : decode cX11_fromBeginning 157 = .ok (.aload_n 0, 1) := by decide +kernel
theorem dX11_fromBeginning_158 : decode cX11_fromBeginning 158 = .ok (.getfield 22, 3) := by decide +kernel
theorem dX11_fromBeginning_161 : decode cX11_fromBeginning 161 = .ok (.iload_n 1, 1) := by decide +kernel
theorem dX11_fromBeginning_162 : decode cX11_fromBeginning 162 = .ok (.iload 4, 2) := by decide +kernel
theorem dX11_fromBeginning_164 : decode cX11_fromBeginning 164 = .ok (.iadd, 1) := by decide +kernel
theorem dX11_fromBeginning_165 : decode cX11_fromBeginning 165 = .ok (.iaload, 1) := by decide +kernel
theorem dX11_fromBeginning_166 : decode cX11_fromBeginning 166 = .ok (.iastore, 1) := by decide +kernel
theorem dX11_fromBeginning_167 : decode cX11_fromBeginning 167 = .ok (.iinc 4 1, 3) := by decide +kernel
theorem dX11_fromBeginning_170 : decode cX11_fromBeginning 170 = .ok (.goto (-58), 3) := by decide +kernel
theorem dX11_fromBeginning_173 : decode cX11_fromBeginning 173 = .ok (.iinc 1 1, 3) := by decide +kernel
theorem dX11_fromBeginning_176 : decode cX11_fromBeginning 176 = .ok (.goto (-140), 3) := by decide +kernel
theorem dX11_fromBeginning_179 : decode cX11_fromBeginning 179 = .ok (.aload_n 0, 1) := by decide +kernel
theorem dX11_fromBeginning_180 : decode cX11_fromBeginning 180 = .ok (.getfield 22, 3) := by decide +kernel
theorem dX11_fromBeginning_183 : decode cX11_fromBeginning 183 = .ok (.aload_n 0, 1) := by decide +kernel
theorem dX11_fromBeginning_184 : decode cX11_fromBeginning 184 = .ok (.getfield 7, 3) := by decide +kernel
theorem dX11_fromBeginning_187 : decode cX11_fromBeginning 187 = .ok (.iconst 0, 1) := by decide +kernel
theorem dX11_fromBeginning_188 : decode cX11_fromBeginning 188 = .ok (.iaload, 1) := by decide +kernel
theorem dX11_fromBeginning_189 : decode cX11_fromBeginning 189 = .ok (.iaload, 1) := by decide +kernel
theorem dX11_fromBeginning_190 : decode cX11_fromBeginning 190 = .ok (.ireturn, 1) := by decide +kernel
theorem dX11_cheapest_0 : decode cX11_cheapest 0 = .ok (.aload_n 0, 1) := by decide +kernel
theorem dX11_cheapest_1 : decode cX11_cheapest 1 = .ok (.iload_n 1, 1) := by decide +kernel
theorem dX11_cheapest_2 : decode cX11_cheapest 2 = .ok (.invokevirtual 88, 3) := by decide +kernel
theorem dX11_cheapest_5 : decode cX11_cheapest 5 = .ok (.aload_n 0, 1) := by decide +kernel
theorem dX11_cheapest_6 : decode cX11_cheapest 6 = .ok (.getfield 22, 3) := by decide +kernel
theorem dX11_cheapest_9 : decode cX11_cheapest 9 = .ok (.iconst 0, 1) := by decide +kernel
theorem dX11_cheapest_10 : decode cX11_cheapest 10 = .ok (.iaload, 1) := by decide +kernel
theorem dX11_cheapest_11 : decode cX11_cheapest 11 = .ok (.ireturn, 1) := by decide +kernel
theorem dX11_lengthBy_0 : decode cX11_lengthBy 0 = .ok (.aload_n 0, 1) := by decide +kernel
theorem dX11_lengthBy_1 : decode cX11_lengthBy 1 = .ok (.iload_n 2, 1) := by decide +kernel
theorem dX11_lengthBy_2 : decode cX11_lengthBy 2 = .ok (.aload_n 0, 1) := by decide +kernel
theorem dX11_lengthBy_3 : decode cX11_lengthBy 3 = .ok (.getfield 7, 3) := by decide +kernel
theorem dX11_lengthBy_6 : decode cX11_lengthBy 6 = .ok (.iconst 1, 1) := by decide +kernel
theorem dX11_lengthBy_7 : decode cX11_lengthBy 7 = .ok (.iaload, 1) := by decide +kernel
theorem dX11_lengthBy_8 : decode cX11_lengthBy 8 = .ok (.invokevirtual 84, 3) := by decide +kernel
theorem dX11_lengthBy_11 : decode cX11_lengthBy 11 = .ok (.istore_n 3, 1) := by decide +kernel
theorem dX11_lengthBy_12 : decode cX11_lengthBy 12 = .ok (.iload_n 1, 1) := by decide +kernel
theorem dX11_lengthBy_13 : decode cX11_lengthBy 13 = .ok (.iconst 2, 1) := by decide +kernel
theorem dX11_lengthBy_14 : decode cX11_lengthBy 14 = .ok (.if_icmp .ne 59, 3) := by decide +kernel
theorem dX11_lengthBy_17 : decode cX11_lengthBy 17 = .ok (.iload_n 3, 1) := by decide +kernel
theorem dX11_lengthBy_18 : decode cX11_lengthBy 18 = .ok (.aload_n 0, 1) := by decide +kernel
theorem dX11_lengthBy_19 : decode cX11_lengthBy 19 = .ok (.getfield 7, 3) := by decide +kernel
theorem dX11_lengthBy_22 : decode cX11_lengthBy 22 = .ok (.iconst 2, 1) := by decide +kernel
theorem dX11_lengthBy_23 : decode cX11_lengthBy 23 = .ok (.iaload, 1) := by decide +kernel
theorem dX11_lengthBy_24 : decode cX11_lengthBy 24 = .ok (.if_icmp .lt 33, 3) := by decide +kernel
theorem dX11_lengthBy_27 : decode cX11_lengthBy 27 = .ok (.aload_n 0, 1) := by decide +kernel
theorem dX11_lengthBy_28 : decode cX11_lengthBy 28 = .ok (.getfield 7, 3) := by decide +kernel
theorem dX11_lengthBy_31 : decode cX11_lengthBy 31 = .ok (.iconst 5, 1) := by decide +kernel
theorem dX11_lengthBy_32 : decode cX11_lengthBy 32 = .ok (.iaload, 1) := by decide +kernel
theorem dX11_lengthBy_33 : decode cX11_lengthBy 33 = .ok (.aload_n 0, 1) := by decide +kernel
theorem dX11_lengthBy_34 : decode cX11_lengthBy 34 = .ok (.getfield 22, 3) := by decide +kernel
theorem dX11_lengthBy_37 : decode cX11_lengthBy 37 = .ok (.iload_n 2, 1) := by decide +kernel
theorem dX11_lengthBy_38 : decode cX11_lengthBy 38 = .ok (.iload_n 3, 1) := by decide +kernel
theorem dX11_lengthBy_39 : decode cX11_lengthBy 39 = .ok (.iadd, 1) := by decide +kernel
theorem dX11_lengthBy_40 : decode cX11_lengthBy 40 = .ok (.iaload, 1) := by decide +kernel
theorem dX11_lengthBy_41 : decode cX11_lengthBy 41 = .ok (.iadd, 1) := by decide +kernel
theorem dX11_lengthBy_42 : decode cX11_lengthBy 42 = .ok (.aload_n 0, 1) := by decide +kernel
theorem dX11_lengthBy_43 : decode cX11_lengthBy 43 = .ok (.getfield 22, 3) := by decide +kernel
theorem dX11_lengthBy_46 : decode cX11_lengthBy 46 = .ok (.iload_n 2, 1) := by decide +kernel
theorem dX11_lengthBy_47 : decode cX11_lengthBy 47 = .ok (.iaload, 1) := by decide +kernel
theorem dX11_lengthBy_48 : decode cX11_lengthBy 48 = .ok (.if_icmp .eq 9, 3) := by decide +kernel
theorem dX11_lengthBy_51 : decode cX11_lengthBy 51 = .ok (.iinc 3 (-1), 3) := by decide +kernel
theorem dX11_lengthBy_54 : decode cX11_lengthBy 54 = .ok (.goto (-37), 3) := by decide +kernel
theorem dX11_lengthBy_57 : decode cX11_lengthBy 57 = .ok (.iload_n 3, 1) := by decide +kernel
theorem dX11_lengthBy_58 : decode cX11_lengthBy 58 = .ok (.aload_n 0, 1) := by decide +kernel
theorem dX11_lengthBy_59 : decode cX11_lengthBy 59 = .ok (.getfield 7, 3) := by decide +kernel
theorem dX11_lengthBy_62 : decode cX11_lengthBy 62 = .ok (.iconst 2, 1) := by decide +kernel
theorem dX11_lengthBy_63 : decode cX11_lengthBy 63 = .ok (.iaload, 1) := by decide +kernel
theorem dX11_lengthBy_64 : decode cX11_lengthBy 64 = .ok (.if_icmp .lt 7, 3) := by decide +kernel
theorem dX11_lengthBy_67 : decode cX11_lengthBy 67 = .ok (.iload_n 3, 1) := by decide +kernel
theorem dX11_lengthBy_68 : decode cX11_lengthBy 68 = .ok (.goto 4, 3) := by decide +kernel
theorem dX11_lengthBy_71 : decode cX11_lengthBy 71 = .ok (.iconst 1, 1) := by decide +kernel
theorem dX11_lengthBy_72 : decode cX11_lengthBy 72 = .ok (.ireturn, 1) := by decide +kernel
theorem dX11_lengthBy_73 : decode cX11_lengthBy 73 = .ok (.iload_n 1, 1) := by decide +kernel
theorem dX11_lengthBy_74 : decode cX11_lengthBy 74 = .ok (.iconst 1, 1) := by decide +kernel
theorem dX11_lengthBy_75 : decode cX11_lengthBy 75 = .ok (.if_icmp .ne 36, 3) := by decide +kernel
theorem dX11_lengthBy_78 : decode cX11_lengthBy 78 = .ok (.iload_n 2, 1) := by decide +kernel
theorem dX11_lengthBy_79 : decode cX11_lengthBy 79 = .ok (.iconst 1, 1) := by decide +kernel
theorem dX11_lengthBy_80 : decode cX11_lengthBy 80 = .ok (.iadd, 1) := by decide +kernel
theorem dX11_lengthBy_81 : decode cX11_lengthBy 81 = .ok (.aload_n 0, 1) := by decide +kernel
theorem dX11_lengthBy_82 : decode cX11_lengthBy 82 = .ok (.getfield 7, 3) := by decide +kernel
theorem dX11_lengthBy_85 : decode cX11_lengthBy 85 = .ok (.iconst 0, 1) := by decide +kernel
theorem dX11_lengthBy_86 : decode cX11_lengthBy 86 = .ok (.iaload, 1) := by decide +kernel
theorem dX11_lengthBy_87 : decode cX11_lengthBy 87 = .ok (.if_icmp .ge 24, 3) := by decide +kernel
theorem dX11_lengthBy_90 : decode cX11_lengthBy 90 = .ok (.aload_n 0, 1) := by decide +kernel
theorem dX11_lengthBy_91 : decode cX11_lengthBy 91 = .ok (.iload_n 2, 1) := by decide +kernel
theorem dX11_lengthBy_92 : decode cX11_lengthBy 92 = .ok (.iconst 1, 1) := by decide +kernel
theorem dX11_lengthBy_93 : decode cX11_lengthBy 93 = .ok (.iadd, 1) := by decide +kernel
theorem dX11_lengthBy_94 : decode cX11_lengthBy 94 = .ok (.aload_n 0, 1) := by decide +kernel
theorem dX11_lengthBy_95 : decode cX11_lengthBy 95 = .ok (.getfield 7, 3) := by decide +kernel
theorem dX11_lengthBy_98 : decode cX11_lengthBy 98 = .ok (.iconst 1, 1) := by decide +kernel
theorem dX11_lengthBy_99 : decode cX11_lengthBy 99 = .ok (.iaload, 1) := by decide +kernel
theorem dX11_lengthBy_100 : decode cX11_lengthBy 100 = .ok (.invokevirtual 84, 3) := by decide +kernel
theorem dX11_lengthBy_103 : decode cX11_lengthBy 103 = .ok (.iload_n 3, 1) := by decide +kernel
theorem dX11_lengthBy_104 : decode cX11_lengthBy 104 = .ok (.if_icmp .le 7, 3) := by decide +kernel
theorem dX11_lengthBy_107 : decode cX11_lengthBy 107 = .ok (.iconst 1, 1) := by decide +kernel
theorem dX11_lengthBy_108 : decode cX11_lengthBy 108 = .ok (.goto 4, 3) := by decide +kernel
theorem dX11_lengthBy_111 : decode cX11_lengthBy 111 = .ok (.iconst 0, 1) := by decide +kernel
theorem dX11_lengthBy_112 : decode cX11_lengthBy 112 = .ok (.istore 4, 2) := by decide +kernel
theorem dX11_lengthBy_114 : decode cX11_lengthBy 114 = .ok (.iload_n 3, 1) := by decide +kernel
theorem dX11_lengthBy_115 : decode cX11_lengthBy 115 = .ok (.ifCond .eq 8, 3) := by decide +kernel
theorem dX11_lengthBy_118 : decode cX11_lengthBy 118 = .ok (.iload 4, 2) := by decide +kernel
theorem dX11_lengthBy_120 : decode cX11_lengthBy 120 = .ok (.ifCond .eq 7, 3) := by decide +kernel
theorem dX11_lengthBy_123 : decode cX11_lengthBy 123 = .ok (.iconst 1, 1) := by decide +kernel
theorem dX11_lengthBy_124 : decode cX11_lengthBy 124 = .ok (.goto 4, 3) := by decide +kernel
theorem dX11_lengthBy_127 : decode cX11_lengthBy 127 = .ok (.iload_n 3, 1) := by decide +kernel
theorem dX11_lengthBy_128 : decode cX11_lengthBy 128 = .ok (.ireturn, 1) := by decide +kernel
theorem dX11_packs_0 : decode cX11_packs 0 = .ok (.aload_n 0, 1) := by decide +kernel
theorem dX11_packs_1 : decode cX11_packs 1 = .ok (.aload_n 0, 1) := by decide +kernel
theorem dX11_packs_2 : decode cX11_packs 2 = .ok (.getfield 7, 3) := by decide +kernel
theorem dX11_packs_5 : decode cX11_packs 5 = .ok (.iconst 1, 1) := by decide +kernel
theorem dX11_packs_6 : decode cX11_packs 6 = .ok (.iaload, 1) := by decide +kernel
theorem dX11_packs_7 : decode cX11_packs 7 = .ok (.invokevirtual 88, 3) := by decide +kernel
theorem dX11_packs_10 : decode cX11_packs 10 = .ok (.aload_n 0, 1) := by decide +kernel
theorem dX11_packs_11 : decode cX11_packs 11 = .ok (.iconst 0, 1) := by decide +kernel
theorem dX11_packs_12 : decode cX11_packs 12 = .ok (.putfield 92, 3) := by decide +kernel
theorem dX11_packs_15 : decode cX11_packs 15 = .ok (.iconst 0, 1) := by decide +kernel
theorem dX11_packs_16 : decode cX11_packs 16 = .ok (.istore_n 2, 1) := by decide +kernel
theorem dX11_packs_17 : decode cX11_packs 17 = .ok (.iload_n 2, 1) := by decide +kernel
theorem dX11_packs_18 : decode cX11_packs 18 = .ok (.aload_n 0, 1) := by decide +kernel
theorem dX11_packs_19 : decode cX11_packs 19 = .ok (.getfield 7, 3) := by decide +kernel
theorem dX11_packs_22 : decode cX11_packs 22 = .ok (.iconst 0, 1) := by decide +kernel
theorem dX11_packs_23 : decode cX11_packs 23 = .ok (.iaload, 1) := by decide +kernel
theorem dX11_packs_24 : decode cX11_packs 24 = .ok (.if_icmp .ge 84, 3) := by decide +kernel
theorem dX11_packs_27 : decode cX11_packs 27 = .ok (.aload_n 0, 1) := by decide +kernel
theorem dX11_packs_28 : decode cX11_packs 28 = .ok (.iload_n 1, 1) := by decide +kernel
theorem dX11_packs_29 : decode cX11_packs 29 = .ok (.iload_n 2, 1) := by decide +kernel
theorem dX11_packs_30 : decode cX11_packs 30 = .ok (.invokevirtual 95, 3) := by decide +kernel
theorem dX11_packs_33 : decode cX11_packs 33 = .ok (.istore_n 3, 1) := by decide +kernel
theorem dX11_packs_34 : decode cX11_packs 34 = .ok (.aload_n 0, 1) := by decide +kernel
theorem dX11_packs_35 : decode cX11_packs 35 = .ok (.getfield 19, 3) := by decide +kernel
theorem dX11_packs_38 : decode cX11_packs 38 = .ok (.iconst 2, 1) := by decide +kernel
theorem dX11_packs_39 : decode cX11_packs 39 = .ok (.aload_n 0, 1) := by decide +kernel
theorem dX11_packs_40 : decode cX11_packs 40 = .ok (.getfield 92, 3) := by decide +kernel
theorem dX11_packs_43 : decode cX11_packs 43 = .ok (.imul, 1) := by decide +kernel
theorem dX11_packs_44 : decode cX11_packs 44 = .ok (.iload_n 3, 1) := by decide +kernel
theorem dX11_packs_45 : decode cX11_packs 45 = .ok (.iconst 1, 1) := by decide +kernel
theorem dX11_packs_46 : decode cX11_packs 46 = .ok (.if_icmp .ne 7, 3) := by decide +kernel
theorem dX11_packs_49 : decode cX11_packs 49 = .ok (.iconst 0, 1) := by decide +kernel
theorem dX11_packs_50 : decode cX11_packs 50 = .ok (.goto 9, 3) := by decide +kernel
theorem dX11_packs_53 : decode cX11_packs 53 = .ok (.aload_n 0, 1) := by decide +kernel
theorem dX11_packs_54 : decode cX11_packs 54 = .ok (.iload_n 2, 1) := by decide +kernel
theorem dX11_packs_55 : decode cX11_packs 55 = .ok (.iload_n 3, 1) := by decide +kernel
theorem dX11_packs_56 : decode cX11_packs 56 = .ok (.invokevirtual 98, 3) := by decide +kernel
theorem dX11_packs_59 : decode cX11_packs 59 = .ok (.iastore, 1) := by decide +kernel
theorem dX11_packs_60 : decode cX11_packs 60 = .ok (.aload_n 0, 1) := by decide +kernel
theorem dX11_packs_61 : decode cX11_packs 61 = .ok (.getfield 19, 3) := by decide +kernel
theorem dX11_packs_64 : decode cX11_packs 64 = .ok (.iconst 2, 1) := by decide +kernel
theorem dX11_packs_65 : decode cX11_packs 65 = .ok (.aload_n 0, 1) := by decide +kernel
theorem dX11_packs_66 : decode cX11_packs 66 = .ok (.getfield 92, 3) := by decide +kernel
theorem dX11_packs_69 : decode cX11_packs 69 = .ok (.imul, 1) := by decide +kernel
theorem dX11_packs_70 : decode cX11_packs 70 = .ok (.iconst 1, 1) := by decide +kernel
theorem dX11_packs_71 : decode cX11_packs 71 = .ok (.iadd, 1) := by decide +kernel
theorem dX11_packs_72 : decode cX11_packs 72 = .ok (.iload_n 3, 1) := by decide +kernel
theorem dX11_packs_73 : decode cX11_packs 73 = .ok (.iconst 1, 1) := by decide +kernel
theorem dX11_packs_74 : decode cX11_packs 74 = .ok (.if_icmp .ne 15, 3) := by decide +kernel
theorem dX11_packs_77 : decode cX11_packs 77 = .ok (.aload_n 0, 1) := by decide +kernel
theorem dX11_packs_78 : decode cX11_packs 78 = .ok (.getfield 7, 3) := by decide +kernel
theorem dX11_packs_81 : decode cX11_packs 81 = .ok (.bipush 10, 2) := by decide +kernel
theorem dX11_packs_83 : decode cX11_packs 83 = .ok (.iload_n 2, 1) := by decide +kernel
theorem dX11_packs_84 : decode cX11_packs 84 = .ok (.iadd, 1) := by decide +kernel
theorem dX11_packs_85 : decode cX11_packs 85 = .ok (.iaload, 1) := by decide +kernel
theorem dX11_packs_86 : decode cX11_packs 86 = .ok (.goto 4, 3) := by decide +kernel
theorem dX11_packs_89 : decode cX11_packs 89 = .ok (.iload_n 3, 1) := by decide +kernel
theorem dX11_packs_90 : decode cX11_packs 90 = .ok (.iastore, 1) := by decide +kernel
theorem dX11_packs_91 : decode cX11_packs 91 = .ok (.aload_n 0, 1) := by decide +kernel
theorem dX11_packs_92 : decode cX11_packs 92 = .ok (.dup, 1) := by decide +kernel
theorem dX11_packs_93 : decode cX11_packs 93 = .ok (.getfield 92, 3) := by decide +kernel
theorem dX11_packs_96 : decode cX11_packs 96 = .ok (.iconst 1, 1) := by decide +kernel
theorem dX11_packs_97 : decode cX11_packs 97 = .ok (.iadd, 1) := by decide +kernel
theorem dX11_packs_98 : decode cX11_packs 98 = .ok (.putfield 92, 3) := by decide +kernel
theorem dX11_packs_101 : decode cX11_packs 101 = .ok (.iload_n 2, 1) := by decide +kernel
theorem dX11_packs_102 : decode cX11_packs 102 = .ok (.iload_n 3, 1) := by decide +kernel
theorem dX11_packs_103 : decode cX11_packs 103 = .ok (.iadd, 1) := by decide +kernel
theorem dX11_packs_104 : decode cX11_packs 104 = .ok (.istore_n 2, 1) := by decide +kernel
theorem dX11_packs_105 : decode cX11_packs 105 = .ok (.goto (-88), 3) := by decide +kernel
theorem dX11_packs_108 : decode cX11_packs 108 = .ok (.return_, 1) := by decide +kernel
theorem dX11_packNow_0 : decode cX11_packNow 0 = .ok (.aload_n 0, 1) := by decide +kernel
theorem dX11_packNow_1 : decode cX11_packNow 1 = .ok (.iload_n 1, 1) := by decide +kernel
theorem dX11_packNow_2 : decode cX11_packNow 2 = .ok (.invokevirtual 101, 3) := by decide +kernel
theorem dX11_packNow_5 : decode cX11_packNow 5 = .ok (.aload_n 0, 1) := by decide +kernel
theorem dX11_packNow_6 : decode cX11_packNow 6 = .ok (.bipush 6, 2) := by decide +kernel
theorem dX11_packNow_8 : decode cX11_packNow 8 = .ok (.bipush 50, 2) := by decide +kernel
theorem dX11_packNow_10 : decode cX11_packNow 10 = .ok (.bipush 80, 2) := by decide +kernel
theorem dX11_packNow_12 : decode cX11_packNow 12 = .ok (.invokevirtual 69, 3) := by decide +kernel
theorem dX11_packNow_15 : decode cX11_packNow 15 = .ok (.pop, 1) := by decide +kernel
theorem dX11_packNow_16 : decode cX11_packNow 16 = .ok (.aload_n 0, 1) := by decide +kernel
theorem dX11_packNow_17 : decode cX11_packNow 17 = .ok (.getfield 7, 3) := by decide +kernel
theorem dX11_packNow_20 : decode cX11_packNow 20 = .ok (.bipush 6, 2) := by decide +kernel
theorem dX11_packNow_22 : decode cX11_packNow 22 = .ok (.aload_n 0, 1) := by decide +kernel
theorem dX11_packNow_23 : decode cX11_packNow 23 = .ok (.getfield 92, 3) := by decide +kernel
theorem dX11_packNow_26 : decode cX11_packNow 26 = .ok (.iastore, 1) := by decide +kernel
theorem dX11_packNow_27 : decode cX11_packNow 27 = .ok (.iconst 0, 1) := by decide +kernel
theorem dX11_packNow_28 : decode cX11_packNow 28 = .ok (.istore_n 2, 1) := by decide +kernel
theorem dX11_packNow_29 : decode cX11_packNow 29 = .ok (.iload_n 2, 1) := by decide +kernel
theorem dX11_packNow_30 : decode cX11_packNow 30 = .ok (.iconst 2, 1) := by decide +kernel
theorem dX11_packNow_31 : decode cX11_packNow 31 = .ok (.aload_n 0, 1) := by decide +kernel
theorem dX11_packNow_32 : decode cX11_packNow 32 = .ok (.getfield 92, 3) := by decide +kernel
theorem dX11_packNow_35 : decode cX11_packNow 35 = .ok (.imul, 1) := by decide +kernel
theorem dX11_packNow_36 : decode cX11_packNow 36 = .ok (.if_icmp .ge 24, 3) := by decide +kernel
theorem dX11_packNow_39 : decode cX11_packNow 39 = .ok (.aload_n 0, 1) := by decide +kernel
theorem dX11_packNow_40 : decode cX11_packNow 40 = .ok (.getfield 7, 3) := by decide +kernel
theorem dX11_packNow_43 : decode cX11_packNow 43 = .ok (.bipush 50, 2) := by decide +kernel
theorem dX11_packNow_45 : decode cX11_packNow 45 = .ok (.iload_n 2, 1) := by decide +kernel
theorem dX11_packNow_46 : decode cX11_packNow 46 = .ok (.iadd, 1) := by decide +kernel
theorem dX11_packNow_47 : decode cX11_packNow 47 = .ok (.aload_n 0, 1) := by decide +kernel
theorem dX11_packNow_48 : decode cX11_packNow 48 = .ok (.getfield 19, 3) := by decide +kernel
theorem dX11_packNow_51 : decode cX11_packNow 51 = .ok (.iload_n 2, 1) := by decide +kernel
theorem dX11_packNow_52 : decode cX11_packNow 52 = .ok (.iaload, 1) := by decide +kernel
theorem dX11_packNow_53 : decode cX11_packNow 53 = .ok (.iastore, 1) := by decide +kernel
theorem dX11_packNow_54 : decode cX11_packNow 54 = .ok (.iinc 2 1, 3) := by decide +kernel
theorem dX11_packNow_57 : decode cX11_packNow 57 = .ok (.goto (-28), 3) := by decide +kernel
theorem dX11_packNow_60 : decode cX11_packNow 60 = .ok (.aload_n 0, 1) := by decide +kernel
theorem dX11_packNow_61 : decode cX11_packNow 61 = .ok (.getfield 92, 3) := by decide +kernel
theorem dX11_packNow_64 : decode cX11_packNow 64 = .ok (.ireturn, 1) := by decide +kernel
theorem dX11_pack_0 : decode cX11_pack 0 = .ok (.aload_n 0, 1) := by decide +kernel
theorem dX11_pack_1 : decode cX11_pack 1 = .ok (.iload_n 1, 1) := by decide +kernel
theorem dX11_pack_2 : decode cX11_pack 2 = .ok (.iconst 0, 1) := by decide +kernel
theorem dX11_pack_3 : decode cX11_pack 3 = .ok (.iconst 2, 1) := by decide +kernel
theorem dX11_pack_4 : decode cX11_pack 4 = .ok (.invokestatic 57, 3) := by decide +kernel
theorem dX11_pack_7 : decode cX11_pack 7 = .ok (.invokevirtual 42, 3) := by decide +kernel
theorem dX11_pack_10 : decode cX11_pack 10 = .ok (.ifCond .ne 5, 3) := by decide +kernel
theorem dX11_pack_13 : decode cX11_pack 13 = .ok (.iconst 0, 1) := by decide +kernel
theorem dX11_pack_14 : decode cX11_pack 14 = .ok (.ireturn, 1) := by decide +kernel
theorem dX11_pack_15 : decode cX11_pack 15 = .ok (.aload_n 0, 1) := by decide +kernel
theorem dX11_pack_16 : decode cX11_pack 16 = .ok (.invokevirtual 54, 3) := by decide +kernel
theorem dX11_pack_19 : decode cX11_pack 19 = .ok (.aload_n 0, 1) := by decide +kernel
theorem dX11_pack_20 : decode cX11_pack 20 = .ok (.iload_n 1, 1) := by decide +kernel
theorem dX11_pack_21 : decode cX11_pack 21 = .ok (.invokevirtual 104, 3) := by decide +kernel
theorem dX11_pack_24 : decode cX11_pack 24 = .ok (.ireturn, 1) := by decide +kernel
theorem dX11_distance_0 : decode cX11_distance 0 = .ok (.aload_n 0, 1) := by decide +kernel
theorem dX11_distance_1 : decode cX11_distance 1 = .ok (.getfield 7, 3) := by decide +kernel
theorem dX11_distance_4 : decode cX11_distance 4 = .ok (.bipush 50, 2) := by decide +kernel
theorem dX11_distance_6 : decode cX11_distance 6 = .ok (.iconst 2, 1) := by decide +kernel
theorem dX11_distance_7 : decode cX11_distance 7 = .ok (.iload_n 1, 1) := by decide +kernel
theorem dX11_distance_8 : decode cX11_distance 8 = .ok (.imul, 1) := by decide +kernel
theorem dX11_distance_9 : decode cX11_distance 9 = .ok (.iadd, 1) := by decide +kernel
theorem dX11_distance_10 : decode cX11_distance 10 = .ok (.iaload, 1) := by decide +kernel
theorem dX11_distance_11 : decode cX11_distance 11 = .ok (.ireturn, 1) := by decide +kernel
theorem dX11_length_0 : decode cX11_length 0 = .ok (.aload_n 0, 1) := by decide +kernel
theorem dX11_length_1 : decode cX11_length 1 = .ok (.iload_n 1, 1) := by decide +kernel
theorem dX11_length_2 : decode cX11_length 2 = .ok (.invokevirtual 107, 3) := by decide +kernel
theorem dX11_length_5 : decode cX11_length 5 = .ok (.ifCond .le 19, 3) := by decide +kernel
theorem dX11_length_8 : decode cX11_length 8 = .ok (.aload_n 0, 1) := by decide +kernel
theorem dX11_length_9 : decode cX11_length 9 = .ok (.getfield 7, 3) := by decide +kernel
theorem dX11_length_12 : decode cX11_length 12 = .ok (.bipush 50, 2) := by decide +kernel
theorem dX11_length_14 : decode cX11_length 14 = .ok (.iconst 2, 1) := by decide +kernel
theorem dX11_length_15 : decode cX11_length 15 = .ok (.iload_n 1, 1) := by decide +kernel
theorem dX11_length_16 : decode cX11_length 16 = .ok (.imul, 1) := by decide +kernel
theorem dX11_length_17 : decode cX11_length 17 = .ok (.iadd, 1) := by decide +kernel
theorem dX11_length_18 : decode cX11_length 18 = .ok (.iconst 1, 1) := by decide +kernel
theorem dX11_length_19 : decode cX11_length 19 = .ok (.iadd, 1) := by decide +kernel
theorem dX11_length_20 : decode cX11_length 20 = .ok (.iaload, 1) := by decide +kernel
theorem dX11_length_21 : decode cX11_length 21 = .ok (.goto 4, 3) := by decide +kernel
theorem dX11_length_24 : decode cX11_length 24 = .ok (.iconst 1, 1) := by decide +kernel
theorem dX11_length_25 : decode cX11_length 25 = .ok (.ireturn, 1) := by decide +kernel
theorem dX11_unpacks_0 : decode cX11_unpacks 0 = .ok (.aload_n 0, 1) := by decide +kernel
theorem dX11_unpacks_1 : decode cX11_unpacks 1 = .ok (.iconst (-1), 1) := by decide +kernel
theorem dX11_unpacks_2 : decode cX11_unpacks 2 = .ok (.putfield 110, 3) := by decide +kernel
theorem dX11_unpacks_5 : decode cX11_unpacks 5 = .ok (.aload_n 0, 1) := by decide +kernel
theorem dX11_unpacks_6 : decode cX11_unpacks 6 = .ok (.iconst 0, 1) := by decide +kernel
theorem dX11_unpacks_7 : decode cX11_unpacks 7 = .ok (.putfield 113, 3) := by decide +kernel
theorem dX11_unpacks_10 : decode cX11_unpacks 10 = .ok (.aload_n 0, 1) := by decide +kernel
theorem dX11_unpacks_11 : decode cX11_unpacks 11 = .ok (.iconst 0, 1) := by decide +kernel
theorem dX11_unpacks_12 : decode cX11_unpacks 12 = .ok (.putfield 116, 3) := by decide +kernel
theorem dX11_unpacks_15 : decode cX11_unpacks 15 = .ok (.iconst 0, 1) := by decide +kernel
theorem dX11_unpacks_16 : decode cX11_unpacks 16 = .ok (.istore_n 1, 1) := by decide +kernel
theorem dX11_unpacks_17 : decode cX11_unpacks 17 = .ok (.iload_n 1, 1) := by decide +kernel
theorem dX11_unpacks_18 : decode cX11_unpacks 18 = .ok (.aload_n 0, 1) := by decide +kernel
theorem dX11_unpacks_19 : decode cX11_unpacks 19 = .ok (.getfield 7, 3) := by decide +kernel
theorem dX11_unpacks_22 : decode cX11_unpacks 22 = .ok (.bipush 6, 2) := by decide +kernel
theorem dX11_unpacks_24 : decode cX11_unpacks 24 = .ok (.iaload, 1) := by decide +kernel
theorem dX11_unpacks_25 : decode cX11_unpacks 25 = .ok (.if_icmp .ge 154, 3) := by decide +kernel
theorem dX11_unpacks_28 : decode cX11_unpacks 28 = .ok (.aload_n 0, 1) := by decide +kernel
theorem dX11_unpacks_29 : decode cX11_unpacks 29 = .ok (.getfield 110, 3) := by decide +kernel
theorem dX11_unpacks_32 : decode cX11_unpacks 32 = .ok (.ifCond .ge 147, 3) := by decide +kernel
theorem dX11_unpacks_35 : decode cX11_unpacks 35 = .ok (.aload_n 0, 1) := by decide +kernel
theorem dX11_unpacks_36 : decode cX11_unpacks 36 = .ok (.aload_n 0, 1) := by decide +kernel
theorem dX11_unpacks_37 : decode cX11_unpacks 37 = .ok (.iload_n 1, 1) := by decide +kernel
theorem dX11_unpacks_38 : decode cX11_unpacks 38 = .ok (.invokevirtual 107, 3) := by decide +kernel
theorem dX11_unpacks_41 : decode cX11_unpacks 41 = .ok (.aload_n 0, 1) := by decide +kernel
theorem dX11_unpacks_42 : decode cX11_unpacks 42 = .ok (.getfield 116, 3) := by decide +kernel
theorem dX11_unpacks_45 : decode cX11_unpacks 45 = .ok (.if_icmp .le 7, 3) := by decide +kernel
theorem dX11_unpacks_48 : decode cX11_unpacks 48 = .ok (.iconst 1, 1) := by decide +kernel
theorem dX11_unpacks_49 : decode cX11_unpacks 49 = .ok (.goto 23, 3) := by decide +kernel
theorem dX11_unpacks_52 : decode cX11_unpacks 52 = .ok (.aload_n 0, 1) := by decide +kernel
theorem dX11_unpacks_53 : decode cX11_unpacks 53 = .ok (.getfield 116, 3) := by decide +kernel
theorem dX11_unpacks_56 : decode cX11_unpacks 56 = .ok (.aload_n 0, 1) := by decide +kernel
theorem dX11_unpacks_57 : decode cX11_unpacks 57 = .ok (.iload_n 1, 1) := by decide +kernel
theorem dX11_unpacks_58 : decode cX11_unpacks 58 = .ok (.invokevirtual 119, 3) := by decide +kernel
theorem dX11_unpacks_61 : decode cX11_unpacks 61 = .ok (.iadd, 1) := by decide +kernel
theorem dX11_unpacks_62 : decode cX11_unpacks 62 = .ok (.bipush 40, 2) := by decide +kernel
theorem dX11_unpacks_64 : decode cX11_unpacks 64 = .ok (.if_icmp .le 7, 3) := by decide +kernel
theorem dX11_unpacks_67 : decode cX11_unpacks 67 = .ok (.iconst 2, 1) := by decide +kernel
theorem dX11_unpacks_68 : decode cX11_unpacks 68 = .ok (.goto 4, 3) := by decide +kernel
theorem dX11_unpacks_71 : decode cX11_unpacks 71 = .ok (.iconst 0, 1) := by decide +kernel
theorem dX11_unpacks_72 : decode cX11_unpacks 72 = .ok (.putfield 113, 3) := by decide +kernel
theorem dX11_unpacks_75 : decode cX11_unpacks 75 = .ok (.aload_n 0, 1) := by decide +kernel
theorem dX11_unpacks_76 : decode cX11_unpacks 76 = .ok (.aload_n 0, 1) := by decide +kernel
theorem dX11_unpacks_77 : decode cX11_unpacks 77 = .ok (.getfield 113, 3) := by decide +kernel
theorem dX11_unpacks_80 : decode cX11_unpacks 80 = .ok (.ifCond .le 7, 3) := by decide +kernel
theorem dX11_unpacks_83 : decode cX11_unpacks 83 = .ok (.iload_n 1, 1) := by decide +kernel
theorem dX11_unpacks_84 : decode cX11_unpacks 84 = .ok (.goto 4, 3) := by decide +kernel
theorem dX11_unpacks_87 : decode cX11_unpacks 87 = .ok (.iconst (-1), 1) := by decide +kernel
theorem dX11_unpacks_88 : decode cX11_unpacks 88 = .ok (.putfield 110, 3) := by decide +kernel
theorem dX11_unpacks_91 : decode cX11_unpacks 91 = .ok (.iconst 0, 1) := by decide +kernel
theorem dX11_unpacks_92 : decode cX11_unpacks 92 = .ok (.istore_n 2, 1) := by decide +kernel
theorem dX11_unpacks_93 : decode cX11_unpacks 93 = .ok (.iload_n 2, 1) := by decide +kernel
theorem dX11_unpacks_94 : decode cX11_unpacks 94 = .ok (.aload_n 0, 1) := by decide +kernel
theorem dX11_unpacks_95 : decode cX11_unpacks 95 = .ok (.iload_n 1, 1) := by decide +kernel
theorem dX11_unpacks_96 : decode cX11_unpacks 96 = .ok (.invokevirtual 119, 3) := by decide +kernel
theorem dX11_unpacks_99 : decode cX11_unpacks 99 = .ok (.if_icmp .ge 74, 3) := by decide +kernel
theorem dX11_unpacks_102 : decode cX11_unpacks 102 = .ok (.aload_n 0, 1) := by decide +kernel
theorem dX11_unpacks_103 : decode cX11_unpacks 103 = .ok (.getfield 113, 3) := by decide +kernel
theorem dX11_unpacks_106 : decode cX11_unpacks 106 = .ok (.ifCond .ne 67, 3) := by decide +kernel
theorem dX11_unpacks_109 : decode cX11_unpacks 109 = .ok (.aload_n 0, 1) := by decide +kernel
theorem dX11_unpacks_110 : decode cX11_unpacks 110 = .ok (.getfield 25, 3) := by decide +kernel
theorem dX11_unpacks_113 : decode cX11_unpacks 113 = .ok (.aload_n 0, 1) := by decide +kernel
theorem dX11_unpacks_114 : decode cX11_unpacks 114 = .ok (.getfield 116, 3) := by decide +kernel
theorem dX11_unpacks_117 : decode cX11_unpacks 117 = .ok (.aload_n 0, 1) := by decide +kernel
theorem dX11_unpacks_118 : decode cX11_unpacks 118 = .ok (.iload_n 1, 1) := by decide +kernel
theorem dX11_unpacks_119 : decode cX11_unpacks 119 = .ok (.invokevirtual 107, 3) := by decide +kernel
theorem dX11_unpacks_122 : decode cX11_unpacks 122 = .ok (.ifCond .le 21, 3) := by decide +kernel
theorem dX11_unpacks_125 : decode cX11_unpacks 125 = .ok (.aload_n 0, 1) := by decide +kernel
theorem dX11_unpacks_126 : decode cX11_unpacks 126 = .ok (.getfield 25, 3) := by decide +kernel
theorem dX11_unpacks_129 : decode cX11_unpacks 129 = .ok (.aload_n 0, 1) := by decide +kernel
theorem dX11_unpacks_130 : decode cX11_unpacks 130 = .ok (.getfield 116, 3) := by decide +kernel
theorem dX11_unpacks_133 : decode cX11_unpacks 133 = .ok (.aload_n 0, 1) := by decide +kernel
theorem dX11_unpacks_134 : decode cX11_unpacks 134 = .ok (.iload_n 1, 1) := by decide +kernel
theorem dX11_unpacks_135 : decode cX11_unpacks 135 = .ok (.invokevirtual 107, 3) := by decide +kernel
theorem dX11_unpacks_138 : decode cX11_unpacks 138 = .ok (.isub, 1) := by decide +kernel
theorem dX11_unpacks_139 : decode cX11_unpacks 139 = .ok (.iaload, 1) := by decide +kernel
theorem dX11_unpacks_140 : decode cX11_unpacks 140 = .ok (.goto 16, 3) := by decide +kernel
theorem dX11_unpacks_143 : decode cX11_unpacks 143 = .ok (.aload_n 0, 1) := by decide +kernel
theorem dX11_unpacks_144 : decode cX11_unpacks 144 = .ok (.getfield 7, 3) := by decide +kernel
theorem dX11_unpacks_147 : decode cX11_unpacks 147 = .ok (.bipush 50, 2) := by decide +kernel
theorem dX11_unpacks_149 : decode cX11_unpacks 149 = .ok (.iconst 2, 1) := by decide +kernel
theorem dX11_unpacks_150 : decode cX11_unpacks 150 = .ok (.iload_n 1, 1) := by decide +kernel
theorem dX11_unpacks_151 : decode cX11_unpacks 151 = .ok (.imul, 1) := by decide +kernel
theorem dX11_unpacks_152 : decode cX11_unpacks 152 = .ok (.iadd, 1) := by decide +kernel
theorem dX11_unpacks_153 : decode cX11_unpacks 153 = .ok (.iconst 1, 1) := by decide +kernel
theorem dX11_unpacks_154 : decode cX11_unpacks 154 = .ok (.iadd, 1) := by decide +kernel
theorem dX11_unpacks_155 : decode cX11_unpacks 155 = .ok (.iaload, 1) := by decide +kernel
theorem dX11_unpacks_156 : decode cX11_unpacks 156 = .ok (.iastore, 1) := by decide +kernel
theorem dX11_unpacks_157 : decode cX11_unpacks 157 = .ok (.aload_n 0, 1) := by decide +kernel
theorem dX11_unpacks_158 : decode cX11_unpacks 158 = .ok (.dup, 1) := by decide +kernel
theorem dX11_unpacks_159 : decode cX11_unpacks 159 = .ok (.getfield 116, 3) := by decide +kernel
theorem dX11_unpacks_162 : decode cX11_unpacks 162 = .ok (.iconst 1, 1) := by decide +kernel
theorem dX11_unpacks_163 : decode cX11_unpacks 163 = .ok (.iadd, 1) := by decide +kernel
theorem dX11_unpacks_164 : decode cX11_unpacks 164 = .ok (.putfield 116, 3) := by decide +kernel
theorem dX11_unpacks_167 : decode cX11_unpacks 167 = .ok (.iinc 2 1, 3) := by decide +kernel
theorem dX11_unpacks_170 : decode cX11_unpacks 170 = .ok (.goto (-77), 3) := by decide +kernel
theorem dX11_unpacks_173 : decode cX11_unpacks 173 = .ok (.iinc 1 1, 3) := by decide +kernel
theorem dX11_unpacks_176 : decode cX11_unpacks 176 = .ok (.goto (-159), 3) := by decide +kernel
theorem dX11_unpacks_179 : decode cX11_unpacks 179 = .ok (.return_, 1) := by decide +kernel
theorem dX11_unpackNow_0 : decode cX11_unpackNow 0 = .ok (.aload_n 0, 1) := by decide +kernel
theorem dX11_unpackNow_1 : decode cX11_unpackNow 1 = .ok (.iconst 0, 1) := by decide +kernel
theorem dX11_unpackNow_2 : decode cX11_unpackNow 2 = .ok (.bipush 10, 2) := by decide +kernel
theorem dX11_unpackNow_4 : decode cX11_unpackNow 4 = .ok (.bipush 40, 2) := by decide +kernel
theorem dX11_unpackNow_6 : decode cX11_unpackNow 6 = .ok (.invokevirtual 69, 3) := by decide +kernel
theorem dX11_unpackNow_9 : decode cX11_unpackNow 9 = .ok (.pop, 1) := by decide +kernel
theorem dX11_unpackNow_10 : decode cX11_unpackNow 10 = .ok (.aload_n 0, 1) := by decide +kernel
theorem dX11_unpackNow_11 : decode cX11_unpackNow 11 = .ok (.getfield 7, 3) := by decide +kernel
theorem dX11_unpackNow_14 : decode cX11_unpackNow 14 = .ok (.iconst 0, 1) := by decide +kernel
theorem dX11_unpackNow_15 : decode cX11_unpackNow 15 = .ok (.aload_n 0, 1) := by decide +kernel
theorem dX11_unpackNow_16 : decode cX11_unpackNow 16 = .ok (.getfield 116, 3) := by decide +kernel
theorem dX11_unpackNow_19 : decode cX11_unpackNow 19 = .ok (.iastore, 1) := by decide +kernel
theorem dX11_unpackNow_20 : decode cX11_unpackNow 20 = .ok (.iconst 0, 1) := by decide +kernel
theorem dX11_unpackNow_21 : decode cX11_unpackNow 21 = .ok (.istore_n 1, 1) := by decide +kernel
theorem dX11_unpackNow_22 : decode cX11_unpackNow 22 = .ok (.iload_n 1, 1) := by decide +kernel
theorem dX11_unpackNow_23 : decode cX11_unpackNow 23 = .ok (.aload_n 0, 1) := by decide +kernel
theorem dX11_unpackNow_24 : decode cX11_unpackNow 24 = .ok (.getfield 116, 3) := by decide +kernel
theorem dX11_unpackNow_27 : decode cX11_unpackNow 27 = .ok (.if_icmp .ge 24, 3) := by decide +kernel
theorem dX11_unpackNow_30 : decode cX11_unpackNow 30 = .ok (.aload_n 0, 1) := by decide +kernel
theorem dX11_unpackNow_31 : decode cX11_unpackNow 31 = .ok (.getfield 7, 3) := by decide +kernel
theorem dX11_unpackNow_34 : decode cX11_unpackNow 34 = .ok (.bipush 10, 2) := by decide +kernel
theorem dX11_unpackNow_36 : decode cX11_unpackNow 36 = .ok (.iload_n 1, 1) := by decide +kernel
theorem dX11_unpackNow_37 : decode cX11_unpackNow 37 = .ok (.iadd, 1) := by decide +kernel
theorem dX11_unpackNow_38 : decode cX11_unpackNow 38 = .ok (.aload_n 0, 1) := by decide +kernel
theorem dX11_unpackNow_39 : decode cX11_unpackNow 39 = .ok (.getfield 25, 3) := by decide +kernel
theorem dX11_unpackNow_42 : decode cX11_unpackNow 42 = .ok (.iload_n 1, 1) := by decide +kernel
theorem dX11_unpackNow_43 : decode cX11_unpackNow 43 = .ok (.iaload, 1) := by decide +kernel
theorem dX11_unpackNow_44 : decode cX11_unpackNow 44 = .ok (.iastore, 1) := by decide +kernel
theorem dX11_unpackNow_45 : decode cX11_unpackNow 45 = .ok (.iinc 1 1, 3) := by decide +kernel
theorem dX11_unpackNow_48 : decode cX11_unpackNow 48 = .ok (.goto (-26), 3) := by decide +kernel
theorem dX11_unpackNow_51 : decode cX11_unpackNow 51 = .ok (.aload_n 0, 1) := by decide +kernel
theorem dX11_unpackNow_52 : decode cX11_unpackNow 52 = .ok (.getfield 116, 3) := by decide +kernel
theorem dX11_unpackNow_55 : decode cX11_unpackNow 55 = .ok (.ireturn, 1) := by decide +kernel
theorem dX11_unpack_0 : decode cX11_unpack 0 = .ok (.aload_n 0, 1) := by decide +kernel
theorem dX11_unpack_1 : decode cX11_unpack 1 = .ok (.invokevirtual 122, 3) := by decide +kernel
theorem dX11_unpack_4 : decode cX11_unpack 4 = .ok (.aload_n 0, 1) := by decide +kernel
theorem dX11_unpack_5 : decode cX11_unpack 5 = .ok (.aload_n 0, 1) := by decide +kernel
theorem dX11_unpack_6 : decode cX11_unpack 6 = .ok (.getfield 110, 3) := by decide +kernel
theorem dX11_unpack_9 : decode cX11_unpack 9 = .ok (.ifCond .ge 7, 3) := by decide +kernel
theorem dX11_unpack_12 : decode cX11_unpack 12 = .ok (.iconst 1, 1) := by decide +kernel
theorem dX11_unpack_13 : decode cX11_unpack 13 = .ok (.goto 4, 3) := by decide +kernel
theorem dX11_unpack_16 : decode cX11_unpack 16 = .ok (.iconst 0, 1) := by decide +kernel
theorem dX11_unpack_17 : decode cX11_unpack 17 = .ok (.invokevirtual 42, 3) := by decide +kernel
theorem dX11_unpack_20 : decode cX11_unpack 20 = .ok (.ifCond .ne 5, 3) := by decide +kernel
theorem dX11_unpack_23 : decode cX11_unpack 23 = .ok (.iconst 0, 1) := by decide +kernel
theorem dX11_unpack_24 : decode cX11_unpack 24 = .ok (.ireturn, 1) := by decide +kernel
theorem dX11_unpack_25 : decode cX11_unpack 25 = .ok (.aload_n 0, 1) := by decide +kernel
theorem dX11_unpack_26 : decode cX11_unpack 26 = .ok (.invokevirtual 54, 3) := by decide +kernel
theorem dX11_unpack_29 : decode cX11_unpack 29 = .ok (.aload_n 0, 1) := by decide +kernel
theorem dX11_unpack_30 : decode cX11_unpack 30 = .ok (.invokevirtual 125, 3) := by decide +kernel
theorem dX11_unpack_33 : decode cX11_unpack 33 = .ok (.ireturn, 1) := by decide +kernel
theorem dX11_puts_0 : decode cX11_puts 0 = .ok (.aload_n 0, 1) := by decide +kernel
theorem dX11_puts_1 : decode cX11_puts 1 = .ok (.getfield 7, 3) := by decide +kernel
theorem dX11_puts_4 : decode cX11_puts 4 = .ok (.bipush 50, 2) := by decide +kernel
theorem dX11_puts_6 : decode cX11_puts 6 = .ok (.iconst 2, 1) := by decide +kernel
theorem dX11_puts_7 : decode cX11_puts 7 = .ok (.aload_n 0, 1) := by decide +kernel
theorem dX11_puts_8 : decode cX11_puts 8 = .ok (.getfield 7, 3) := by decide +kernel
theorem dX11_puts_11 : decode cX11_puts 11 = .ok (.bipush 6, 2) := by decide +kernel
theorem dX11_puts_13 : decode cX11_puts 13 = .ok (.iaload, 1) := by decide +kernel
theorem dX11_puts_14 : decode cX11_puts 14 = .ok (.imul, 1) := by decide +kernel
theorem dX11_puts_15 : decode cX11_puts 15 = .ok (.iadd, 1) := by decide +kernel
theorem dX11_puts_16 : decode cX11_puts 16 = .ok (.iload_n 1, 1) := by decide +kernel
theorem dX11_puts_17 : decode cX11_puts 17 = .ok (.iastore, 1) := by decide +kernel
theorem dX11_puts_18 : decode cX11_puts 18 = .ok (.aload_n 0, 1) := by decide +kernel
theorem dX11_puts_19 : decode cX11_puts 19 = .ok (.getfield 7, 3) := by decide +kernel
theorem dX11_puts_22 : decode cX11_puts 22 = .ok (.bipush 50, 2) := by decide +kernel
theorem dX11_puts_24 : decode cX11_puts 24 = .ok (.iconst 2, 1) := by decide +kernel
theorem dX11_puts_25 : decode cX11_puts 25 = .ok (.aload_n 0, 1) := by decide +kernel
theorem dX11_puts_26 : decode cX11_puts 26 = .ok (.getfield 7, 3) := by decide +kernel
theorem dX11_puts_29 : decode cX11_puts 29 = .ok (.bipush 6, 2) := by decide +kernel
theorem dX11_puts_31 : decode cX11_puts 31 = .ok (.iaload, 1) := by decide +kernel
theorem dX11_puts_32 : decode cX11_puts 32 = .ok (.imul, 1) := by decide +kernel
theorem dX11_puts_33 : decode cX11_puts 33 = .ok (.iadd, 1) := by decide +kernel
theorem dX11_puts_34 : decode cX11_puts 34 = .ok (.iconst 1, 1) := by decide +kernel
theorem dX11_puts_35 : decode cX11_puts 35 = .ok (.iadd, 1) := by decide +kernel
theorem dX11_puts_36 : decode cX11_puts 36 = .ok (.iload_n 2, 1) := by decide +kernel
theorem dX11_puts_37 : decode cX11_puts 37 = .ok (.iastore, 1) := by decide +kernel
theorem dX11_puts_38 : decode cX11_puts 38 = .ok (.aload_n 0, 1) := by decide +kernel
theorem dX11_puts_39 : decode cX11_puts 39 = .ok (.getfield 7, 3) := by decide +kernel
theorem dX11_puts_42 : decode cX11_puts 42 = .ok (.bipush 6, 2) := by decide +kernel
theorem dX11_puts_44 : decode cX11_puts 44 = .ok (.dup2, 1) := by decide +kernel
theorem dX11_puts_45 : decode cX11_puts 45 = .ok (.iaload, 1) := by decide +kernel
theorem dX11_puts_46 : decode cX11_puts 46 = .ok (.iconst 1, 1) := by decide +kernel
theorem dX11_puts_47 : decode cX11_puts 47 = .ok (.iadd, 1) := by decide +kernel
theorem dX11_puts_48 : decode cX11_puts 48 = .ok (.iastore, 1) := by decide +kernel
theorem dX11_puts_49 : decode cX11_puts 49 = .ok (.aload_n 0, 1) := by decide +kernel
theorem dX11_puts_50 : decode cX11_puts 50 = .ok (.getfield 7, 3) := by decide +kernel
theorem dX11_puts_53 : decode cX11_puts 53 = .ok (.bipush 6, 2) := by decide +kernel
theorem dX11_puts_55 : decode cX11_puts 55 = .ok (.iaload, 1) := by decide +kernel
theorem dX11_puts_56 : decode cX11_puts 56 = .ok (.ireturn, 1) := by decide +kernel
theorem dX11_addToken_0 : decode cX11_addToken 0 = .ok (.aload_n 0, 1) := by decide +kernel
theorem dX11_addToken_1 : decode cX11_addToken 1 = .ok (.iload_n 1, 1) := by decide +kernel
theorem dX11_addToken_2 : decode cX11_addToken 2 = .ok (.iconst 0, 1) := by decide +kernel
theorem dX11_addToken_3 : decode cX11_addToken 3 = .ok (.iconst 3, 1) := by decide +kernel
theorem dX11_addToken_4 : decode cX11_addToken 4 = .ok (.invokestatic 57, 3) := by decide +kernel
theorem dX11_addToken_7 : decode cX11_addToken 7 = .ok (.invokevirtual 42, 3) := by decide +kernel
theorem dX11_addToken_10 : decode cX11_addToken 10 = .ok (.pop, 1) := by decide +kernel
theorem dX11_addToken_11 : decode cX11_addToken 11 = .ok (.aload_n 0, 1) := by decide +kernel
theorem dX11_addToken_12 : decode cX11_addToken 12 = .ok (.aload_n 0, 1) := by decide +kernel
theorem dX11_addToken_13 : decode cX11_addToken 13 = .ok (.getfield 7, 3) := by decide +kernel
theorem dX11_addToken_16 : decode cX11_addToken 16 = .ok (.bipush 6, 2) := by decide +kernel
theorem dX11_addToken_18 : decode cX11_addToken 18 = .ok (.iaload, 1) := by decide +kernel
theorem dX11_addToken_19 : decode cX11_addToken 19 = .ok (.bipush 40, 2) := by decide +kernel
theorem dX11_addToken_21 : decode cX11_addToken 21 = .ok (.if_icmp .ge 7, 3) := by decide +kernel
theorem dX11_addToken_24 : decode cX11_addToken 24 = .ok (.iconst 1, 1) := by decide +kernel
theorem dX11_addToken_25 : decode cX11_addToken 25 = .ok (.goto 4, 3) := by decide +kernel
theorem dX11_addToken_28 : decode cX11_addToken 28 = .ok (.iconst 0, 1) := by decide +kernel
theorem dX11_addToken_29 : decode cX11_addToken 29 = .ok (.iconst 2, 1) := by decide +kernel
theorem dX11_addToken_30 : decode cX11_addToken 30 = .ok (.invokevirtual 61, 3) := by decide +kernel
theorem dX11_addToken_33 : decode cX11_addToken 33 = .ok (.ifCond .ne 5, 3) := by decide +kernel
theorem dX11_addToken_36 : decode cX11_addToken 36 = .ok (.iconst 0, 1) := by decide +kernel
theorem dX11_addToken_37 : decode cX11_addToken 37 = .ok (.ireturn, 1) := by decide +kernel
theorem dX11_addToken_38 : decode cX11_addToken 38 = .ok (.aload_n 0, 1) := by decide +kernel
theorem dX11_addToken_39 : decode cX11_addToken 39 = .ok (.invokevirtual 54, 3) := by decide +kernel
theorem dX11_addToken_42 : decode cX11_addToken 42 = .ok (.aload_n 0, 1) := by decide +kernel
theorem dX11_addToken_43 : decode cX11_addToken 43 = .ok (.iconst 0, 1) := by decide +kernel
theorem dX11_addToken_44 : decode cX11_addToken 44 = .ok (.iload_n 1, 1) := by decide +kernel
theorem dX11_addToken_45 : decode cX11_addToken 45 = .ok (.invokevirtual 129, 3) := by decide +kernel
theorem dX11_addToken_48 : decode cX11_addToken 48 = .ok (.ireturn, 1) := by decide +kernel
theorem dX11_addRepeat_0 : decode cX11_addRepeat 0 = .ok (.aload_n 0, 1) := by decide +kernel
theorem dX11_addRepeat_1 : decode cX11_addRepeat 1 = .ok (.iload_n 1, 1) := by decide +kernel
theorem dX11_addRepeat_2 : decode cX11_addRepeat 2 = .ok (.iconst 1, 1) := by decide +kernel
theorem dX11_addRepeat_3 : decode cX11_addRepeat 3 = .ok (.bipush 39, 2) := by decide +kernel
theorem dX11_addRepeat_5 : decode cX11_addRepeat 5 = .ok (.invokestatic 57, 3) := by decide +kernel
theorem dX11_addRepeat_8 : decode cX11_addRepeat 8 = .ok (.ifCond .eq 17, 3) := by decide +kernel
theorem dX11_addRepeat_11 : decode cX11_addRepeat 11 = .ok (.iload_n 2, 1) := by decide +kernel
theorem dX11_addRepeat_12 : decode cX11_addRepeat 12 = .ok (.iconst 1, 1) := by decide +kernel
theorem dX11_addRepeat_13 : decode cX11_addRepeat 13 = .ok (.bipush 40, 2) := by decide +kernel
theorem dX11_addRepeat_15 : decode cX11_addRepeat 15 = .ok (.invokestatic 57, 3) := by decide +kernel
theorem dX11_addRepeat_18 : decode cX11_addRepeat 18 = .ok (.ifCond .eq 7, 3) := by decide +kernel
theorem dX11_addRepeat_21 : decode cX11_addRepeat 21 = .ok (.iconst 1, 1) := by decide +kernel
theorem dX11_addRepeat_22 : decode cX11_addRepeat 22 = .ok (.goto 4, 3) := by decide +kernel
theorem dX11_addRepeat_25 : decode cX11_addRepeat 25 = .ok (.iconst 0, 1) := by decide +kernel
theorem dX11_addRepeat_26 : decode cX11_addRepeat 26 = .ok (.invokevirtual 42, 3) := by decide +kernel
theorem dX11_addRepeat_29 : decode cX11_addRepeat 29 = .ok (.pop, 1) := by decide +kernel
theorem dX11_addRepeat_30 : decode cX11_addRepeat 30 = .ok (.aload_n 0, 1) := by decide +kernel
theorem dX11_addRepeat_31 : decode cX11_addRepeat 31 = .ok (.aload_n 0, 1) := by decide +kernel
theorem dX11_addRepeat_32 : decode cX11_addRepeat 32 = .ok (.getfield 7, 3) := by decide +kernel
theorem dX11_addRepeat_35 : decode cX11_addRepeat 35 = .ok (.bipush 6, 2) := by decide +kernel
theorem dX11_addRepeat_37 : decode cX11_addRepeat 37 = .ok (.iaload, 1) := by decide +kernel
theorem dX11_addRepeat_38 : decode cX11_addRepeat 38 = .ok (.bipush 40, 2) := by decide +kernel
theorem dX11_addRepeat_40 : decode cX11_addRepeat 40 = .ok (.if_icmp .ge 7, 3) := by decide +kernel
theorem dX11_addRepeat_43 : decode cX11_addRepeat 43 = .ok (.iconst 1, 1) := by decide +kernel
theorem dX11_addRepeat_44 : decode cX11_addRepeat 44 = .ok (.goto 4, 3) := by decide +kernel
theorem dX11_addRepeat_47 : decode cX11_addRepeat 47 = .ok (.iconst 0, 1) := by decide +kernel
theorem dX11_addRepeat_48 : decode cX11_addRepeat 48 = .ok (.iconst 2, 1) := by decide +kernel
theorem dX11_addRepeat_49 : decode cX11_addRepeat 49 = .ok (.invokevirtual 61, 3) := by decide +kernel
theorem dX11_addRepeat_52 : decode cX11_addRepeat 52 = .ok (.ifCond .ne 5, 3) := by decide +kernel
theorem dX11_addRepeat_55 : decode cX11_addRepeat 55 = .ok (.iconst 0, 1) := by decide +kernel
theorem dX11_addRepeat_56 : decode cX11_addRepeat 56 = .ok (.ireturn, 1) := by decide +kernel
theorem dX11_addRepeat_57 : decode cX11_addRepeat 57 = .ok (.aload_n 0, 1) := by decide +kernel
theorem dX11_addRepeat_58 : decode cX11_addRepeat 58 = .ok (.invokevirtual 54, 3) := by decide +kernel
theorem dX11_addRepeat_61 : decode cX11_addRepeat 61 = .ok (.aload_n 0, 1) := by decide +kernel
theorem dX11_addRepeat_62 : decode cX11_addRepeat 62 = .ok (.iload_n 1, 1) := by decide +kernel
theorem dX11_addRepeat_63 : decode cX11_addRepeat 63 = .ok (.iload_n 2, 1) := by decide +kernel
theorem dX11_addRepeat_64 : decode cX11_addRepeat 64 = .ok (.invokevirtual 129, 3) := by decide +kernel
theorem dX11_addRepeat_67 : decode cX11_addRepeat 67 = .ok (.ireturn, 1) := by decide +kernel
theorem dX11_takeLast_0 : decode cX11_takeLast 0 = .ok (.aload_n 0, 1) := by decide +kernel
theorem dX11_takeLast_1 : decode cX11_takeLast 1 = .ok (.aload_n 0, 1) := by decide +kernel
theorem dX11_takeLast_2 : decode cX11_takeLast 2 = .ok (.getfield 7, 3) := by decide +kernel
theorem dX11_takeLast_5 : decode cX11_takeLast 5 = .ok (.bipush 6, 2) := by decide +kernel
theorem dX11_takeLast_7 : decode cX11_takeLast 7 = .ok (.iaload, 1) := by decide +kernel
theorem dX11_takeLast_8 : decode cX11_takeLast 8 = .ok (.ifCond .le 7, 3) := by decide +kernel
theorem dX11_takeLast_11 : decode cX11_takeLast 11 = .ok (.iconst 1, 1) := by decide +kernel
theorem dX11_takeLast_12 : decode cX11_takeLast 12 = .ok (.goto 4, 3) := by decide +kernel
theorem dX11_takeLast_15 : decode cX11_takeLast 15 = .ok (.iconst 0, 1) := by decide +kernel
theorem dX11_takeLast_16 : decode cX11_takeLast 16 = .ok (.invokevirtual 42, 3) := by decide +kernel
theorem dX11_takeLast_19 : decode cX11_takeLast 19 = .ok (.ifCond .ne 5, 3) := by decide +kernel
theorem dX11_takeLast_22 : decode cX11_takeLast 22 = .ok (.iconst 0, 1) := by decide +kernel
theorem dX11_takeLast_23 : decode cX11_takeLast 23 = .ok (.ireturn, 1) := by decide +kernel
theorem dX11_takeLast_24 : decode cX11_takeLast 24 = .ok (.aload_n 0, 1) := by decide +kernel
theorem dX11_takeLast_25 : decode cX11_takeLast 25 = .ok (.invokevirtual 54, 3) := by decide +kernel
theorem dX11_takeLast_28 : decode cX11_takeLast 28 = .ok (.aload_n 0, 1) := by decide +kernel
theorem dX11_takeLast_29 : decode cX11_takeLast 29 = .ok (.getfield 7, 3) := by decide +kernel
theorem dX11_takeLast_32 : decode cX11_takeLast 32 = .ok (.bipush 6, 2) := by decide +kernel
theorem dX11_takeLast_34 : decode cX11_takeLast 34 = .ok (.dup2, 1) := by decide +kernel
theorem dX11_takeLast_35 : decode cX11_takeLast 35 = .ok (.iaload, 1) := by decide +kernel
theorem dX11_takeLast_36 : decode cX11_takeLast 36 = .ok (.iconst 1, 1) := by decide +kernel
theorem dX11_takeLast_37 : decode cX11_takeLast 37 = .ok (.isub, 1) := by decide +kernel
theorem dX11_takeLast_38 : decode cX11_takeLast 38 = .ok (.iastore, 1) := by decide +kernel
theorem dX11_takeLast_39 : decode cX11_takeLast 39 = .ok (.aload_n 0, 1) := by decide +kernel
theorem dX11_takeLast_40 : decode cX11_takeLast 40 = .ok (.getfield 7, 3) := by decide +kernel
theorem dX11_takeLast_43 : decode cX11_takeLast 43 = .ok (.bipush 50, 2) := by decide +kernel
theorem dX11_takeLast_45 : decode cX11_takeLast 45 = .ok (.iconst 2, 1) := by decide +kernel
theorem dX11_takeLast_46 : decode cX11_takeLast 46 = .ok (.aload_n 0, 1) := by decide +kernel
theorem dX11_takeLast_47 : decode cX11_takeLast 47 = .ok (.getfield 7, 3) := by decide +kernel
theorem dX11_takeLast_50 : decode cX11_takeLast 50 = .ok (.bipush 6, 2) := by decide +kernel
theorem dX11_takeLast_52 : decode cX11_takeLast 52 = .ok (.iaload, 1) := by decide +kernel
theorem dX11_takeLast_53 : decode cX11_takeLast 53 = .ok (.imul, 1) := by decide +kernel
theorem dX11_takeLast_54 : decode cX11_takeLast 54 = .ok (.iadd, 1) := by decide +kernel
theorem dX11_takeLast_55 : decode cX11_takeLast 55 = .ok (.iconst 0, 1) := by decide +kernel
theorem dX11_takeLast_56 : decode cX11_takeLast 56 = .ok (.iastore, 1) := by decide +kernel
theorem dX11_takeLast_57 : decode cX11_takeLast 57 = .ok (.aload_n 0, 1) := by decide +kernel
theorem dX11_takeLast_58 : decode cX11_takeLast 58 = .ok (.getfield 7, 3) := by decide +kernel
theorem dX11_takeLast_61 : decode cX11_takeLast 61 = .ok (.bipush 50, 2) := by decide +kernel
theorem dX11_takeLast_63 : decode cX11_takeLast 63 = .ok (.iconst 2, 1) := by decide +kernel
theorem dX11_takeLast_64 : decode cX11_takeLast 64 = .ok (.aload_n 0, 1) := by decide +kernel
theorem dX11_takeLast_65 : decode cX11_takeLast 65 = .ok (.getfield 7, 3) := by decide +kernel
theorem dX11_takeLast_68 : decode cX11_takeLast 68 = .ok (.bipush 6, 2) := by decide +kernel
theorem dX11_takeLast_70 : decode cX11_takeLast 70 = .ok (.iaload, 1) := by decide +kernel
theorem dX11_takeLast_71 : decode cX11_takeLast 71 = .ok (.imul, 1) := by decide +kernel
theorem dX11_takeLast_72 : decode cX11_takeLast 72 = .ok (.iadd, 1) := by decide +kernel
theorem dX11_takeLast_73 : decode cX11_takeLast 73 = .ok (.iconst 1, 1) := by decide +kernel
theorem dX11_takeLast_74 : decode cX11_takeLast 74 = .ok (.iadd, 1) := by decide +kernel
theorem dX11_takeLast_75 : decode cX11_takeLast 75 = .ok (.iconst 0, 1) := by decide +kernel
theorem dX11_takeLast_76 : decode cX11_takeLast 76 = .ok (.iastore, 1) := by decide +kernel
theorem dX11_takeLast_77 : decode cX11_takeLast 77 = .ok (.aload_n 0, 1) := by decide +kernel
theorem dX11_takeLast_78 : decode cX11_takeLast 78 = .ok (.getfield 7, 3) := by decide +kernel
theorem dX11_takeLast_81 : decode cX11_takeLast 81 = .ok (.bipush 6, 2) := by decide +kernel
theorem dX11_takeLast_83 : decode cX11_takeLast 83 = .ok (.iaload, 1) := by decide +kernel
theorem dX11_takeLast_84 : decode cX11_takeLast 84 = .ok (.ireturn, 1) := by decide +kernel
theorem dX11_emptySack_0 : decode cX11_emptySack 0 = .ok (.aload_n 0, 1) := by decide +kernel
theorem dX11_emptySack_1 : decode cX11_emptySack 1 = .ok (.invokevirtual 54, 3) := by decide +kernel
theorem dX11_emptySack_4 : decode cX11_emptySack 4 = .ok (.aload_n 0, 1) := by decide +kernel
theorem dX11_emptySack_5 : decode cX11_emptySack 5 = .ok (.aload_n 0, 1) := by decide +kernel
theorem dX11_emptySack_6 : decode cX11_emptySack 6 = .ok (.bipush 6, 2) := by decide +kernel
theorem dX11_emptySack_8 : decode cX11_emptySack 8 = .ok (.bipush 50, 2) := by decide +kernel
theorem dX11_emptySack_10 : decode cX11_emptySack 10 = .ok (.bipush 80, 2) := by decide +kernel
theorem dX11_emptySack_12 : decode cX11_emptySack 12 = .ok (.invokevirtual 69, 3) := by decide +kernel
theorem dX11_emptySack_15 : decode cX11_emptySack 15 = .ok (.invokevirtual 50, 3) := by decide +kernel
theorem dX11_emptySack_18 : decode cX11_emptySack 18 = .ok (.ireturn, 1) := by decide +kernel
theorem dX11_append_0 : decode cX11_append 0 = .ok (.aload_n 0, 1) := by decide +kernel
theorem dX11_append_1 : decode cX11_append 1 = .ok (.iload_n 1, 1) := by decide +kernel
theorem dX11_append_2 : decode cX11_append 2 = .ok (.bipush 33, 2) := by decide +kernel
theorem dX11_append_4 : decode cX11_append 4 = .ok (.bipush 126, 2) := by decide +kernel
theorem dX11_append_6 : decode cX11_append 6 = .ok (.invokestatic 57, 3) := by decide +kernel
theorem dX11_append_9 : decode cX11_append 9 = .ok (.invokevirtual 42, 3) := by decide +kernel
theorem dX11_append_12 : decode cX11_append 12 = .ok (.pop, 1) := by decide +kernel
theorem dX11_append_13 : decode cX11_append 13 = .ok (.aload_n 0, 1) := by decide +kernel
theorem dX11_append_14 : decode cX11_append 14 = .ok (.aload_n 0, 1) := by decide +kernel
theorem dX11_append_15 : decode cX11_append 15 = .ok (.getfield 132, 3) := by decide +kernel
theorem dX11_append_18 : decode cX11_append 18 = .ok (.bipush 60, 2) := by decide +kernel
theorem dX11_append_20 : decode cX11_append 20 = .ok (.if_icmp .ge 7, 3) := by decide +kernel
theorem dX11_append_23 : decode cX11_append 23 = .ok (.iconst 1, 1) := by decide +kernel
theorem dX11_append_24 : decode cX11_append 24 = .ok (.goto 4, 3) := by decide +kernel
theorem dX11_append_27 : decode cX11_append 27 = .ok (.iconst 0, 1) := by decide +kernel
theorem dX11_append_28 : decode cX11_append 28 = .ok (.iconst 2, 1) := by decide +kernel
theorem dX11_append_29 : decode cX11_append 29 = .ok (.invokevirtual 61, 3) := by decide +kernel
theorem dX11_append_32 : decode cX11_append 32 = .ok (.ifCond .ne 5, 3) := by decide +kernel
theorem dX11_append_35 : decode cX11_append 35 = .ok (.iconst 0, 1) := by decide +kernel
theorem dX11_append_36 : decode cX11_append 36 = .ok (.ireturn, 1) := by decide +kernel
theorem dX11_append_37 : decode cX11_append 37 = .ok (.aload_n 0, 1) := by decide +kernel
theorem dX11_append_38 : decode cX11_append 38 = .ok (.getfield 28, 3) := by decide +kernel
theorem dX11_append_41 : decode cX11_append 41 = .ok (.aload_n 0, 1) := by decide +kernel
theorem dX11_append_42 : decode cX11_append 42 = .ok (.getfield 132, 3) := by decide +kernel
theorem dX11_append_45 : decode cX11_append 45 = .ok (.iload_n 1, 1) := by decide +kernel
theorem dX11_append_46 : decode cX11_append 46 = .ok (.i2c, 1) := by decide +kernel
theorem dX11_append_47 : decode cX11_append 47 = .ok (.castore, 1) := by decide +kernel
theorem dX11_append_48 : decode cX11_append 48 = .ok (.aload_n 0, 1) := by decide +kernel
theorem dX11_append_49 : decode cX11_append 49 = .ok (.dup, 1) := by decide +kernel
theorem dX11_append_50 : decode cX11_append 50 = .ok (.getfield 132, 3) := by decide +kernel
theorem dX11_append_53 : decode cX11_append 53 = .ok (.iconst 1, 1) := by decide +kernel
theorem dX11_append_54 : decode cX11_append 54 = .ok (.iadd, 1) := by decide +kernel
theorem dX11_append_55 : decode cX11_append 55 = .ok (.putfield 132, 3) := by decide +kernel
theorem dX11_append_58 : decode cX11_append 58 = .ok (.aload_n 0, 1) := by decide +kernel
theorem dX11_append_59 : decode cX11_append 59 = .ok (.getfield 132, 3) := by decide +kernel
theorem dX11_append_62 : decode cX11_append 62 = .ok (.ireturn, 1) := by decide +kernel
theorem dX11_clearBuffer_0 : decode cX11_clearBuffer 0 = .ok (.aload_n 0, 1) := by decide +kernel
theorem dX11_clearBuffer_1 : decode cX11_clearBuffer 1 = .ok (.getfield 132, 3) := by decide +kernel
theorem dX11_clearBuffer_4 : decode cX11_clearBuffer 4 = .ok (.istore_n 1, 1) := by decide +kernel
theorem dX11_clearBuffer_5 : decode cX11_clearBuffer 5 = .ok (.aload_n 0, 1) := by decide +kernel
theorem dX11_clearBuffer_6 : decode cX11_clearBuffer 6 = .ok (.iconst 0, 1) := by decide +kernel
theorem dX11_clearBuffer_7 : decode cX11_clearBuffer 7 = .ok (.putfield 132, 3) := by decide +kernel
theorem dX11_clearBuffer_10 : decode cX11_clearBuffer 10 = .ok (.aload_n 0, 1) := by decide +kernel
theorem dX11_clearBuffer_11 : decode cX11_clearBuffer 11 = .ok (.iload_n 1, 1) := by decide +kernel
theorem dX11_clearBuffer_12 : decode cX11_clearBuffer 12 = .ok (.invokevirtual 50, 3) := by decide +kernel
theorem dX11_clearBuffer_15 : decode cX11_clearBuffer 15 = .ok (.ireturn, 1) := by decide +kernel
theorem dX11_sign_0 : decode cX11_sign 0 = .ok (.aload_n 0, 1) := by decide +kernel
theorem dX11_sign_1 : decode cX11_sign 1 = .ok (.getfield 135, 3) := by decide +kernel
theorem dX11_sign_4 : decode cX11_sign 4 = .ok (.aload_n 0, 1) := by decide +kernel
theorem dX11_sign_5 : decode cX11_sign 5 = .ok (.getfield 132, 3) := by decide +kernel
theorem dX11_sign_8 : decode cX11_sign 8 = .ok (.if_icmp .ge 15, 3) := by decide +kernel
theorem dX11_sign_11 : decode cX11_sign 11 = .ok (.aload_n 0, 1) := by decide +kernel
theorem dX11_sign_12 : decode cX11_sign 12 = .ok (.getfield 28, 3) := by decide +kernel
theorem dX11_sign_15 : decode cX11_sign 15 = .ok (.aload_n 0, 1) := by decide +kernel
theorem dX11_sign_16 : decode cX11_sign 16 = .ok (.getfield 135, 3) := by decide +kernel
theorem dX11_sign_19 : decode cX11_sign 19 = .ok (.caload, 1) := by decide +kernel
theorem dX11_sign_20 : decode cX11_sign 20 = .ok (.goto 4, 3) := by decide +kernel
theorem dX11_sign_23 : decode cX11_sign 23 = .ok (.iconst (-1), 1) := by decide +kernel
theorem dX11_sign_24 : decode cX11_sign 24 = .ok (.ireturn, 1) := by decide +kernel
theorem dX11_needs_0 : decode cX11_needs 0 = .ok (.aload_n 0, 1) := by decide +kernel
theorem dX11_needs_1 : decode cX11_needs 1 = .ok (.getfield 138, 3) := by decide +kernel
theorem dX11_needs_4 : decode cX11_needs 4 = .ok (.ifCond .ge 29, 3) := by decide +kernel
theorem dX11_needs_7 : decode cX11_needs 7 = .ok (.aload_n 0, 1) := by decide +kernel
theorem dX11_needs_8 : decode cX11_needs 8 = .ok (.iload_n 1, 1) := by decide +kernel
theorem dX11_needs_9 : decode cX11_needs 9 = .ok (.ifCond .eq 7, 3) := by decide +kernel
theorem dX11_needs_12 : decode cX11_needs 12 = .ok (.iconst (-1), 1) := by decide +kernel
theorem dX11_needs_13 : decode cX11_needs 13 = .ok (.goto 7, 3) := by decide +kernel
theorem dX11_needs_16 : decode cX11_needs 16 = .ok (.aload_n 0, 1) := by decide +kernel
theorem dX11_needs_17 : decode cX11_needs 17 = .ok (.getfield 135, 3) := by decide +kernel
theorem dX11_needs_20 : decode cX11_needs 20 = .ok (.putfield 138, 3) := by decide +kernel
theorem dX11_needs_23 : decode cX11_needs 23 = .ok (.aload_n 0, 1) := by decide +kernel
theorem dX11_needs_24 : decode cX11_needs 24 = .ok (.dup, 1) := by decide +kernel
theorem dX11_needs_25 : decode cX11_needs 25 = .ok (.getfield 135, 3) := by decide +kernel
theorem dX11_needs_28 : decode cX11_needs 28 = .ok (.iconst 1, 1) := by decide +kernel
theorem dX11_needs_29 : decode cX11_needs 29 = .ok (.iadd, 1) := by decide +kernel
theorem dX11_needs_30 : decode cX11_needs 30 = .ok (.putfield 135, 3) := by decide +kernel
theorem dX11_needs_33 : decode cX11_needs 33 = .ok (.return_, 1) := by decide +kernel
theorem dX11_number_0 : decode cX11_number 0 = .ok (.aload_n 0, 1) := by decide +kernel
theorem dX11_number_1 : decode cX11_number 1 = .ok (.invokevirtual 141, 3) := by decide +kernel
theorem dX11_number_4 : decode cX11_number 4 = .ok (.bipush 48, 2) := by decide +kernel
theorem dX11_number_6 : decode cX11_number 6 = .ok (.isub, 1) := by decide +kernel
theorem dX11_number_7 : decode cX11_number 7 = .ok (.istore_n 2, 1) := by decide +kernel
theorem dX11_number_8 : decode cX11_number 8 = .ok (.aload_n 0, 1) := by decide +kernel
theorem dX11_number_9 : decode cX11_number 9 = .ok (.iload_n 2, 1) := by decide +kernel
theorem dX11_number_10 : decode cX11_number 10 = .ok (.iconst 1, 1) := by decide +kernel
theorem dX11_number_11 : decode cX11_number 11 = .ok (.bipush 9, 2) := by decide +kernel
theorem dX11_number_13 : decode cX11_number 13 = .ok (.invokestatic 57, 3) := by decide +kernel
theorem dX11_number_16 : decode cX11_number 16 = .ok (.invokevirtual 144, 3) := by decide +kernel
theorem dX11_number_19 : decode cX11_number 19 = .ok (.iconst 0, 1) := by decide +kernel
theorem dX11_number_20 : decode cX11_number 20 = .ok (.istore_n 3, 1) := by decide +kernel
theorem dX11_number_21 : decode cX11_number 21 = .ok (.iload_n 3, 1) := by decide +kernel
theorem dX11_number_22 : decode cX11_number 22 = .ok (.iconst 2, 1) := by decide +kernel
theorem dX11_number_23 : decode cX11_number 23 = .ok (.if_icmp .ge 57, 3) := by decide +kernel
theorem dX11_number_26 : decode cX11_number 26 = .ok (.aload_n 0, 1) := by decide +kernel
theorem dX11_number_27 : decode cX11_number 27 = .ok (.getfield 138, 3) := by decide +kernel
theorem dX11_number_30 : decode cX11_number 30 = .ok (.ifCond .ge 44, 3) := by decide +kernel
theorem dX11_number_33 : decode cX11_number 33 = .ok (.aload_n 0, 1) := by decide +kernel
theorem dX11_number_34 : decode cX11_number 34 = .ok (.invokevirtual 141, 3) := by decide +kernel
theorem dX11_number_37 : decode cX11_number 37 = .ok (.bipush 48, 2) := by decide +kernel
theorem dX11_number_39 : decode cX11_number 39 = .ok (.bipush 57, 2) := by decide +kernel
theorem dX11_number_41 : decode cX11_number 41 = .ok (.invokestatic 57, 3) := by decide +kernel
theorem dX11_number_44 : decode cX11_number 44 = .ok (.ifCond .eq 30, 3) := by decide +kernel
theorem dX11_number_47 : decode cX11_number 47 = .ok (.bipush 10, 2) := by decide +kernel
theorem dX11_number_49 : decode cX11_number 49 = .ok (.iload_n 2, 1) := by decide +kernel
theorem dX11_number_50 : decode cX11_number 50 = .ok (.imul, 1) := by decide +kernel
theorem dX11_number_51 : decode cX11_number 51 = .ok (.aload_n 0, 1) := by decide +kernel
theorem dX11_number_52 : decode cX11_number 52 = .ok (.invokevirtual 141, 3) := by decide +kernel
theorem dX11_number_55 : decode cX11_number 55 = .ok (.iadd, 1) := by decide +kernel
theorem dX11_number_56 : decode cX11_number 56 = .ok (.bipush 48, 2) := by decide +kernel
theorem dX11_number_58 : decode cX11_number 58 = .ok (.isub, 1) := by decide +kernel
theorem dX11_number_59 : decode cX11_number 59 = .ok (.istore_n 2, 1) := by decide +kernel
theorem dX11_number_60 : decode cX11_number 60 = .ok (.aload_n 0, 1) := by decide +kernel
theorem dX11_number_61 : decode cX11_number 61 = .ok (.iload_n 2, 1) := by decide +kernel
theorem dX11_number_62 : decode cX11_number 62 = .ok (.iload_n 1, 1) := by decide +kernel
theorem dX11_number_63 : decode cX11_number 63 = .ok (.if_icmp .gt 7, 3) := by decide +kernel
theorem dX11_number_66 : decode cX11_number 66 = .ok (.iconst 1, 1) := by decide +kernel
theorem dX11_number_67 : decode cX11_number 67 = .ok (.goto 4, 3) := by decide +kernel
theorem dX11_number_70 : decode cX11_number 70 = .ok (.iconst 0, 1) := by decide +kernel
theorem dX11_number_71 : decode cX11_number 71 = .ok (.invokevirtual 144, 3) := by decide +kernel
theorem dX11_number_74 : decode cX11_number 74 = .ok (.iinc 3 1, 3) := by decide +kernel
theorem dX11_number_77 : decode cX11_number 77 = .ok (.goto (-56), 3) := by decide +kernel
theorem dX11_number_80 : decode cX11_number 80 = .ok (.iload_n 2, 1) := by decide +kernel
theorem dX11_number_81 : decode cX11_number 81 = .ok (.ireturn, 1) := by decide +kernel
theorem dX11_readPart_0 : decode cX11_readPart 0 = .ok (.iconst 3, 1) := by decide +kernel
theorem dX11_readPart_1 : decode cX11_readPart 1 = .ok (.aload_n 0, 1) := by decide +kernel
theorem dX11_readPart_2 : decode cX11_readPart 2 = .ok (.getfield 148, 3) := by decide +kernel
theorem dX11_readPart_5 : decode cX11_readPart 5 = .ok (.imul, 1) := by decide +kernel
theorem dX11_readPart_6 : decode cX11_readPart 6 = .ok (.istore_n 1, 1) := by decide +kernel
theorem dX11_readPart_7 : decode cX11_readPart 7 = .ok (.aload_n 0, 1) := by decide +kernel
theorem dX11_readPart_8 : decode cX11_readPart 8 = .ok (.invokevirtual 141, 3) := by decide +kernel
theorem dX11_readPart_11 : decode cX11_readPart 11 = .ok (.istore_n 2, 1) := by decide +kernel
theorem dX11_readPart_12 : decode cX11_readPart 12 = .ok (.aload_n 0, 1) := by decide +kernel
theorem dX11_readPart_13 : decode cX11_readPart 13 = .ok (.iload_n 2, 1) := by decide +kernel
theorem dX11_readPart_14 : decode cX11_readPart 14 = .ok (.bipush 43, 2) := by decide +kernel
theorem dX11_readPart_16 : decode cX11_readPart 16 = .ok (.if_icmp .eq 39, 3) := by decide +kernel
theorem dX11_readPart_19 : decode cX11_readPart 19 = .ok (.iload_n 2, 1) := by decide +kernel
theorem dX11_readPart_20 : decode cX11_readPart 20 = .ok (.bipush 45, 2) := by decide +kernel
theorem dX11_readPart_22 : decode cX11_readPart 22 = .ok (.if_icmp .eq 33, 3) := by decide +kernel
theorem dX11_readPart_25 : decode cX11_readPart 25 = .ok (.iload_n 2, 1) := by decide +kernel
theorem dX11_readPart_26 : decode cX11_readPart 26 = .ok (.bipush 112, 2) := by decide +kernel
theorem dX11_readPart_28 : decode cX11_readPart 28 = .ok (.if_icmp .eq 27, 3) := by decide +kernel
theorem dX11_readPart_31 : decode cX11_readPart 31 = .ok (.iload_n 2, 1) := by decide +kernel
theorem dX11_readPart_32 : decode cX11_readPart 32 = .ok (.bipush 117, 2) := by decide +kernel
theorem dX11_readPart_34 : decode cX11_readPart 34 = .ok (.if_icmp .eq 21, 3) := by decide +kernel
theorem dX11_readPart_37 : decode cX11_readPart 37 = .ok (.iload_n 2, 1) := by decide +kernel
theorem dX11_readPart_38 : decode cX11_readPart 38 = .ok (.bipush 101, 2) := by decide +kernel
theorem dX11_readPart_40 : decode cX11_readPart 40 = .ok (.if_icmp .eq 15, 3) := by decide +kernel
theorem dX11_readPart_43 : decode cX11_readPart 43 = .ok (.iload_n 2, 1) := by decide +kernel
theorem dX11_readPart_44 : decode cX11_readPart 44 = .ok (.bipush 108, 2) := by decide +kernel
theorem dX11_readPart_46 : decode cX11_readPart 46 = .ok (.if_icmp .eq 9, 3) := by decide +kernel
theorem dX11_readPart_49 : decode cX11_readPart 49 = .ok (.iload_n 2, 1) := by decide +kernel
theorem dX11_readPart_50 : decode cX11_readPart 50 = .ok (.bipush 114, 2) := by decide +kernel
theorem dX11_readPart_52 : decode cX11_readPart 52 = .ok (.if_icmp .ne 7, 3) := by decide +kernel
theorem dX11_readPart_55 : decode cX11_readPart 55 = .ok (.iconst 1, 1) := by decide +kernel
theorem dX11_readPart_56 : decode cX11_readPart 56 = .ok (.goto 4, 3) := by decide +kernel
theorem dX11_readPart_59 : decode cX11_readPart 59 = .ok (.iconst 0, 1) := by decide +kernel
theorem dX11_readPart_60 : decode cX11_readPart 60 = .ok (.invokevirtual 144, 3) := by decide +kernel
theorem dX11_readPart_63 : decode cX11_readPart 63 = .ok (.aload_n 0, 1) := by decide +kernel
theorem dX11_readPart_64 : decode cX11_readPart 64 = .ok (.getfield 32, 3) := by decide +kernel
theorem dX11_readPart_67 : decode cX11_readPart 67 = .ok (.iload_n 1, 1) := by decide +kernel
theorem dX11_readPart_68 : decode cX11_readPart 68 = .ok (.iload_n 2, 1) := by decide +kernel
theorem dX11_readPart_69 : decode cX11_readPart 69 = .ok (.iastore, 1) := by decide +kernel
theorem dX11_readPart_70 : decode cX11_readPart 70 = .ok (.aload_n 0, 1) := by decide +kernel
theorem dX11_readPart_71 : decode cX11_readPart 71 = .ok (.getfield 32, 3) := by decide +kernel
theorem dX11_readPart_74 : decode cX11_readPart 74 = .ok (.iload_n 1, 1) := by decide +kernel
theorem dX11_readPart_75 : decode cX11_readPart 75 = .ok (.iconst 1, 1) := by decide +kernel
theorem dX11_readPart_76 : decode cX11_readPart 76 = .ok (.iadd, 1) := by decide +kernel
theorem dX11_readPart_77 : decode cX11_readPart 77 = .ok (.aload_n 0, 1) := by decide +kernel
theorem dX11_readPart_78 : decode cX11_readPart 78 = .ok (.getfield 135, 3) := by decide +kernel
theorem dX11_readPart_81 : decode cX11_readPart 81 = .ok (.iastore, 1) := by decide +kernel
theorem dX11_readPart_82 : decode cX11_readPart 82 = .ok (.iload_n 2, 1) := by decide +kernel
theorem dX11_readPart_83 : decode cX11_readPart 83 = .ok (.bipush 43, 2) := by decide +kernel
theorem dX11_readPart_85 : decode cX11_readPart 85 = .ok (.if_icmp .ne 68, 3) := by decide +kernel
theorem dX11_readPart_88 : decode cX11_readPart 88 = .ok (.aload_n 0, 1) := by decide +kernel
theorem dX11_readPart_89 : decode cX11_readPart 89 = .ok (.aload_n 0, 1) := by decide +kernel
theorem dX11_readPart_90 : decode cX11_readPart 90 = .ok (.invokevirtual 141, 3) := by decide +kernel
theorem dX11_readPart_93 : decode cX11_readPart 93 = .ok (.bipush 97, 2) := by decide +kernel
theorem dX11_readPart_95 : decode cX11_readPart 95 = .ok (.bipush 100, 2) := by decide +kernel
theorem dX11_readPart_97 : decode cX11_readPart 97 = .ok (.invokestatic 57, 3) := by decide +kernel
theorem dX11_readPart_100 : decode cX11_readPart 100 = .ok (.invokevirtual 144, 3) := by decide +kernel
theorem dX11_readPart_103 : decode cX11_readPart 103 = .ok (.aload_n 0, 1) := by decide +kernel
theorem dX11_readPart_104 : decode cX11_readPart 104 = .ok (.getfield 138, 3) := by decide +kernel
theorem dX11_readPart_107 : decode cX11_readPart 107 = .ok (.ifCond .ge 25, 3) := by decide +kernel
theorem dX11_readPart_110 : decode cX11_readPart 110 = .ok (.aload_n 0, 1) := by decide +kernel
theorem dX11_readPart_111 : decode cX11_readPart 111 = .ok (.invokevirtual 141, 3) := by decide +kernel
theorem dX11_readPart_114 : decode cX11_readPart 114 = .ok (.bipush 97, 2) := by decide +kernel
theorem dX11_readPart_116 : decode cX11_readPart 116 = .ok (.bipush 100, 2) := by decide +kernel
theorem dX11_readPart_118 : decode cX11_readPart 118 = .ok (.invokestatic 57, 3) := by decide +kernel
theorem dX11_readPart_121 : decode cX11_readPart 121 = .ok (.ifCond .eq 11, 3) := by decide +kernel
theorem dX11_readPart_124 : decode cX11_readPart 124 = .ok (.aload_n 0, 1) := by decide +kernel
theorem dX11_readPart_125 : decode cX11_readPart 125 = .ok (.iconst 1, 1) := by decide +kernel
theorem dX11_readPart_126 : decode cX11_readPart 126 = .ok (.invokevirtual 144, 3) := by decide +kernel
theorem dX11_readPart_129 : decode cX11_readPart 129 = .ok (.goto (-26), 3) := by decide +kernel
theorem dX11_readPart_132 : decode cX11_readPart 132 = .ok (.aload_n 0, 1) := by decide +kernel
theorem dX11_readPart_133 : decode cX11_readPart 133 = .ok (.getfield 32, 3) := by decide +kernel
theorem dX11_readPart_136 : decode cX11_readPart 136 = .ok (.iload_n 1, 1) := by decide +kernel
theorem dX11_readPart_137 : decode cX11_readPart 137 = .ok (.iconst 2, 1) := by decide +kernel
theorem dX11_readPart_138 : decode cX11_readPart 138 = .ok (.iadd, 1) := by decide +kernel
theorem dX11_readPart_139 : decode cX11_readPart 139 = .ok (.aload_n 0, 1) := by decide +kernel
theorem dX11_readPart_140 : decode cX11_readPart 140 = .ok (.getfield 135, 3) := by decide +kernel
theorem dX11_readPart_143 : decode cX11_readPart 143 = .ok (.aload_n 0, 1) := by decide +kernel
theorem dX11_readPart_144 : decode cX11_readPart 144 = .ok (.getfield 32, 3) := by decide +kernel
theorem dX11_readPart_147 : decode cX11_readPart 147 = .ok (.iload_n 1, 1) := by decide +kernel
theorem dX11_readPart_148 : decode cX11_readPart 148 = .ok (.iconst 1, 1) := by decide +kernel
theorem dX11_readPart_149 : decode cX11_readPart 149 = .ok (.iadd, 1) := by decide +kernel
theorem dX11_readPart_150 : decode cX11_readPart 150 = .ok (.iaload, 1) := by decide +kernel
theorem dX11_readPart_151 : decode cX11_readPart 151 = .ok (.isub, 1) := by decide +kernel
theorem dX11_readPart_152 : decode cX11_readPart 152 = .ok (.iastore, 1) := by decide +kernel
theorem dX11_readPart_153 : decode cX11_readPart 153 = .ok (.iload_n 2, 1) := by decide +kernel
theorem dX11_readPart_154 : decode cX11_readPart 154 = .ok (.bipush 112, 2) := by decide +kernel
theorem dX11_readPart_156 : decode cX11_readPart 156 = .ok (.if_icmp .ne 35, 3) := by decide +kernel
theorem dX11_readPart_159 : decode cX11_readPart 159 = .ok (.aload_n 0, 1) := by decide +kernel
theorem dX11_readPart_160 : decode cX11_readPart 160 = .ok (.getfield 32, 3) := by decide +kernel
theorem dX11_readPart_163 : decode cX11_readPart 163 = .ok (.iload_n 1, 1) := by decide +kernel
theorem dX11_readPart_164 : decode cX11_readPart 164 = .ok (.iconst 1, 1) := by decide +kernel
theorem dX11_readPart_165 : decode cX11_readPart 165 = .ok (.iadd, 1) := by decide +kernel
theorem dX11_readPart_166 : decode cX11_readPart 166 = .ok (.aload_n 0, 1) := by decide +kernel
theorem dX11_readPart_167 : decode cX11_readPart 167 = .ok (.invokevirtual 141, 3) := by decide +kernel
theorem dX11_readPart_170 : decode cX11_readPart 170 = .ok (.bipush 48, 2) := by decide +kernel
theorem dX11_readPart_172 : decode cX11_readPart 172 = .ok (.isub, 1) := by decide +kernel
theorem dX11_readPart_173 : decode cX11_readPart 173 = .ok (.iastore, 1) := by decide +kernel
theorem dX11_readPart_174 : decode cX11_readPart 174 = .ok (.aload_n 0, 1) := by decide +kernel
theorem dX11_readPart_175 : decode cX11_readPart 175 = .ok (.aload_n 0, 1) := by decide +kernel
theorem dX11_readPart_176 : decode cX11_readPart 176 = .ok (.getfield 32, 3) := by decide +kernel
theorem dX11_readPart_179 : decode cX11_readPart 179 = .ok (.iload_n 1, 1) := by decide +kernel
theorem dX11_readPart_180 : decode cX11_readPart 180 = .ok (.iconst 1, 1) := by decide +kernel
theorem dX11_readPart_181 : decode cX11_readPart 181 = .ok (.iadd, 1) := by decide +kernel
theorem dX11_readPart_182 : decode cX11_readPart 182 = .ok (.iaload, 1) := by decide +kernel
theorem dX11_readPart_183 : decode cX11_readPart 183 = .ok (.iconst 0, 1) := by decide +kernel
theorem dX11_readPart_184 : decode cX11_readPart 184 = .ok (.iconst 2, 1) := by decide +kernel
theorem dX11_readPart_185 : decode cX11_readPart 185 = .ok (.invokestatic 57, 3) := by decide +kernel
theorem dX11_readPart_188 : decode cX11_readPart 188 = .ok (.invokevirtual 144, 3) := by decide +kernel
theorem dX11_readPart_191 : decode cX11_readPart 191 = .ok (.iload_n 2, 1) := by decide +kernel
theorem dX11_readPart_192 : decode cX11_readPart 192 = .ok (.bipush 108, 2) := by decide +kernel
theorem dX11_readPart_194 : decode cX11_readPart 194 = .ok (.if_icmp .ne 35, 3) := by decide +kernel
theorem dX11_readPart_197 : decode cX11_readPart 197 = .ok (.aload_n 0, 1) := by decide +kernel
theorem dX11_readPart_198 : decode cX11_readPart 198 = .ok (.getfield 32, 3) := by decide +kernel
theorem dX11_readPart_201 : decode cX11_readPart 201 = .ok (.iload_n 1, 1) := by decide +kernel
theorem dX11_readPart_202 : decode cX11_readPart 202 = .ok (.iconst 1, 1) := by decide +kernel
theorem dX11_readPart_203 : decode cX11_readPart 203 = .ok (.iadd, 1) := by decide +kernel
theorem dX11_readPart_204 : decode cX11_readPart 204 = .ok (.aload_n 0, 1) := by decide +kernel
theorem dX11_readPart_205 : decode cX11_readPart 205 = .ok (.invokevirtual 141, 3) := by decide +kernel
theorem dX11_readPart_208 : decode cX11_readPart 208 = .ok (.bipush 97, 2) := by decide +kernel
theorem dX11_readPart_210 : decode cX11_readPart 210 = .ok (.isub, 1) := by decide +kernel
theorem dX11_readPart_211 : decode cX11_readPart 211 = .ok (.iastore, 1) := by decide +kernel
theorem dX11_readPart_212 : decode cX11_readPart 212 = .ok (.aload_n 0, 1) := by decide +kernel
theorem dX11_readPart_213 : decode cX11_readPart 213 = .ok (.aload_n 0, 1) := by decide +kernel
theorem dX11_readPart_214 : decode cX11_readPart 214 = .ok (.getfield 32, 3) := by decide +kernel
theorem dX11_readPart_217 : decode cX11_readPart 217 = .ok (.iload_n 1, 1) := by decide +kernel
theorem dX11_readPart_218 : decode cX11_readPart 218 = .ok (.iconst 1, 1) := by decide +kernel
theorem dX11_readPart_219 : decode cX11_readPart 219 = .ok (.iadd, 1) := by decide +kernel
theorem dX11_readPart_220 : decode cX11_readPart 220 = .ok (.iaload, 1) := by decide +kernel
theorem dX11_readPart_221 : decode cX11_readPart 221 = .ok (.iconst 0, 1) := by decide +kernel
theorem dX11_readPart_222 : decode cX11_readPart 222 = .ok (.iconst 3, 1) := by decide +kernel
theorem dX11_readPart_223 : decode cX11_readPart 223 = .ok (.invokestatic 57, 3) := by decide +kernel
theorem dX11_readPart_226 : decode cX11_readPart 226 = .ok (.invokevirtual 144, 3) := by decide +kernel
theorem dX11_readPart_229 : decode cX11_readPart 229 = .ok (.iload_n 2, 1) := by decide +kernel
theorem dX11_readPart_230 : decode cX11_readPart 230 = .ok (.bipush 114, 2) := by decide +kernel
theorem dX11_readPart_232 : decode cX11_readPart 232 = .ok (.if_icmp .ne 49, 3) := by decide +kernel
theorem dX11_readPart_235 : decode cX11_readPart 235 = .ok (.aload_n 0, 1) := by decide +kernel
theorem dX11_readPart_236 : decode cX11_readPart 236 = .ok (.getfield 32, 3) := by decide +kernel
theorem dX11_readPart_239 : decode cX11_readPart 239 = .ok (.iload_n 1, 1) := by decide +kernel
theorem dX11_readPart_240 : decode cX11_readPart 240 = .ok (.iconst 1, 1) := by decide +kernel
theorem dX11_readPart_241 : decode cX11_readPart 241 = .ok (.iadd, 1) := by decide +kernel
theorem dX11_readPart_242 : decode cX11_readPart 242 = .ok (.aload_n 0, 1) := by decide +kernel
theorem dX11_readPart_243 : decode cX11_readPart 243 = .ok (.bipush 39, 2) := by decide +kernel
theorem dX11_readPart_245 : decode cX11_readPart 245 = .ok (.invokevirtual 151, 3) := by decide +kernel
theorem dX11_readPart_248 : decode cX11_readPart 248 = .ok (.iastore, 1) := by decide +kernel
theorem dX11_readPart_249 : decode cX11_readPart 249 = .ok (.aload_n 0, 1) := by decide +kernel
theorem dX11_readPart_250 : decode cX11_readPart 250 = .ok (.aload_n 0, 1) := by decide +kernel
theorem dX11_readPart_251 : decode cX11_readPart 251 = .ok (.invokevirtual 141, 3) := by decide +kernel
theorem dX11_readPart_254 : decode cX11_readPart 254 = .ok (.bipush 44, 2) := by decide +kernel
theorem dX11_readPart_256 : decode cX11_readPart 256 = .ok (.if_icmp .ne 7, 3) := by decide +kernel
theorem dX11_readPart_259 : decode cX11_readPart 259 = .ok (.iconst 1, 1) := by decide +kernel
theorem dX11_readPart_260 : decode cX11_readPart 260 = .ok (.goto 4, 3) := by decide +kernel
theorem dX11_readPart_263 : decode cX11_readPart 263 = .ok (.iconst 0, 1) := by decide +kernel
theorem dX11_readPart_264 : decode cX11_readPart 264 = .ok (.invokevirtual 144, 3) := by decide +kernel
theorem dX11_readPart_267 : decode cX11_readPart 267 = .ok (.aload_n 0, 1) := by decide +kernel
theorem dX11_readPart_268 : decode cX11_readPart 268 = .ok (.getfield 32, 3) := by decide +kernel
theorem dX11_readPart_271 : decode cX11_readPart 271 = .ok (.iload_n 1, 1) := by decide +kernel
theorem dX11_readPart_272 : decode cX11_readPart 272 = .ok (.iconst 2, 1) := by decide +kernel
theorem dX11_readPart_273 : decode cX11_readPart 273 = .ok (.iadd, 1) := by decide +kernel
theorem dX11_readPart_274 : decode cX11_readPart 274 = .ok (.aload_n 0, 1) := by decide +kernel
theorem dX11_readPart_275 : decode cX11_readPart 275 = .ok (.bipush 40, 2) := by decide +kernel
theorem dX11_readPart_277 : decode cX11_readPart 277 = .ok (.invokevirtual 151, 3) := by decide +kernel
theorem dX11_readPart_280 : decode cX11_readPart 280 = .ok (.iastore, 1) := by decide +kernel
theorem dX11_readPart_281 : decode cX11_readPart 281 = .ok (.aload_n 0, 1) := by decide +kernel
theorem dX11_readPart_282 : decode cX11_readPart 282 = .ok (.dup, 1) := by decide +kernel
theorem dX11_readPart_283 : decode cX11_readPart 283 = .ok (.getfield 148, 3) := by decide +kernel
theorem dX11_readPart_286 : decode cX11_readPart 286 = .ok (.iconst 1, 1) := by decide +kernel
theorem dX11_readPart_287 : decode cX11_readPart 287 = .ok (.iadd, 1) := by decide +kernel
theorem dX11_readPart_288 : decode cX11_readPart 288 = .ok (.putfield 148, 3) := by decide +kernel
theorem dX11_readPart_291 : decode cX11_readPart 291 = .ok (.return_, 1) := by decide +kernel
theorem dX11_reads_0 : decode cX11_reads 0 = .ok (.aload_n 0, 1) := by decide +kernel
theorem dX11_reads_1 : decode cX11_reads 1 = .ok (.iconst 0, 1) := by decide +kernel
theorem dX11_reads_2 : decode cX11_reads 2 = .ok (.putfield 148, 3) := by decide +kernel
theorem dX11_reads_5 : decode cX11_reads 5 = .ok (.aload_n 0, 1) := by decide +kernel
theorem dX11_reads_6 : decode cX11_reads 6 = .ok (.iconst 0, 1) := by decide +kernel
theorem dX11_reads_7 : decode cX11_reads 7 = .ok (.putfield 135, 3) := by decide +kernel
theorem dX11_reads_10 : decode cX11_reads 10 = .ok (.aload_n 0, 1) := by decide +kernel
theorem dX11_reads_11 : decode cX11_reads 11 = .ok (.iconst (-1), 1) := by decide +kernel
theorem dX11_reads_12 : decode cX11_reads 12 = .ok (.putfield 138, 3) := by decide +kernel
theorem dX11_reads_15 : decode cX11_reads 15 = .ok (.iconst 1, 1) := by decide +kernel
theorem dX11_reads_16 : decode cX11_reads 16 = .ok (.istore_n 1, 1) := by decide +kernel
theorem dX11_reads_17 : decode cX11_reads 17 = .ok (.iload_n 1, 1) := by decide +kernel
theorem dX11_reads_18 : decode cX11_reads 18 = .ok (.ifCond .eq 69, 3) := by decide +kernel
theorem dX11_reads_21 : decode cX11_reads 21 = .ok (.aload_n 0, 1) := by decide +kernel
theorem dX11_reads_22 : decode cX11_reads 22 = .ok (.invokevirtual 154, 3) := by decide +kernel
theorem dX11_reads_25 : decode cX11_reads 25 = .ok (.aload_n 0, 1) := by decide +kernel
theorem dX11_reads_26 : decode cX11_reads 26 = .ok (.getfield 138, 3) := by decide +kernel
theorem dX11_reads_29 : decode cX11_reads 29 = .ok (.ifCond .ge 18, 3) := by decide +kernel
theorem dX11_reads_32 : decode cX11_reads 32 = .ok (.aload_n 0, 1) := by decide +kernel
theorem dX11_reads_33 : decode cX11_reads 33 = .ok (.getfield 135, 3) := by decide +kernel
theorem dX11_reads_36 : decode cX11_reads 36 = .ok (.aload_n 0, 1) := by decide +kernel
theorem dX11_reads_37 : decode cX11_reads 37 = .ok (.getfield 132, 3) := by decide +kernel
theorem dX11_reads_40 : decode cX11_reads 40 = .ok (.if_icmp .ge 7, 3) := by decide +kernel
theorem dX11_reads_43 : decode cX11_reads 43 = .ok (.iconst 1, 1) := by decide +kernel
theorem dX11_reads_44 : decode cX11_reads 44 = .ok (.goto 4, 3) := by decide +kernel
theorem dX11_reads_47 : decode cX11_reads 47 = .ok (.iconst 0, 1) := by decide +kernel
theorem dX11_reads_48 : decode cX11_reads 48 = .ok (.istore_n 1, 1) := by decide +kernel
theorem dX11_reads_49 : decode cX11_reads 49 = .ok (.iload_n 1, 1) := by decide +kernel
theorem dX11_reads_50 : decode cX11_reads 50 = .ok (.ifCond .eq (-33), 3) := by decide +kernel
theorem dX11_reads_53 : decode cX11_reads 53 = .ok (.aload_n 0, 1) := by decide +kernel
theorem dX11_reads_54 : decode cX11_reads 54 = .ok (.aload_n 0, 1) := by decide +kernel
theorem dX11_reads_55 : decode cX11_reads 55 = .ok (.invokevirtual 141, 3) := by decide +kernel
theorem dX11_reads_58 : decode cX11_reads 58 = .ok (.bipush 59, 2) := by decide +kernel
theorem dX11_reads_60 : decode cX11_reads 60 = .ok (.if_icmp .ne 7, 3) := by decide +kernel
theorem dX11_reads_63 : decode cX11_reads 63 = .ok (.iconst 1, 1) := by decide +kernel
theorem dX11_reads_64 : decode cX11_reads 64 = .ok (.goto 4, 3) := by decide +kernel
theorem dX11_reads_67 : decode cX11_reads 67 = .ok (.iconst 0, 1) := by decide +kernel
theorem dX11_reads_68 : decode cX11_reads 68 = .ok (.invokevirtual 144, 3) := by decide +kernel
theorem dX11_reads_71 : decode cX11_reads 71 = .ok (.aload_n 0, 1) := by decide +kernel
theorem dX11_reads_72 : decode cX11_reads 72 = .ok (.getfield 138, 3) := by decide +kernel
theorem dX11_reads_75 : decode cX11_reads 75 = .ok (.ifCond .ge 7, 3) := by decide +kernel
theorem dX11_reads_78 : decode cX11_reads 78 = .ok (.iconst 1, 1) := by decide +kernel
theorem dX11_reads_79 : decode cX11_reads 79 = .ok (.goto 4, 3) := by decide +kernel
theorem dX11_reads_82 : decode cX11_reads 82 = .ok (.iconst 0, 1) := by decide +kernel
theorem dX11_reads_83 : decode cX11_reads 83 = .ok (.istore_n 1, 1) := by decide +kernel
theorem dX11_reads_84 : decode cX11_reads 84 = .ok (.goto (-67), 3) := by decide +kernel
theorem dX11_reads_87 : decode cX11_reads 87 = .ok (.aload_n 0, 1) := by decide +kernel
theorem dX11_reads_88 : decode cX11_reads 88 = .ok (.getfield 138, 3) := by decide +kernel
theorem dX11_reads_91 : decode cX11_reads 91 = .ok (.ireturn, 1) := by decide +kernel
theorem dX11_firstError_0 : decode cX11_firstError 0 = .ok (.aload_n 0, 1) := by decide +kernel
theorem dX11_firstError_1 : decode cX11_firstError 1 = .ok (.invokevirtual 157, 3) := by decide +kernel
theorem dX11_firstError_4 : decode cX11_firstError 4 = .ok (.istore_n 1, 1) := by decide +kernel
theorem dX11_firstError_5 : decode cX11_firstError 5 = .ok (.aload_n 0, 1) := by decide +kernel
theorem dX11_firstError_6 : decode cX11_firstError 6 = .ok (.iload_n 1, 1) := by decide +kernel
theorem dX11_firstError_7 : decode cX11_firstError 7 = .ok (.ifCond .ge 10, 3) := by decide +kernel
theorem dX11_firstError_10 : decode cX11_firstError 10 = .ok (.aload_n 0, 1) := by decide +kernel
theorem dX11_firstError_11 : decode cX11_firstError 11 = .ok (.getfield 132, 3) := by decide +kernel
theorem dX11_firstError_14 : decode cX11_firstError 14 = .ok (.goto 4, 3) := by decide +kernel
theorem dX11_firstError_17 : decode cX11_firstError 17 = .ok (.iload_n 1, 1) := by decide +kernel
theorem dX11_firstError_18 : decode cX11_firstError 18 = .ok (.invokevirtual 50, 3) := by decide +kernel
theorem dX11_firstError_21 : decode cX11_firstError 21 = .ok (.ireturn, 1) := by decide +kernel
theorem dX11_whyNot_0 : decode cX11_whyNot 0 = .ok (.iload_n 1, 1) := by decide +kernel
theorem dX11_whyNot_1 : decode cX11_whyNot 1 = .ok (.bipush 117, 2) := by decide +kernel
theorem dX11_whyNot_3 : decode cX11_whyNot 3 = .ok (.if_icmp .ne 12, 3) := by decide +kernel
theorem dX11_whyNot_6 : decode cX11_whyNot 6 = .ok (.aload_n 0, 1) := by decide +kernel
theorem dX11_whyNot_7 : decode cX11_whyNot 7 = .ok (.invokevirtual 122, 3) := by decide +kernel
theorem dX11_whyNot_10 : decode cX11_whyNot 10 = .ok (.aload_n 0, 1) := by decide +kernel
theorem dX11_whyNot_11 : decode cX11_whyNot 11 = .ok (.getfield 113, 3) := by decide +kernel
theorem dX11_whyNot_14 : decode cX11_whyNot 14 = .ok (.ireturn, 1) := by decide +kernel
theorem dX11_whyNot_15 : decode cX11_whyNot 15 = .ok (.iload_n 1, 1) := by decide +kernel
theorem dX11_whyNot_16 : decode cX11_whyNot 16 = .ok (.bipush 43, 2) := by decide +kernel
theorem dX11_whyNot_18 : decode cX11_whyNot 18 = .ok (.if_icmp .ne 24, 3) := by decide +kernel
theorem dX11_whyNot_21 : decode cX11_whyNot 21 = .ok (.aload_n 0, 1) := by decide +kernel
theorem dX11_whyNot_22 : decode cX11_whyNot 22 = .ok (.getfield 7, 3) := by decide +kernel
theorem dX11_whyNot_25 : decode cX11_whyNot 25 = .ok (.iconst 0, 1) := by decide +kernel
theorem dX11_whyNot_26 : decode cX11_whyNot 26 = .ok (.iaload, 1) := by decide +kernel
theorem dX11_whyNot_27 : decode cX11_whyNot 27 = .ok (.iload_n 3, 1) := by decide +kernel
theorem dX11_whyNot_28 : decode cX11_whyNot 28 = .ok (.iadd, 1) := by decide +kernel
theorem dX11_whyNot_29 : decode cX11_whyNot 29 = .ok (.bipush 40, 2) := by decide +kernel
theorem dX11_whyNot_31 : decode cX11_whyNot 31 = .ok (.if_icmp .le 7, 3) := by decide +kernel
theorem dX11_whyNot_34 : decode cX11_whyNot 34 = .ok (.iconst 3, 1) := by decide +kernel
theorem dX11_whyNot_35 : decode cX11_whyNot 35 = .ok (.goto 40, 3) := by decide +kernel
theorem dX11_whyNot_38 : decode cX11_whyNot 38 = .ok (.iconst 0, 1) := by decide +kernel
theorem dX11_whyNot_39 : decode cX11_whyNot 39 = .ok (.goto 36, 3) := by decide +kernel
theorem dX11_whyNot_42 : decode cX11_whyNot 42 = .ok (.iload_n 1, 1) := by decide +kernel
theorem dX11_whyNot_43 : decode cX11_whyNot 43 = .ok (.bipush 108, 2) := by decide +kernel
theorem dX11_whyNot_45 : decode cX11_whyNot 45 = .ok (.if_icmp .eq 9, 3) := by decide +kernel
theorem dX11_whyNot_48 : decode cX11_whyNot 48 = .ok (.iload_n 1, 1) := by decide +kernel
theorem dX11_whyNot_49 : decode cX11_whyNot 49 = .ok (.bipush 114, 2) := by decide +kernel
theorem dX11_whyNot_51 : decode cX11_whyNot 51 = .ok (.if_icmp .ne 23, 3) := by decide +kernel
theorem dX11_whyNot_54 : decode cX11_whyNot 54 = .ok (.aload_n 0, 1) := by decide +kernel
theorem dX11_whyNot_55 : decode cX11_whyNot 55 = .ok (.getfield 7, 3) := by decide +kernel
theorem dX11_whyNot_58 : decode cX11_whyNot 58 = .ok (.bipush 6, 2) := by decide +kernel
theorem dX11_whyNot_60 : decode cX11_whyNot 60 = .ok (.iaload, 1) := by decide +kernel
theorem dX11_whyNot_61 : decode cX11_whyNot 61 = .ok (.bipush 40, 2) := by decide +kernel
theorem dX11_whyNot_63 : decode cX11_whyNot 63 = .ok (.if_icmp .ne 7, 3) := by decide +kernel
theorem dX11_whyNot_66 : decode cX11_whyNot 66 = .ok (.iconst 4, 1) := by decide +kernel
theorem dX11_whyNot_67 : decode cX11_whyNot 67 = .ok (.goto 8, 3) := by decide +kernel
theorem dX11_whyNot_70 : decode cX11_whyNot 70 = .ok (.iconst 0, 1) := by decide +kernel
theorem dX11_whyNot_71 : decode cX11_whyNot 71 = .ok (.goto 4, 3) := by decide +kernel
theorem dX11_whyNot_74 : decode cX11_whyNot 74 = .ok (.iconst 0, 1) := by decide +kernel
theorem dX11_whyNot_75 : decode cX11_whyNot 75 = .ok (.ireturn, 1) := by decide +kernel
theorem dX11_does_0 : decode cX11_does 0 = .ok (.iload_n 1, 1) := by decide +kernel
theorem dX11_does_1 : decode cX11_does 1 = .ok (.bipush 43, 2) := by decide +kernel
theorem dX11_does_3 : decode cX11_does 3 = .ok (.if_icmp .ne 57, 3) := by decide +kernel
theorem dX11_does_6 : decode cX11_does 6 = .ok (.iload_n 2, 1) := by decide +kernel
theorem dX11_does_7 : decode cX11_does 7 = .ok (.istore 4, 2) := by decide +kernel
theorem dX11_does_9 : decode cX11_does 9 = .ok (.iload 4, 2) := by decide +kernel
theorem dX11_does_11 : decode cX11_does 11 = .ok (.iload_n 2, 1) := by decide +kernel
theorem dX11_does_12 : decode cX11_does 12 = .ok (.iload_n 3, 1) := by decide +kernel
theorem dX11_does_13 : decode cX11_does 13 = .ok (.iadd, 1) := by decide +kernel
theorem dX11_does_14 : decode cX11_does 14 = .ok (.if_icmp .ge 43, 3) := by decide +kernel
theorem dX11_does_17 : decode cX11_does 17 = .ok (.aload_n 0, 1) := by decide +kernel
theorem dX11_does_18 : decode cX11_does 18 = .ok (.getfield 7, 3) := by decide +kernel
theorem dX11_does_21 : decode cX11_does 21 = .ok (.bipush 10, 2) := by decide +kernel
theorem dX11_does_23 : decode cX11_does 23 = .ok (.aload_n 0, 1) := by decide +kernel
theorem dX11_does_24 : decode cX11_does 24 = .ok (.getfield 7, 3) := by decide +kernel
theorem dX11_does_27 : decode cX11_does 27 = .ok (.iconst 0, 1) := by decide +kernel
theorem dX11_does_28 : decode cX11_does 28 = .ok (.iaload, 1) := by decide +kernel
theorem dX11_does_29 : decode cX11_does 29 = .ok (.iadd, 1) := by decide +kernel
theorem dX11_does_30 : decode cX11_does 30 = .ok (.aload_n 0, 1) := by decide +kernel
theorem dX11_does_31 : decode cX11_does 31 = .ok (.getfield 28, 3) := by decide +kernel
theorem dX11_does_34 : decode cX11_does 34 = .ok (.iload 4, 2) := by decide +kernel
theorem dX11_does_36 : decode cX11_does 36 = .ok (.caload, 1) := by decide +kernel
theorem dX11_does_37 : decode cX11_does 37 = .ok (.bipush 97, 2) := by decide +kernel
theorem dX11_does_39 : decode cX11_does 39 = .ok (.isub, 1) := by decide +kernel
theorem dX11_does_40 : decode cX11_does 40 = .ok (.iastore, 1) := by decide +kernel
theorem dX11_does_41 : decode cX11_does 41 = .ok (.aload_n 0, 1) := by decide +kernel
theorem dX11_does_42 : decode cX11_does 42 = .ok (.getfield 7, 3) := by decide +kernel
theorem dX11_does_45 : decode cX11_does 45 = .ok (.iconst 0, 1) := by decide +kernel
theorem dX11_does_46 : decode cX11_does 46 = .ok (.dup2, 1) := by decide +kernel
theorem dX11_does_47 : decode cX11_does 47 = .ok (.iaload, 1) := by decide +kernel
theorem dX11_does_48 : decode cX11_does 48 = .ok (.iconst 1, 1) := by decide +kernel
theorem dX11_does_49 : decode cX11_does 49 = .ok (.iadd, 1) := by decide +kernel
theorem dX11_does_50 : decode cX11_does 50 = .ok (.iastore, 1) := by decide +kernel
theorem dX11_does_51 : decode cX11_does 51 = .ok (.iinc 4 1, 3) := by decide +kernel
theorem dX11_does_54 : decode cX11_does 54 = .ok (.goto (-45), 3) := by decide +kernel
theorem dX11_does_57 : decode cX11_does 57 = .ok (.goto 98, 3) := by decide +kernel
theorem dX11_does_60 : decode cX11_does 60 = .ok (.iload_n 1, 1) := by decide +kernel
theorem dX11_does_61 : decode cX11_does 61 = .ok (.bipush 45, 2) := by decide +kernel
theorem dX11_does_63 : decode cX11_does 63 = .ok (.if_icmp .ne 16, 3) := by decide +kernel
theorem dX11_does_66 : decode cX11_does 66 = .ok (.aload_n 0, 1) := by decide +kernel
theorem dX11_does_67 : decode cX11_does 67 = .ok (.iconst 0, 1) := by decide +kernel
theorem dX11_does_68 : decode cX11_does 68 = .ok (.bipush 10, 2) := by decide +kernel
theorem dX11_does_70 : decode cX11_does 70 = .ok (.bipush 40, 2) := by decide +kernel
theorem dX11_does_72 : decode cX11_does 72 = .ok (.invokevirtual 69, 3) := by decide +kernel
theorem dX11_does_75 : decode cX11_does 75 = .ok (.pop, 1) := by decide +kernel
theorem dX11_does_76 : decode cX11_does 76 = .ok (.goto 79, 3) := by decide +kernel
theorem dX11_does_79 : decode cX11_does 79 = .ok (.iload_n 1, 1) := by decide +kernel
theorem dX11_does_80 : decode cX11_does 80 = .ok (.bipush 112, 2) := by decide +kernel
theorem dX11_does_82 : decode cX11_does 82 = .ok (.if_icmp .ne 12, 3) := by decide +kernel
theorem dX11_does_85 : decode cX11_does 85 = .ok (.aload_n 0, 1) := by decide +kernel
theorem dX11_does_86 : decode cX11_does 86 = .ok (.iload_n 2, 1) := by decide +kernel
theorem dX11_does_87 : decode cX11_does 87 = .ok (.invokevirtual 104, 3) := by decide +kernel
theorem dX11_does_90 : decode cX11_does 90 = .ok (.pop, 1) := by decide +kernel
theorem dX11_does_91 : decode cX11_does 91 = .ok (.goto 64, 3) := by decide +kernel
theorem dX11_does_94 : decode cX11_does 94 = .ok (.iload_n 1, 1) := by decide +kernel
theorem dX11_does_95 : decode cX11_does 95 = .ok (.bipush 117, 2) := by decide +kernel
theorem dX11_does_97 : decode cX11_does 97 = .ok (.if_icmp .ne 11, 3) := by decide +kernel
theorem dX11_does_100 : decode cX11_does 100 = .ok (.aload_n 0, 1) := by decide +kernel
theorem dX11_does_101 : decode cX11_does 101 = .ok (.invokevirtual 125, 3) := by decide +kernel
theorem dX11_does_104 : decode cX11_does 104 = .ok (.pop, 1) := by decide +kernel
theorem dX11_does_105 : decode cX11_does 105 = .ok (.goto 50, 3) := by decide +kernel
theorem dX11_does_108 : decode cX11_does 108 = .ok (.iload_n 1, 1) := by decide +kernel
theorem dX11_does_109 : decode cX11_does 109 = .ok (.bipush 101, 2) := by decide +kernel
theorem dX11_does_111 : decode cX11_does 111 = .ok (.if_icmp .ne 17, 3) := by decide +kernel
theorem dX11_does_114 : decode cX11_does 114 = .ok (.aload_n 0, 1) := by decide +kernel
theorem dX11_does_115 : decode cX11_does 115 = .ok (.bipush 6, 2) := by decide +kernel
theorem dX11_does_117 : decode cX11_does 117 = .ok (.bipush 50, 2) := by decide +kernel
theorem dX11_does_119 : decode cX11_does 119 = .ok (.bipush 80, 2) := by decide +kernel
theorem dX11_does_121 : decode cX11_does 121 = .ok (.invokevirtual 69, 3) := by decide +kernel
theorem dX11_does_124 : decode cX11_does 124 = .ok (.pop, 1) := by decide +kernel
theorem dX11_does_125 : decode cX11_does 125 = .ok (.goto 30, 3) := by decide +kernel
theorem dX11_does_128 : decode cX11_does 128 = .ok (.aload_n 0, 1) := by decide +kernel
theorem dX11_does_129 : decode cX11_does 129 = .ok (.iload_n 1, 1) := by decide +kernel
theorem dX11_does_130 : decode cX11_does 130 = .ok (.bipush 114, 2) := by decide +kernel
theorem dX11_does_132 : decode cX11_does 132 = .ok (.if_icmp .ne 7, 3) := by decide +kernel
theorem dX11_does_135 : decode cX11_does 135 = .ok (.iload_n 2, 1) := by decide +kernel
theorem dX11_does_136 : decode cX11_does 136 = .ok (.goto 4, 3) := by decide +kernel
theorem dX11_does_139 : decode cX11_does 139 = .ok (.iconst 0, 1) := by decide +kernel
theorem dX11_does_140 : decode cX11_does 140 = .ok (.iload_n 1, 1) := by decide +kernel
theorem dX11_does_141 : decode cX11_does 141 = .ok (.bipush 114, 2) := by decide +kernel
theorem dX11_does_143 : decode cX11_does 143 = .ok (.if_icmp .ne 7, 3) := by decide +kernel
theorem dX11_does_146 : decode cX11_does 146 = .ok (.iload_n 3, 1) := by decide +kernel
theorem dX11_does_147 : decode cX11_does 147 = .ok (.goto 4, 3) := by decide +kernel
theorem dX11_does_150 : decode cX11_does 150 = .ok (.iload_n 2, 1) := by decide +kernel
theorem dX11_does_151 : decode cX11_does 151 = .ok (.invokevirtual 129, 3) := by decide +kernel
theorem dX11_does_154 : decode cX11_does 154 = .ok (.pop, 1) := by decide +kernel
theorem dX11_does_155 : decode cX11_does 155 = .ok (.return_, 1) := by decide +kernel
theorem dX11_work_0 : decode cX11_work 0 = .ok (.aload_n 0, 1) := by decide +kernel
theorem dX11_work_1 : decode cX11_work 1 = .ok (.aload_n 0, 1) := by decide +kernel
theorem dX11_work_2 : decode cX11_work 2 = .ok (.invokevirtual 157, 3) := by decide +kernel
theorem dX11_work_5 : decode cX11_work 5 = .ok (.ifCond .ge 7, 3) := by decide +kernel
theorem dX11_work_8 : decode cX11_work 8 = .ok (.iconst 1, 1) := by decide +kernel
theorem dX11_work_9 : decode cX11_work 9 = .ok (.goto 4, 3) := by decide +kernel
theorem dX11_work_12 : decode cX11_work 12 = .ok (.iconst 0, 1) := by decide +kernel
theorem dX11_work_13 : decode cX11_work 13 = .ok (.invokevirtual 42, 3) := by decide +kernel
theorem dX11_work_16 : decode cX11_work 16 = .ok (.ifCond .ne 5, 3) := by decide +kernel
theorem dX11_work_19 : decode cX11_work 19 = .ok (.iconst 0, 1) := by decide +kernel
theorem dX11_work_20 : decode cX11_work 20 = .ok (.ireturn, 1) := by decide +kernel
theorem dX11_work_21 : decode cX11_work 21 = .ok (.aload_n 0, 1) := by decide +kernel
theorem dX11_work_22 : decode cX11_work 22 = .ok (.invokevirtual 54, 3) := by decide +kernel
theorem dX11_work_25 : decode cX11_work 25 = .ok (.iconst 0, 1) := by decide +kernel
theorem dX11_work_26 : decode cX11_work 26 = .ok (.istore_n 1, 1) := by decide +kernel
theorem dX11_work_27 : decode cX11_work 27 = .ok (.iconst 0, 1) := by decide +kernel
theorem dX11_work_28 : decode cX11_work 28 = .ok (.istore_n 2, 1) := by decide +kernel
theorem dX11_work_29 : decode cX11_work 29 = .ok (.iload_n 1, 1) := by decide +kernel
theorem dX11_work_30 : decode cX11_work 30 = .ok (.aload_n 0, 1) := by decide +kernel
theorem dX11_work_31 : decode cX11_work 31 = .ok (.getfield 148, 3) := by decide +kernel
theorem dX11_work_34 : decode cX11_work 34 = .ok (.if_icmp .ge 82, 3) := by decide +kernel
theorem dX11_work_37 : decode cX11_work 37 = .ok (.iload_n 2, 1) := by decide +kernel
theorem dX11_work_38 : decode cX11_work 38 = .ok (.ifCond .ne 78, 3) := by decide +kernel
theorem dX11_work_41 : decode cX11_work 41 = .ok (.aload_n 0, 1) := by decide +kernel
theorem dX11_work_42 : decode cX11_work 42 = .ok (.aload_n 0, 1) := by decide +kernel
theorem dX11_work_43 : decode cX11_work 43 = .ok (.getfield 32, 3) := by decide +kernel
theorem dX11_work_46 : decode cX11_work 46 = .ok (.iconst 3, 1) := by decide +kernel
theorem dX11_work_47 : decode cX11_work 47 = .ok (.iload_n 1, 1) := by decide +kernel
theorem dX11_work_48 : decode cX11_work 48 = .ok (.imul, 1) := by decide +kernel
theorem dX11_work_49 : decode cX11_work 49 = .ok (.iaload, 1) := by decide +kernel
theorem dX11_work_50 : decode cX11_work 50 = .ok (.aload_n 0, 1) := by decide +kernel
theorem dX11_work_51 : decode cX11_work 51 = .ok (.getfield 32, 3) := by decide +kernel
theorem dX11_work_54 : decode cX11_work 54 = .ok (.iconst 3, 1) := by decide +kernel
theorem dX11_work_55 : decode cX11_work 55 = .ok (.iload_n 1, 1) := by decide +kernel
theorem dX11_work_56 : decode cX11_work 56 = .ok (.imul, 1) := by decide +kernel
theorem dX11_work_57 : decode cX11_work 57 = .ok (.iconst 1, 1) := by decide +kernel
theorem dX11_work_58 : decode cX11_work 58 = .ok (.iadd, 1) := by decide +kernel
theorem dX11_work_59 : decode cX11_work 59 = .ok (.iaload, 1) := by decide +kernel
theorem dX11_work_60 : decode cX11_work 60 = .ok (.aload_n 0, 1) := by decide +kernel
theorem dX11_work_61 : decode cX11_work 61 = .ok (.getfield 32, 3) := by decide +kernel
theorem dX11_work_64 : decode cX11_work 64 = .ok (.iconst 3, 1) := by decide +kernel
theorem dX11_work_65 : decode cX11_work 65 = .ok (.iload_n 1, 1) := by decide +kernel
theorem dX11_work_66 : decode cX11_work 66 = .ok (.imul, 1) := by decide +kernel
theorem dX11_work_67 : decode cX11_work 67 = .ok (.iconst 2, 1) := by decide +kernel
theorem dX11_work_68 : decode cX11_work 68 = .ok (.iadd, 1) := by decide +kernel
theorem dX11_work_69 : decode cX11_work 69 = .ok (.iaload, 1) := by decide +kernel
theorem dX11_work_70 : decode cX11_work 70 = .ok (.invokevirtual 160, 3) := by decide +kernel
theorem dX11_work_73 : decode cX11_work 73 = .ok (.istore_n 2, 1) := by decide +kernel
theorem dX11_work_74 : decode cX11_work 74 = .ok (.iload_n 2, 1) := by decide +kernel
theorem dX11_work_75 : decode cX11_work 75 = .ok (.ifCond .ne (-46), 3) := by decide +kernel
theorem dX11_work_78 : decode cX11_work 78 = .ok (.aload_n 0, 1) := by decide +kernel
theorem dX11_work_79 : decode cX11_work 79 = .ok (.aload_n 0, 1) := by decide +kernel
theorem dX11_work_80 : decode cX11_work 80 = .ok (.getfield 32, 3) := by decide +kernel
theorem dX11_work_83 : decode cX11_work 83 = .ok (.iconst 3, 1) := by decide +kernel
theorem dX11_work_84 : decode cX11_work 84 = .ok (.iload_n 1, 1) := by decide +kernel
theorem dX11_work_85 : decode cX11_work 85 = .ok (.imul, 1) := by decide +kernel
theorem dX11_work_86 : decode cX11_work 86 = .ok (.iaload, 1) := by decide +kernel
theorem dX11_work_87 : decode cX11_work 87 = .ok (.aload_n 0, 1) := by decide +kernel
theorem dX11_work_88 : decode cX11_work 88 = .ok (.getfield 32, 3) := by decide +kernel
theorem dX11_work_91 : decode cX11_work 91 = .ok (.iconst 3, 1) := by decide +kernel
theorem dX11_work_92 : decode cX11_work 92 = .ok (.iload_n 1, 1) := by decide +kernel
theorem dX11_work_93 : decode cX11_work 93 = .ok (.imul, 1) := by decide +kernel
theorem dX11_work_94 : decode cX11_work 94 = .ok (.iconst 1, 1) := by decide +kernel
theorem dX11_work_95 : decode cX11_work 95 = .ok (.iadd, 1) := by decide +kernel
theorem dX11_work_96 : decode cX11_work 96 = .ok (.iaload, 1) := by decide +kernel
theorem dX11_work_97 : decode cX11_work 97 = .ok (.aload_n 0, 1) := by decide +kernel
theorem dX11_work_98 : decode cX11_work 98 = .ok (.getfield 32, 3) := by decide +kernel
theorem dX11_work_101 : decode cX11_work 101 = .ok (.iconst 3, 1) := by decide +kernel
theorem dX11_work_102 : decode cX11_work 102 = .ok (.iload_n 1, 1) := by decide +kernel
theorem dX11_work_103 : decode cX11_work 103 = .ok (.imul, 1) := by decide +kernel
theorem dX11_work_104 : decode cX11_work 104 = .ok (.iconst 2, 1) := by decide +kernel
theorem dX11_work_105 : decode cX11_work 105 = .ok (.iadd, 1) := by decide +kernel
theorem dX11_work_106 : decode cX11_work 106 = .ok (.iaload, 1) := by decide +kernel
theorem dX11_work_107 : decode cX11_work 107 = .ok (.invokevirtual 163, 3) := by decide +kernel
theorem dX11_work_110 : decode cX11_work 110 = .ok (.iinc 1 1, 3) := by decide +kernel
theorem dX11_work_113 : decode cX11_work 113 = .ok (.goto (-84), 3) := by decide +kernel
theorem dX11_work_116 : decode cX11_work 116 = .ok (.aload_n 0, 1) := by decide +kernel
theorem dX11_work_117 : decode cX11_work 117 = .ok (.getfield 7, 3) := by decide +kernel
theorem dX11_work_120 : decode cX11_work 120 = .ok (.bipush 7, 2) := by decide +kernel
theorem dX11_work_122 : decode cX11_work 122 = .ok (.iload_n 2, 1) := by decide +kernel
theorem dX11_work_123 : decode cX11_work 123 = .ok (.ifCond .le 7, 3) := by decide +kernel
theorem dX11_work_126 : decode cX11_work 126 = .ok (.iconst 1, 1) := by decide +kernel
theorem dX11_work_127 : decode cX11_work 127 = .ok (.goto 4, 3) := by decide +kernel
theorem dX11_work_130 : decode cX11_work 130 = .ok (.iconst 0, 1) := by decide +kernel
theorem dX11_work_131 : decode cX11_work 131 = .ok (.iastore, 1) := by decide +kernel
theorem dX11_work_132 : decode cX11_work 132 = .ok (.aload_n 0, 1) := by decide +kernel
theorem dX11_work_133 : decode cX11_work 133 = .ok (.getfield 7, 3) := by decide +kernel
theorem dX11_work_136 : decode cX11_work 136 = .ok (.bipush 8, 2) := by decide +kernel
theorem dX11_work_138 : decode cX11_work 138 = .ok (.iload_n 2, 1) := by decide +kernel
theorem dX11_work_139 : decode cX11_work 139 = .ok (.ifCond .le 7, 3) := by decide +kernel
theorem dX11_work_142 : decode cX11_work 142 = .ok (.iload_n 1, 1) := by decide +kernel
theorem dX11_work_143 : decode cX11_work 143 = .ok (.goto 4, 3) := by decide +kernel
theorem dX11_work_146 : decode cX11_work 146 = .ok (.iconst 0, 1) := by decide +kernel
theorem dX11_work_147 : decode cX11_work 147 = .ok (.iastore, 1) := by decide +kernel
theorem dX11_work_148 : decode cX11_work 148 = .ok (.aload_n 0, 1) := by decide +kernel
theorem dX11_work_149 : decode cX11_work 149 = .ok (.getfield 7, 3) := by decide +kernel
theorem dX11_work_152 : decode cX11_work 152 = .ok (.bipush 9, 2) := by decide +kernel
theorem dX11_work_154 : decode cX11_work 154 = .ok (.iload_n 2, 1) := by decide +kernel
theorem dX11_work_155 : decode cX11_work 155 = .ok (.iastore, 1) := by decide +kernel
theorem dX11_work_156 : decode cX11_work 156 = .ok (.aload_n 0, 1) := by decide +kernel
theorem dX11_work_157 : decode cX11_work 157 = .ok (.iconst 0, 1) := by decide +kernel
theorem dX11_work_158 : decode cX11_work 158 = .ok (.putfield 132, 3) := by decide +kernel
theorem dX11_work_161 : decode cX11_work 161 = .ok (.iload_n 1, 1) := by decide +kernel
theorem dX11_work_162 : decode cX11_work 162 = .ok (.ireturn, 1) := by decide +kernel
theorem dX11_hasStopped_0 : decode cX11_hasStopped 0 = .ok (.aload_n 0, 1) := by decide +kernel
theorem dX11_hasStopped_1 : decode cX11_hasStopped 1 = .ok (.iconst 0, 1) := by decide +kernel
theorem dX11_hasStopped_2 : decode cX11_hasStopped 2 = .ok (.putfield 35, 3) := by decide +kernel
theorem dX11_hasStopped_5 : decode cX11_hasStopped 5 = .ok (.aload_n 0, 1) := by decide +kernel
theorem dX11_hasStopped_6 : decode cX11_hasStopped 6 = .ok (.getfield 7, 3) := by decide +kernel
theorem dX11_hasStopped_9 : decode cX11_hasStopped 9 = .ok (.bipush 7, 2) := by decide +kernel
theorem dX11_hasStopped_11 : decode cX11_hasStopped 11 = .ok (.iaload, 1) := by decide +kernel
theorem dX11_hasStopped_12 : decode cX11_hasStopped 12 = .ok (.iconst 1, 1) := by decide +kernel
theorem dX11_hasStopped_13 : decode cX11_hasStopped 13 = .ok (.if_icmp .ne 7, 3) := by decide +kernel
theorem dX11_hasStopped_16 : decode cX11_hasStopped 16 = .ok (.iconst 1, 1) := by decide +kernel
theorem dX11_hasStopped_17 : decode cX11_hasStopped 17 = .ok (.goto 4, 3) := by decide +kernel
theorem dX11_hasStopped_20 : decode cX11_hasStopped 20 = .ok (.iconst 0, 1) := by decide +kernel
theorem dX11_hasStopped_21 : decode cX11_hasStopped 21 = .ok (.ireturn, 1) := by decide +kernel
theorem dX11_stoppedPart_0 : decode cX11_stoppedPart 0 = .ok (.aload_n 0, 1) := by decide +kernel
theorem dX11_stoppedPart_1 : decode cX11_stoppedPart 1 = .ok (.aload_n 0, 1) := by decide +kernel
theorem dX11_stoppedPart_2 : decode cX11_stoppedPart 2 = .ok (.getfield 7, 3) := by decide +kernel
theorem dX11_stoppedPart_5 : decode cX11_stoppedPart 5 = .ok (.bipush 7, 2) := by decide +kernel
theorem dX11_stoppedPart_7 : decode cX11_stoppedPart 7 = .ok (.iaload, 1) := by decide +kernel
theorem dX11_stoppedPart_8 : decode cX11_stoppedPart 8 = .ok (.iconst 1, 1) := by decide +kernel
theorem dX11_stoppedPart_9 : decode cX11_stoppedPart 9 = .ok (.if_icmp .ne 7, 3) := by decide +kernel
theorem dX11_stoppedPart_12 : decode cX11_stoppedPart 12 = .ok (.iconst 1, 1) := by decide +kernel
theorem dX11_stoppedPart_13 : decode cX11_stoppedPart 13 = .ok (.goto 4, 3) := by decide +kernel
theorem dX11_stoppedPart_16 : decode cX11_stoppedPart 16 = .ok (.iconst 0, 1) := by decide +kernel
theorem dX11_stoppedPart_17 : decode cX11_stoppedPart 17 = .ok (.invokevirtual 42, 3) := by decide +kernel
theorem dX11_stoppedPart_20 : decode cX11_stoppedPart 20 = .ok (.ifCond .eq 13, 3) := by decide +kernel
theorem dX11_stoppedPart_23 : decode cX11_stoppedPart 23 = .ok (.aload_n 0, 1) := by decide +kernel
theorem dX11_stoppedPart_24 : decode cX11_stoppedPart 24 = .ok (.getfield 7, 3) := by decide +kernel
theorem dX11_stoppedPart_27 : decode cX11_stoppedPart 27 = .ok (.bipush 8, 2) := by decide +kernel
theorem dX11_stoppedPart_29 : decode cX11_stoppedPart 29 = .ok (.iaload, 1) := by decide +kernel
theorem dX11_stoppedPart_30 : decode cX11_stoppedPart 30 = .ok (.goto 4, 3) := by decide +kernel
theorem dX11_stoppedPart_33 : decode cX11_stoppedPart 33 = .ok (.iconst 0, 1) := by decide +kernel
theorem dX11_stoppedPart_34 : decode cX11_stoppedPart 34 = .ok (.ireturn, 1) := by decide +kernel
theorem dX11_whyStopped_0 : decode cX11_whyStopped 0 = .ok (.aload_n 0, 1) := by decide +kernel
theorem dX11_whyStopped_1 : decode cX11_whyStopped 1 = .ok (.aload_n 0, 1) := by decide +kernel
theorem dX11_whyStopped_2 : decode cX11_whyStopped 2 = .ok (.getfield 7, 3) := by decide +kernel
theorem dX11_whyStopped_5 : decode cX11_whyStopped 5 = .ok (.bipush 7, 2) := by decide +kernel
theorem dX11_whyStopped_7 : decode cX11_whyStopped 7 = .ok (.iaload, 1) := by decide +kernel
theorem dX11_whyStopped_8 : decode cX11_whyStopped 8 = .ok (.iconst 1, 1) := by decide +kernel
theorem dX11_whyStopped_9 : decode cX11_whyStopped 9 = .ok (.if_icmp .ne 7, 3) := by decide +kernel
theorem dX11_whyStopped_12 : decode cX11_whyStopped 12 = .ok (.iconst 1, 1) := by decide +kernel
theorem dX11_whyStopped_13 : decode cX11_whyStopped 13 = .ok (.goto 4, 3) := by decide +kernel
theorem dX11_whyStopped_16 : decode cX11_whyStopped 16 = .ok (.iconst 0, 1) := by decide +kernel
theorem dX11_whyStopped_17 : decode cX11_whyStopped 17 = .ok (.invokevirtual 42, 3) := by decide +kernel
theorem dX11_whyStopped_20 : decode cX11_whyStopped 20 = .ok (.ifCond .eq 13, 3) := by decide +kernel
theorem dX11_whyStopped_23 : decode cX11_whyStopped 23 = .ok (.aload_n 0, 1) := by decide +kernel
theorem dX11_whyStopped_24 : decode cX11_whyStopped 24 = .ok (.getfield 7, 3) := by decide +kernel
theorem dX11_whyStopped_27 : decode cX11_whyStopped 27 = .ok (.bipush 9, 2) := by decide +kernel
theorem dX11_whyStopped_29 : decode cX11_whyStopped 29 = .ok (.iaload, 1) := by decide +kernel
theorem dX11_whyStopped_30 : decode cX11_whyStopped 30 = .ok (.goto 4, 3) := by decide +kernel
theorem dX11_whyStopped_33 : decode cX11_whyStopped 33 = .ok (.iconst 0, 1) := by decide +kernel
theorem dX11_whyStopped_34 : decode cX11_whyStopped 34 = .ok (.ireturn, 1) := by decide +kernel
theorem dX11_textLength_0 : decode cX11_textLength 0 = .ok (.aload_n 0, 1) := by decide +kernel
theorem dX11_textLength_1 : decode cX11_textLength 1 = .ok (.aload_n 0, 1) := by decide +kernel
theorem dX11_textLength_2 : decode cX11_textLength 2 = .ok (.getfield 7, 3) := by decide +kernel
theorem dX11_textLength_5 : decode cX11_textLength 5 = .ok (.iconst 0, 1) := by decide +kernel
theorem dX11_textLength_6 : decode cX11_textLength 6 = .ok (.iaload, 1) := by decide +kernel
theorem dX11_textLength_7 : decode cX11_textLength 7 = .ok (.invokevirtual 50, 3) := by decide +kernel
theorem dX11_textLength_10 : decode cX11_textLength 10 = .ok (.ireturn, 1) := by decide +kernel
theorem dX11_letterAt_0 : decode cX11_letterAt 0 = .ok (.aload_n 0, 1) := by decide +kernel
theorem dX11_letterAt_1 : decode cX11_letterAt 1 = .ok (.aload_n 0, 1) := by decide +kernel
theorem dX11_letterAt_2 : decode cX11_letterAt 2 = .ok (.iload_n 1, 1) := by decide +kernel
theorem dX11_letterAt_3 : decode cX11_letterAt 3 = .ok (.invokevirtual 65, 3) := by decide +kernel
theorem dX11_letterAt_6 : decode cX11_letterAt 6 = .ok (.invokevirtual 42, 3) := by decide +kernel
theorem dX11_letterAt_9 : decode cX11_letterAt 9 = .ok (.ifCond .eq 15, 3) := by decide +kernel
theorem dX11_letterAt_12 : decode cX11_letterAt 12 = .ok (.aload_n 0, 1) := by decide +kernel
theorem dX11_letterAt_13 : decode cX11_letterAt 13 = .ok (.getfield 7, 3) := by decide +kernel
theorem dX11_letterAt_16 : decode cX11_letterAt 16 = .ok (.bipush 10, 2) := by decide +kernel
theorem dX11_letterAt_18 : decode cX11_letterAt 18 = .ok (.iload_n 1, 1) := by decide +kernel
theorem dX11_letterAt_19 : decode cX11_letterAt 19 = .ok (.iadd, 1) := by decide +kernel
theorem dX11_letterAt_20 : decode cX11_letterAt 20 = .ok (.iaload, 1) := by decide +kernel
theorem dX11_letterAt_21 : decode cX11_letterAt 21 = .ok (.goto 4, 3) := by decide +kernel
theorem dX11_letterAt_24 : decode cX11_letterAt 24 = .ok (.iconst 0, 1) := by decide +kernel
theorem dX11_letterAt_25 : decode cX11_letterAt 25 = .ok (.ireturn, 1) := by decide +kernel
theorem dX11_window_0 : decode cX11_window 0 = .ok (.aload_n 0, 1) := by decide +kernel
theorem dX11_window_1 : decode cX11_window 1 = .ok (.aload_n 0, 1) := by decide +kernel
theorem dX11_window_2 : decode cX11_window 2 = .ok (.getfield 7, 3) := by decide +kernel
theorem dX11_window_5 : decode cX11_window 5 = .ok (.iconst 1, 1) := by decide +kernel
theorem dX11_window_6 : decode cX11_window 6 = .ok (.iaload, 1) := by decide +kernel
theorem dX11_window_7 : decode cX11_window 7 = .ok (.invokevirtual 50, 3) := by decide +kernel
theorem dX11_window_10 : decode cX11_window 10 = .ok (.ireturn, 1) := by decide +kernel
theorem dX11_shortest_0 : decode cX11_shortest 0 = .ok (.aload_n 0, 1) := by decide +kernel
theorem dX11_shortest_1 : decode cX11_shortest 1 = .ok (.aload_n 0, 1) := by decide +kernel
theorem dX11_shortest_2 : decode cX11_shortest 2 = .ok (.getfield 7, 3) := by decide +kernel
theorem dX11_shortest_5 : decode cX11_shortest 5 = .ok (.iconst 2, 1) := by decide +kernel
theorem dX11_shortest_6 : decode cX11_shortest 6 = .ok (.iaload, 1) := by decide +kernel
theorem dX11_shortest_7 : decode cX11_shortest 7 = .ok (.invokevirtual 50, 3) := by decide +kernel
theorem dX11_shortest_10 : decode cX11_shortest 10 = .ok (.ireturn, 1) := by decide +kernel
theorem dX11_longest_0 : decode cX11_longest 0 = .ok (.aload_n 0, 1) := by decide +kernel
theorem dX11_longest_1 : decode cX11_longest 1 = .ok (.aload_n 0, 1) := by decide +kernel
theorem dX11_longest_2 : decode cX11_longest 2 = .ok (.getfield 7, 3) := by decide +kernel
theorem dX11_longest_5 : decode cX11_longest 5 = .ok (.iconst 3, 1) := by decide +kernel
theorem dX11_longest_6 : decode cX11_longest 6 = .ok (.iaload, 1) := by decide +kernel
theorem dX11_longest_7 : decode cX11_longest 7 = .ok (.invokevirtual 50, 3) := by decide +kernel
theorem dX11_longest_10 : decode cX11_longest 10 = .ok (.ireturn, 1) := by decide +kernel
theorem dX11_isToken_0 : decode cX11_isToken 0 = .ok (.iload_n 1, 1) := by decide +kernel
theorem dX11_isToken_1 : decode cX11_isToken 1 = .ok (.iconst 0, 1) := by decide +kernel
theorem dX11_isToken_2 : decode cX11_isToken 2 = .ok (.aload_n 0, 1) := by decide +kernel
theorem dX11_isToken_3 : decode cX11_isToken 3 = .ok (.getfield 7, 3) := by decide +kernel
theorem dX11_isToken_6 : decode cX11_isToken 6 = .ok (.bipush 6, 2) := by decide +kernel
theorem dX11_isToken_8 : decode cX11_isToken 8 = .ok (.iaload, 1) := by decide +kernel
theorem dX11_isToken_9 : decode cX11_isToken 9 = .ok (.iconst 1, 1) := by decide +kernel
theorem dX11_isToken_10 : decode cX11_isToken 10 = .ok (.isub, 1) := by decide +kernel
theorem dX11_isToken_11 : decode cX11_isToken 11 = .ok (.invokestatic 57, 3) := by decide +kernel
theorem dX11_isToken_14 : decode cX11_isToken 14 = .ok (.ireturn, 1) := by decide +kernel
theorem dX11_tokens_0 : decode cX11_tokens 0 = .ok (.aload_n 0, 1) := by decide +kernel
theorem dX11_tokens_1 : decode cX11_tokens 1 = .ok (.aload_n 0, 1) := by decide +kernel
theorem dX11_tokens_2 : decode cX11_tokens 2 = .ok (.getfield 7, 3) := by decide +kernel
theorem dX11_tokens_5 : decode cX11_tokens 5 = .ok (.bipush 6, 2) := by decide +kernel
theorem dX11_tokens_7 : decode cX11_tokens 7 = .ok (.iaload, 1) := by decide +kernel
theorem dX11_tokens_8 : decode cX11_tokens 8 = .ok (.invokevirtual 50, 3) := by decide +kernel
theorem dX11_tokens_11 : decode cX11_tokens 11 = .ok (.ireturn, 1) := by decide +kernel
theorem dX11_isRepeat_0 : decode cX11_isRepeat 0 = .ok (.aload_n 0, 1) := by decide +kernel
theorem dX11_isRepeat_1 : decode cX11_isRepeat 1 = .ok (.aload_n 0, 1) := by decide +kernel
theorem dX11_isRepeat_2 : decode cX11_isRepeat 2 = .ok (.iload_n 1, 1) := by decide +kernel
theorem dX11_isRepeat_3 : decode cX11_isRepeat 3 = .ok (.invokevirtual 167, 3) := by decide +kernel
theorem dX11_isRepeat_6 : decode cX11_isRepeat 6 = .ok (.invokevirtual 42, 3) := by decide +kernel
theorem dX11_isRepeat_9 : decode cX11_isRepeat 9 = .ok (.ifCond .eq 15, 3) := by decide +kernel
theorem dX11_isRepeat_12 : decode cX11_isRepeat 12 = .ok (.aload_n 0, 1) := by decide +kernel
theorem dX11_isRepeat_13 : decode cX11_isRepeat 13 = .ok (.iload_n 1, 1) := by decide +kernel
theorem dX11_isRepeat_14 : decode cX11_isRepeat 14 = .ok (.invokevirtual 107, 3) := by decide +kernel
theorem dX11_isRepeat_17 : decode cX11_isRepeat 17 = .ok (.ifCond .le 7, 3) := by decide +kernel
theorem dX11_isRepeat_20 : decode cX11_isRepeat 20 = .ok (.iconst 1, 1) := by decide +kernel
theorem dX11_isRepeat_21 : decode cX11_isRepeat 21 = .ok (.goto 4, 3) := by decide +kernel
theorem dX11_isRepeat_24 : decode cX11_isRepeat 24 = .ok (.iconst 0, 1) := by decide +kernel
theorem dX11_isRepeat_25 : decode cX11_isRepeat 25 = .ok (.ireturn, 1) := by decide +kernel
theorem dX11_letterOf_0 : decode cX11_letterOf 0 = .ok (.aload_n 0, 1) := by decide +kernel
theorem dX11_letterOf_1 : decode cX11_letterOf 1 = .ok (.aload_n 0, 1) := by decide +kernel
theorem dX11_letterOf_2 : decode cX11_letterOf 2 = .ok (.iload_n 1, 1) := by decide +kernel
theorem dX11_letterOf_3 : decode cX11_letterOf 3 = .ok (.invokevirtual 167, 3) := by decide +kernel
theorem dX11_letterOf_6 : decode cX11_letterOf 6 = .ok (.invokevirtual 42, 3) := by decide +kernel
theorem dX11_letterOf_9 : decode cX11_letterOf 9 = .ok (.pop, 1) := by decide +kernel
theorem dX11_letterOf_10 : decode cX11_letterOf 10 = .ok (.aload_n 0, 1) := by decide +kernel
theorem dX11_letterOf_11 : decode cX11_letterOf 11 = .ok (.aload_n 0, 1) := by decide +kernel
theorem dX11_letterOf_12 : decode cX11_letterOf 12 = .ok (.getfield 35, 3) := by decide +kernel
theorem dX11_letterOf_15 : decode cX11_letterOf 15 = .ok (.ifCond .gt 11, 3) := by decide +kernel
theorem dX11_letterOf_18 : decode cX11_letterOf 18 = .ok (.aload_n 0, 1) := by decide +kernel
theorem dX11_letterOf_19 : decode cX11_letterOf 19 = .ok (.iload_n 1, 1) := by decide +kernel
theorem dX11_letterOf_20 : decode cX11_letterOf 20 = .ok (.invokevirtual 107, 3) := by decide +kernel
theorem dX11_letterOf_23 : decode cX11_letterOf 23 = .ok (.ifCond .ne 7, 3) := by decide +kernel
theorem dX11_letterOf_26 : decode cX11_letterOf 26 = .ok (.iconst 1, 1) := by decide +kernel
theorem dX11_letterOf_27 : decode cX11_letterOf 27 = .ok (.goto 4, 3) := by decide +kernel
theorem dX11_letterOf_30 : decode cX11_letterOf 30 = .ok (.iconst 0, 1) := by decide +kernel
theorem dX11_letterOf_31 : decode cX11_letterOf 31 = .ok (.iconst 2, 1) := by decide +kernel
theorem dX11_letterOf_32 : decode cX11_letterOf 32 = .ok (.invokevirtual 61, 3) := by decide +kernel
theorem dX11_letterOf_35 : decode cX11_letterOf 35 = .ok (.ifCond .eq 19, 3) := by decide +kernel
theorem dX11_letterOf_38 : decode cX11_letterOf 38 = .ok (.aload_n 0, 1) := by decide +kernel
theorem dX11_letterOf_39 : decode cX11_letterOf 39 = .ok (.getfield 7, 3) := by decide +kernel
theorem dX11_letterOf_42 : decode cX11_letterOf 42 = .ok (.bipush 50, 2) := by decide +kernel
theorem dX11_letterOf_44 : decode cX11_letterOf 44 = .ok (.iconst 2, 1) := by decide +kernel
theorem dX11_letterOf_45 : decode cX11_letterOf 45 = .ok (.iload_n 1, 1) := by decide +kernel
theorem dX11_letterOf_46 : decode cX11_letterOf 46 = .ok (.imul, 1) := by decide +kernel
theorem dX11_letterOf_47 : decode cX11_letterOf 47 = .ok (.iadd, 1) := by decide +kernel
theorem dX11_letterOf_48 : decode cX11_letterOf 48 = .ok (.iconst 1, 1) := by decide +kernel
theorem dX11_letterOf_49 : decode cX11_letterOf 49 = .ok (.iadd, 1) := by decide +kernel
theorem dX11_letterOf_50 : decode cX11_letterOf 50 = .ok (.iaload, 1) := by decide +kernel
theorem dX11_letterOf_51 : decode cX11_letterOf 51 = .ok (.goto 4, 3) := by decide +kernel
theorem dX11_letterOf_54 : decode cX11_letterOf 54 = .ok (.iconst 0, 1) := by decide +kernel
theorem dX11_letterOf_55 : decode cX11_letterOf 55 = .ok (.ireturn, 1) := by decide +kernel
theorem dX11_distanceOf_0 : decode cX11_distanceOf 0 = .ok (.aload_n 0, 1) := by decide +kernel
theorem dX11_distanceOf_1 : decode cX11_distanceOf 1 = .ok (.aload_n 0, 1) := by decide +kernel
theorem dX11_distanceOf_2 : decode cX11_distanceOf 2 = .ok (.iload_n 1, 1) := by decide +kernel
theorem dX11_distanceOf_3 : decode cX11_distanceOf 3 = .ok (.invokevirtual 167, 3) := by decide +kernel
theorem dX11_distanceOf_6 : decode cX11_distanceOf 6 = .ok (.invokevirtual 42, 3) := by decide +kernel
theorem dX11_distanceOf_9 : decode cX11_distanceOf 9 = .ok (.pop, 1) := by decide +kernel
theorem dX11_distanceOf_10 : decode cX11_distanceOf 10 = .ok (.aload_n 0, 1) := by decide +kernel
theorem dX11_distanceOf_11 : decode cX11_distanceOf 11 = .ok (.aload_n 0, 1) := by decide +kernel
theorem dX11_distanceOf_12 : decode cX11_distanceOf 12 = .ok (.getfield 35, 3) := by decide +kernel
theorem dX11_distanceOf_15 : decode cX11_distanceOf 15 = .ok (.ifCond .gt 11, 3) := by decide +kernel
theorem dX11_distanceOf_18 : decode cX11_distanceOf 18 = .ok (.aload_n 0, 1) := by decide +kernel
theorem dX11_distanceOf_19 : decode cX11_distanceOf 19 = .ok (.iload_n 1, 1) := by decide +kernel
theorem dX11_distanceOf_20 : decode cX11_distanceOf 20 = .ok (.invokevirtual 107, 3) := by decide +kernel
theorem dX11_distanceOf_23 : decode cX11_distanceOf 23 = .ok (.ifCond .le 7, 3) := by decide +kernel
theorem dX11_distanceOf_26 : decode cX11_distanceOf 26 = .ok (.iconst 1, 1) := by decide +kernel
theorem dX11_distanceOf_27 : decode cX11_distanceOf 27 = .ok (.goto 4, 3) := by decide +kernel
theorem dX11_distanceOf_30 : decode cX11_distanceOf 30 = .ok (.iconst 0, 1) := by decide +kernel
theorem dX11_distanceOf_31 : decode cX11_distanceOf 31 = .ok (.iconst 2, 1) := by decide +kernel
theorem dX11_distanceOf_32 : decode cX11_distanceOf 32 = .ok (.invokevirtual 61, 3) := by decide +kernel
theorem dX11_distanceOf_35 : decode cX11_distanceOf 35 = .ok (.ifCond .eq 11, 3) := by decide +kernel
theorem dX11_distanceOf_38 : decode cX11_distanceOf 38 = .ok (.aload_n 0, 1) := by decide +kernel
theorem dX11_distanceOf_39 : decode cX11_distanceOf 39 = .ok (.iload_n 1, 1) := by decide +kernel
theorem dX11_distanceOf_40 : decode cX11_distanceOf 40 = .ok (.invokevirtual 107, 3) := by decide +kernel
theorem dX11_distanceOf_43 : decode cX11_distanceOf 43 = .ok (.goto 4, 3) := by decide +kernel
theorem dX11_distanceOf_46 : decode cX11_distanceOf 46 = .ok (.iconst 0, 1) := by decide +kernel
theorem dX11_distanceOf_47 : decode cX11_distanceOf 47 = .ok (.ireturn, 1) := by decide +kernel
theorem dX11_lengthOf_0 : decode cX11_lengthOf 0 = .ok (.aload_n 0, 1) := by decide +kernel
theorem dX11_lengthOf_1 : decode cX11_lengthOf 1 = .ok (.aload_n 0, 1) := by decide +kernel
theorem dX11_lengthOf_2 : decode cX11_lengthOf 2 = .ok (.iload_n 1, 1) := by decide +kernel
theorem dX11_lengthOf_3 : decode cX11_lengthOf 3 = .ok (.invokevirtual 167, 3) := by decide +kernel
theorem dX11_lengthOf_6 : decode cX11_lengthOf 6 = .ok (.invokevirtual 42, 3) := by decide +kernel
theorem dX11_lengthOf_9 : decode cX11_lengthOf 9 = .ok (.ifCond .eq 11, 3) := by decide +kernel
theorem dX11_lengthOf_12 : decode cX11_lengthOf 12 = .ok (.aload_n 0, 1) := by decide +kernel
theorem dX11_lengthOf_13 : decode cX11_lengthOf 13 = .ok (.iload_n 1, 1) := by decide +kernel
theorem dX11_lengthOf_14 : decode cX11_lengthOf 14 = .ok (.invokevirtual 119, 3) := by decide +kernel
theorem dX11_lengthOf_17 : decode cX11_lengthOf 17 = .ok (.goto 4, 3) := by decide +kernel
theorem dX11_lengthOf_20 : decode cX11_lengthOf 20 = .ok (.iconst 0, 1) := by decide +kernel
theorem dX11_lengthOf_21 : decode cX11_lengthOf 21 = .ok (.ireturn, 1) := by decide +kernel
theorem dX11_cost_0 : decode cX11_cost 0 = .ok (.iconst 0, 1) := by decide +kernel
theorem dX11_cost_1 : decode cX11_cost 1 = .ok (.istore_n 1, 1) := by decide +kernel
theorem dX11_cost_2 : decode cX11_cost 2 = .ok (.iconst 0, 1) := by decide +kernel
theorem dX11_cost_3 : decode cX11_cost 3 = .ok (.istore_n 2, 1) := by decide +kernel
theorem dX11_cost_4 : decode cX11_cost 4 = .ok (.iload_n 2, 1) := by decide +kernel
theorem dX11_cost_5 : decode cX11_cost 5 = .ok (.aload_n 0, 1) := by decide +kernel
theorem dX11_cost_6 : decode cX11_cost 6 = .ok (.getfield 7, 3) := by decide +kernel
theorem dX11_cost_9 : decode cX11_cost 9 = .ok (.bipush 6, 2) := by decide +kernel
theorem dX11_cost_11 : decode cX11_cost 11 = .ok (.iaload, 1) := by decide +kernel
theorem dX11_cost_12 : decode cX11_cost 12 = .ok (.if_icmp .ge 35, 3) := by decide +kernel
theorem dX11_cost_15 : decode cX11_cost 15 = .ok (.iload_n 1, 1) := by decide +kernel
theorem dX11_cost_16 : decode cX11_cost 16 = .ok (.aload_n 0, 1) := by decide +kernel
theorem dX11_cost_17 : decode cX11_cost 17 = .ok (.iload_n 2, 1) := by decide +kernel
theorem dX11_cost_18 : decode cX11_cost 18 = .ok (.invokevirtual 107, 3) := by decide +kernel
theorem dX11_cost_21 : decode cX11_cost 21 = .ok (.ifCond .le 12, 3) := by decide +kernel
theorem dX11_cost_24 : decode cX11_cost 24 = .ok (.aload_n 0, 1) := by decide +kernel
theorem dX11_cost_25 : decode cX11_cost 25 = .ok (.getfield 7, 3) := by decide +kernel
theorem dX11_cost_28 : decode cX11_cost 28 = .ok (.iconst 5, 1) := by decide +kernel
theorem dX11_cost_29 : decode cX11_cost 29 = .ok (.iaload, 1) := by decide +kernel
theorem dX11_cost_30 : decode cX11_cost 30 = .ok (.goto 9, 3) := by decide +kernel
theorem dX11_cost_33 : decode cX11_cost 33 = .ok (.aload_n 0, 1) := by decide +kernel
theorem dX11_cost_34 : decode cX11_cost 34 = .ok (.getfield 7, 3) := by decide +kernel
theorem dX11_cost_37 : decode cX11_cost 37 = .ok (.iconst 4, 1) := by decide +kernel
theorem dX11_cost_38 : decode cX11_cost 38 = .ok (.iaload, 1) := by decide +kernel
theorem dX11_cost_39 : decode cX11_cost 39 = .ok (.iadd, 1) := by decide +kernel
theorem dX11_cost_40 : decode cX11_cost 40 = .ok (.istore_n 1, 1) := by decide +kernel
theorem dX11_cost_41 : decode cX11_cost 41 = .ok (.iinc 2 1, 3) := by decide +kernel
theorem dX11_cost_44 : decode cX11_cost 44 = .ok (.goto (-40), 3) := by decide +kernel
theorem dX11_cost_47 : decode cX11_cost 47 = .ok (.iload_n 1, 1) := by decide +kernel
theorem dX11_cost_48 : decode cX11_cost 48 = .ok (.ireturn, 1) := by decide +kernel
theorem dX11_sackCost_0 : decode cX11_sackCost 0 = .ok (.aload_n 0, 1) := by decide +kernel
theorem dX11_sackCost_1 : decode cX11_sackCost 1 = .ok (.aload_n 0, 1) := by decide +kernel
theorem dX11_sackCost_2 : decode cX11_sackCost 2 = .ok (.invokevirtual 170, 3) := by decide +kernel
theorem dX11_sackCost_5 : decode cX11_sackCost 5 = .ok (.invokevirtual 50, 3) := by decide +kernel
theorem dX11_sackCost_8 : decode cX11_sackCost 8 = .ok (.ireturn, 1) := by decide +kernel
theorem dX11_stands_0 : decode cX11_stands 0 = .ok (.iconst 0, 1) := by decide +kernel
theorem dX11_stands_1 : decode cX11_stands 1 = .ok (.istore_n 1, 1) := by decide +kernel
theorem dX11_stands_2 : decode cX11_stands 2 = .ok (.iconst 0, 1) := by decide +kernel
theorem dX11_stands_3 : decode cX11_stands 3 = .ok (.istore_n 2, 1) := by decide +kernel
theorem dX11_stands_4 : decode cX11_stands 4 = .ok (.iload_n 2, 1) := by decide +kernel
theorem dX11_stands_5 : decode cX11_stands 5 = .ok (.aload_n 0, 1) := by decide +kernel
theorem dX11_stands_6 : decode cX11_stands 6 = .ok (.getfield 7, 3) := by decide +kernel
theorem dX11_stands_9 : decode cX11_stands 9 = .ok (.bipush 6, 2) := by decide +kernel
theorem dX11_stands_11 : decode cX11_stands 11 = .ok (.iaload, 1) := by decide +kernel
theorem dX11_stands_12 : decode cX11_stands 12 = .ok (.if_icmp .ge 17, 3) := by decide +kernel
theorem dX11_stands_15 : decode cX11_stands 15 = .ok (.iload_n 1, 1) := by decide +kernel
theorem dX11_stands_16 : decode cX11_stands 16 = .ok (.aload_n 0, 1) := by decide +kernel
theorem dX11_stands_17 : decode cX11_stands 17 = .ok (.iload_n 2, 1) := by decide +kernel
theorem dX11_stands_18 : decode cX11_stands 18 = .ok (.invokevirtual 119, 3) := by decide +kernel
theorem dX11_stands_21 : decode cX11_stands 21 = .ok (.iadd, 1) := by decide +kernel
theorem dX11_stands_22 : decode cX11_stands 22 = .ok (.istore_n 1, 1) := by decide +kernel
theorem dX11_stands_23 : decode cX11_stands 23 = .ok (.iinc 2 1, 3) := by decide +kernel
theorem dX11_stands_26 : decode cX11_stands 26 = .ok (.goto (-22), 3) := by decide +kernel
theorem dX11_stands_29 : decode cX11_stands 29 = .ok (.iload_n 1, 1) := by decide +kernel
theorem dX11_stands_30 : decode cX11_stands 30 = .ok (.ireturn, 1) := by decide +kernel
theorem dX11_sackLetters_0 : decode cX11_sackLetters 0 = .ok (.aload_n 0, 1) := by decide +kernel
theorem dX11_sackLetters_1 : decode cX11_sackLetters 1 = .ok (.aload_n 0, 1) := by decide +kernel
theorem dX11_sackLetters_2 : decode cX11_sackLetters 2 = .ok (.invokevirtual 173, 3) := by decide +kernel
theorem dX11_sackLetters_5 : decode cX11_sackLetters 5 = .ok (.invokevirtual 50, 3) := by decide +kernel
theorem dX11_sackLetters_8 : decode cX11_sackLetters 8 = .ok (.ireturn, 1) := by decide +kernel
theorem dX11_wrongToken_0 : decode cX11_wrongToken 0 = .ok (.aload_n 0, 1) := by decide +kernel
theorem dX11_wrongToken_1 : decode cX11_wrongToken 1 = .ok (.invokevirtual 122, 3) := by decide +kernel
theorem dX11_wrongToken_4 : decode cX11_wrongToken 4 = .ok (.aload_n 0, 1) := by decide +kernel
theorem dX11_wrongToken_5 : decode cX11_wrongToken 5 = .ok (.aload_n 0, 1) := by decide +kernel
theorem dX11_wrongToken_6 : decode cX11_wrongToken 6 = .ok (.getfield 110, 3) := by decide +kernel
theorem dX11_wrongToken_9 : decode cX11_wrongToken 9 = .ok (.invokevirtual 50, 3) := by decide +kernel
theorem dX11_wrongToken_12 : decode cX11_wrongToken 12 = .ok (.ireturn, 1) := by decide +kernel
theorem dX11_wrongReason_0 : decode cX11_wrongReason 0 = .ok (.aload_n 0, 1) := by decide +kernel
theorem dX11_wrongReason_1 : decode cX11_wrongReason 1 = .ok (.invokevirtual 122, 3) := by decide +kernel
theorem dX11_wrongReason_4 : decode cX11_wrongReason 4 = .ok (.aload_n 0, 1) := by decide +kernel
theorem dX11_wrongReason_5 : decode cX11_wrongReason 5 = .ok (.aload_n 0, 1) := by decide +kernel
theorem dX11_wrongReason_6 : decode cX11_wrongReason 6 = .ok (.getfield 113, 3) := by decide +kernel
theorem dX11_wrongReason_9 : decode cX11_wrongReason 9 = .ok (.invokevirtual 50, 3) := by decide +kernel
theorem dX11_wrongReason_12 : decode cX11_wrongReason 12 = .ok (.ireturn, 1) := by decide +kernel
theorem dX11_forText_0 : decode cX11_forText 0 = .ok (.aload_n 0, 1) := by decide +kernel
theorem dX11_forText_1 : decode cX11_forText 1 = .ok (.invokevirtual 122, 3) := by decide +kernel
theorem dX11_forText_4 : decode cX11_forText 4 = .ok (.aload_n 0, 1) := by decide +kernel
theorem dX11_forText_5 : decode cX11_forText 5 = .ok (.getfield 110, 3) := by decide +kernel
theorem dX11_forText_8 : decode cX11_forText 8 = .ok (.ifCond .ge 20, 3) := by decide +kernel
theorem dX11_forText_11 : decode cX11_forText 11 = .ok (.aload_n 0, 1) := by decide +kernel
theorem dX11_forText_12 : decode cX11_forText 12 = .ok (.getfield 116, 3) := by decide +kernel
theorem dX11_forText_15 : decode cX11_forText 15 = .ok (.aload_n 0, 1) := by decide +kernel
theorem dX11_forText_16 : decode cX11_forText 16 = .ok (.getfield 7, 3) := by decide +kernel
theorem dX11_forText_19 : decode cX11_forText 19 = .ok (.iconst 0, 1) := by decide +kernel
theorem dX11_forText_20 : decode cX11_forText 20 = .ok (.iaload, 1) := by decide +kernel
theorem dX11_forText_21 : decode cX11_forText 21 = .ok (.if_icmp .ne 7, 3) := by decide +kernel
theorem dX11_forText_24 : decode cX11_forText 24 = .ok (.iconst 1, 1) := by decide +kernel
theorem dX11_forText_25 : decode cX11_forText 25 = .ok (.goto 4, 3) := by decide +kernel
theorem dX11_forText_28 : decode cX11_forText 28 = .ok (.iconst 0, 1) := by decide +kernel
theorem dX11_forText_29 : decode cX11_forText 29 = .ok (.istore_n 1, 1) := by decide +kernel
theorem dX11_forText_30 : decode cX11_forText 30 = .ok (.iconst 0, 1) := by decide +kernel
theorem dX11_forText_31 : decode cX11_forText 31 = .ok (.istore_n 2, 1) := by decide +kernel
theorem dX11_forText_32 : decode cX11_forText 32 = .ok (.iload_n 2, 1) := by decide +kernel
theorem dX11_forText_33 : decode cX11_forText 33 = .ok (.aload_n 0, 1) := by decide +kernel
theorem dX11_forText_34 : decode cX11_forText 34 = .ok (.getfield 7, 3) := by decide +kernel
theorem dX11_forText_37 : decode cX11_forText 37 = .ok (.iconst 0, 1) := by decide +kernel
theorem dX11_forText_38 : decode cX11_forText 38 = .ok (.iaload, 1) := by decide +kernel
theorem dX11_forText_39 : decode cX11_forText 39 = .ok (.if_icmp .ge 37, 3) := by decide +kernel
theorem dX11_forText_42 : decode cX11_forText 42 = .ok (.iload_n 1, 1) := by decide +kernel
theorem dX11_forText_43 : decode cX11_forText 43 = .ok (.ifCond .eq 33, 3) := by decide +kernel
theorem dX11_forText_46 : decode cX11_forText 46 = .ok (.aload_n 0, 1) := by decide +kernel
theorem dX11_forText_47 : decode cX11_forText 47 = .ok (.getfield 25, 3) := by decide +kernel
theorem dX11_forText_50 : decode cX11_forText 50 = .ok (.iload_n 2, 1) := by decide +kernel
theorem dX11_forText_51 : decode cX11_forText 51 = .ok (.iaload, 1) := by decide +kernel
theorem dX11_forText_52 : decode cX11_forText 52 = .ok (.aload_n 0, 1) := by decide +kernel
theorem dX11_forText_53 : decode cX11_forText 53 = .ok (.getfield 7, 3) := by decide +kernel
theorem dX11_forText_56 : decode cX11_forText 56 = .ok (.bipush 10, 2) := by decide +kernel
theorem dX11_forText_58 : decode cX11_forText 58 = .ok (.iload_n 2, 1) := by decide +kernel
theorem dX11_forText_59 : decode cX11_forText 59 = .ok (.iadd, 1) := by decide +kernel
theorem dX11_forText_60 : decode cX11_forText 60 = .ok (.iaload, 1) := by decide +kernel
theorem dX11_forText_61 : decode cX11_forText 61 = .ok (.if_icmp .ne 7, 3) := by decide +kernel
theorem dX11_forText_64 : decode cX11_forText 64 = .ok (.iconst 1, 1) := by decide +kernel
theorem dX11_forText_65 : decode cX11_forText 65 = .ok (.goto 4, 3) := by decide +kernel
theorem dX11_forText_68 : decode cX11_forText 68 = .ok (.iconst 0, 1) := by decide +kernel
theorem dX11_forText_69 : decode cX11_forText 69 = .ok (.istore_n 1, 1) := by decide +kernel
theorem dX11_forText_70 : decode cX11_forText 70 = .ok (.iinc 2 1, 3) := by decide +kernel
theorem dX11_forText_73 : decode cX11_forText 73 = .ok (.goto (-41), 3) := by decide +kernel
theorem dX11_forText_76 : decode cX11_forText 76 = .ok (.iload_n 1, 1) := by decide +kernel
theorem dX11_forText_77 : decode cX11_forText 77 = .ok (.ireturn, 1) := by decide +kernel
theorem dX11_isForText_0 : decode cX11_isForText 0 = .ok (.aload_n 0, 1) := by decide +kernel
theorem dX11_isForText_1 : decode cX11_isForText 1 = .ok (.iconst 0, 1) := by decide +kernel
theorem dX11_isForText_2 : decode cX11_isForText 2 = .ok (.putfield 35, 3) := by decide +kernel
theorem dX11_isForText_5 : decode cX11_isForText 5 = .ok (.aload_n 0, 1) := by decide +kernel
theorem dX11_isForText_6 : decode cX11_isForText 6 = .ok (.invokevirtual 176, 3) := by decide +kernel
theorem dX11_isForText_9 : decode cX11_isForText 9 = .ok (.ireturn, 1) := by decide +kernel
theorem dX11_repeatLength_0 : decode cX11_repeatLength 0 = .ok (.aload_n 0, 1) := by decide +kernel
theorem dX11_repeatLength_1 : decode cX11_repeatLength 1 = .ok (.aload_n 0, 1) := by decide +kernel
theorem dX11_repeatLength_2 : decode cX11_repeatLength 2 = .ok (.iload_n 1, 1) := by decide +kernel
theorem dX11_repeatLength_3 : decode cX11_repeatLength 3 = .ok (.invokevirtual 65, 3) := by decide +kernel
theorem dX11_repeatLength_6 : decode cX11_repeatLength 6 = .ok (.invokevirtual 42, 3) := by decide +kernel
theorem dX11_repeatLength_9 : decode cX11_repeatLength 9 = .ok (.ifCond .eq 17, 3) := by decide +kernel
theorem dX11_repeatLength_12 : decode cX11_repeatLength 12 = .ok (.aload_n 0, 1) := by decide +kernel
theorem dX11_repeatLength_13 : decode cX11_repeatLength 13 = .ok (.iload_n 1, 1) := by decide +kernel
theorem dX11_repeatLength_14 : decode cX11_repeatLength 14 = .ok (.aload_n 0, 1) := by decide +kernel
theorem dX11_repeatLength_15 : decode cX11_repeatLength 15 = .ok (.getfield 7, 3) := by decide +kernel
theorem dX11_repeatLength_18 : decode cX11_repeatLength 18 = .ok (.iconst 1, 1) := by decide +kernel
theorem dX11_repeatLength_19 : decode cX11_repeatLength 19 = .ok (.iaload, 1) := by decide +kernel
theorem dX11_repeatLength_20 : decode cX11_repeatLength 20 = .ok (.invokevirtual 84, 3) := by decide +kernel
theorem dX11_repeatLength_23 : decode cX11_repeatLength 23 = .ok (.goto 4, 3) := by decide +kernel
theorem dX11_repeatLength_26 : decode cX11_repeatLength 26 = .ok (.iconst 0, 1) := by decide +kernel
theorem dX11_repeatLength_27 : decode cX11_repeatLength 27 = .ok (.ireturn, 1) := by decide +kernel
theorem dX11_repeatLengthByPairs_0 : decode cX11_repeatLengthByPairs 0 = .ok (.aload_n 0, 1) := by decide +kernel
theorem dX11_repeatLengthByPairs_1 : decode cX11_repeatLengthByPairs 1 = .ok (.aload_n 0, 1) := by decide +kernel
theorem dX11_repeatLengthByPairs_2 : decode cX11_repeatLengthByPairs 2 = .ok (.iload_n 1, 1) := by decide +kernel
theorem dX11_repeatLengthByPairs_3 : decode cX11_repeatLengthByPairs 3 = .ok (.invokevirtual 65, 3) := by decide +kernel
theorem dX11_repeatLengthByPairs_6 : decode cX11_repeatLengthByPairs 6 = .ok (.invokevirtual 42, 3) := by decide +kernel
theorem dX11_repeatLengthByPairs_9 : decode cX11_repeatLengthByPairs 9 = .ok (.ifCond .eq 11, 3) := by decide +kernel
theorem dX11_repeatLengthByPairs_12 : decode cX11_repeatLengthByPairs 12 = .ok (.aload_n 0, 1) := by decide +kernel
theorem dX11_repeatLengthByPairs_13 : decode cX11_repeatLengthByPairs 13 = .ok (.iload_n 1, 1) := by decide +kernel
theorem dX11_repeatLengthByPairs_14 : decode cX11_repeatLengthByPairs 14 = .ok (.invokevirtual 180, 3) := by decide +kernel
theorem dX11_repeatLengthByPairs_17 : decode cX11_repeatLengthByPairs 17 = .ok (.goto 4, 3) := by decide +kernel
theorem dX11_repeatLengthByPairs_20 : decode cX11_repeatLengthByPairs 20 = .ok (.iconst 0, 1) := by decide +kernel
theorem dX11_repeatLengthByPairs_21 : decode cX11_repeatLengthByPairs 21 = .ok (.ireturn, 1) := by decide +kernel
theorem dX11_distanceAt_0 : decode cX11_distanceAt 0 = .ok (.aload_n 0, 1) := by decide +kernel
theorem dX11_distanceAt_1 : decode cX11_distanceAt 1 = .ok (.iload_n 1, 1) := by decide +kernel
theorem dX11_distanceAt_2 : decode cX11_distanceAt 2 = .ok (.aload_n 0, 1) := by decide +kernel
theorem dX11_distanceAt_3 : decode cX11_distanceAt 3 = .ok (.getfield 7, 3) := by decide +kernel
theorem dX11_distanceAt_6 : decode cX11_distanceAt 6 = .ok (.iconst 1, 1) := by decide +kernel
theorem dX11_distanceAt_7 : decode cX11_distanceAt 7 = .ok (.iaload, 1) := by decide +kernel
theorem dX11_distanceAt_8 : decode cX11_distanceAt 8 = .ok (.invokevirtual 84, 3) := by decide +kernel
theorem dX11_distanceAt_11 : decode cX11_distanceAt 11 = .ok (.istore_n 2, 1) := by decide +kernel
theorem dX11_distanceAt_12 : decode cX11_distanceAt 12 = .ok (.iload_n 2, 1) := by decide +kernel
theorem dX11_distanceAt_13 : decode cX11_distanceAt 13 = .ok (.ifCond .ne 7, 3) := by decide +kernel
theorem dX11_distanceAt_16 : decode cX11_distanceAt 16 = .ok (.iconst 0, 1) := by decide +kernel
theorem dX11_distanceAt_17 : decode cX11_distanceAt 17 = .ok (.goto 9, 3) := by decide +kernel
theorem dX11_distanceAt_20 : decode cX11_distanceAt 20 = .ok (.aload_n 0, 1) := by decide +kernel
theorem dX11_distanceAt_21 : decode cX11_distanceAt 21 = .ok (.iload_n 1, 1) := by decide +kernel
theorem dX11_distanceAt_22 : decode cX11_distanceAt 22 = .ok (.iload_n 2, 1) := by decide +kernel
theorem dX11_distanceAt_23 : decode cX11_distanceAt 23 = .ok (.invokevirtual 98, 3) := by decide +kernel
theorem dX11_distanceAt_26 : decode cX11_distanceAt 26 = .ok (.ireturn, 1) := by decide +kernel
theorem dX11_repeatDistance_0 : decode cX11_repeatDistance 0 = .ok (.aload_n 0, 1) := by decide +kernel
theorem dX11_repeatDistance_1 : decode cX11_repeatDistance 1 = .ok (.aload_n 0, 1) := by decide +kernel
theorem dX11_repeatDistance_2 : decode cX11_repeatDistance 2 = .ok (.iload_n 1, 1) := by decide +kernel
theorem dX11_repeatDistance_3 : decode cX11_repeatDistance 3 = .ok (.invokevirtual 65, 3) := by decide +kernel
theorem dX11_repeatDistance_6 : decode cX11_repeatDistance 6 = .ok (.invokevirtual 42, 3) := by decide +kernel
theorem dX11_repeatDistance_9 : decode cX11_repeatDistance 9 = .ok (.ifCond .eq 11, 3) := by decide +kernel
theorem dX11_repeatDistance_12 : decode cX11_repeatDistance 12 = .ok (.aload_n 0, 1) := by decide +kernel
theorem dX11_repeatDistance_13 : decode cX11_repeatDistance 13 = .ok (.iload_n 1, 1) := by decide +kernel
theorem dX11_repeatDistance_14 : decode cX11_repeatDistance 14 = .ok (.invokevirtual 183, 3) := by decide +kernel
theorem dX11_repeatDistance_17 : decode cX11_repeatDistance 17 = .ok (.goto 4, 3) := by decide +kernel
theorem dX11_repeatDistance_20 : decode cX11_repeatDistance 20 = .ok (.iconst 0, 1) := by decide +kernel
theorem dX11_repeatDistance_21 : decode cX11_repeatDistance 21 = .ok (.ireturn, 1) := by decide +kernel
theorem dX11_rowCost_0 : decode cX11_rowCost 0 = .ok (.aload_n 0, 1) := by decide +kernel
theorem dX11_rowCost_1 : decode cX11_rowCost 1 = .ok (.iload_n 1, 1) := by decide +kernel
theorem dX11_rowCost_2 : decode cX11_rowCost 2 = .ok (.invokevirtual 101, 3) := by decide +kernel
theorem dX11_rowCost_5 : decode cX11_rowCost 5 = .ok (.iconst 0, 1) := by decide +kernel
theorem dX11_rowCost_6 : decode cX11_rowCost 6 = .ok (.istore_n 2, 1) := by decide +kernel
theorem dX11_rowCost_7 : decode cX11_rowCost 7 = .ok (.iconst 0, 1) := by decide +kernel
theorem dX11_rowCost_8 : decode cX11_rowCost 8 = .ok (.istore_n 3, 1) := by decide +kernel
theorem dX11_rowCost_9 : decode cX11_rowCost 9 = .ok (.iload_n 3, 1) := by decide +kernel
theorem dX11_rowCost_10 : decode cX11_rowCost 10 = .ok (.aload_n 0, 1) := by decide +kernel
theorem dX11_rowCost_11 : decode cX11_rowCost 11 = .ok (.getfield 92, 3) := by decide +kernel
theorem dX11_rowCost_14 : decode cX11_rowCost 14 = .ok (.if_icmp .ge 38, 3) := by decide +kernel
theorem dX11_rowCost_17 : decode cX11_rowCost 17 = .ok (.iload_n 2, 1) := by decide +kernel
theorem dX11_rowCost_18 : decode cX11_rowCost 18 = .ok (.aload_n 0, 1) := by decide +kernel
theorem dX11_rowCost_19 : decode cX11_rowCost 19 = .ok (.getfield 19, 3) := by decide +kernel
theorem dX11_rowCost_22 : decode cX11_rowCost 22 = .ok (.iconst 2, 1) := by decide +kernel
theorem dX11_rowCost_23 : decode cX11_rowCost 23 = .ok (.iload_n 3, 1) := by decide +kernel
theorem dX11_rowCost_24 : decode cX11_rowCost 24 = .ok (.imul, 1) := by decide +kernel
theorem dX11_rowCost_25 : decode cX11_rowCost 25 = .ok (.iaload, 1) := by decide +kernel
theorem dX11_rowCost_26 : decode cX11_rowCost 26 = .ok (.ifCond .le 12, 3) := by decide +kernel
theorem dX11_rowCost_29 : decode cX11_rowCost 29 = .ok (.aload_n 0, 1) := by decide +kernel
theorem dX11_rowCost_30 : decode cX11_rowCost 30 = .ok (.getfield 7, 3) := by decide +kernel
theorem dX11_rowCost_33 : decode cX11_rowCost 33 = .ok (.iconst 5, 1) := by decide +kernel
theorem dX11_rowCost_34 : decode cX11_rowCost 34 = .ok (.iaload, 1) := by decide +kernel
theorem dX11_rowCost_35 : decode cX11_rowCost 35 = .ok (.goto 9, 3) := by decide +kernel
theorem dX11_rowCost_38 : decode cX11_rowCost 38 = .ok (.aload_n 0, 1) := by decide +kernel
theorem dX11_rowCost_39 : decode cX11_rowCost 39 = .ok (.getfield 7, 3) := by decide +kernel
theorem dX11_rowCost_42 : decode cX11_rowCost 42 = .ok (.iconst 4, 1) := by decide +kernel
theorem dX11_rowCost_43 : decode cX11_rowCost 43 = .ok (.iaload, 1) := by decide +kernel
theorem dX11_rowCost_44 : decode cX11_rowCost 44 = .ok (.iadd, 1) := by decide +kernel
theorem dX11_rowCost_45 : decode cX11_rowCost 45 = .ok (.istore_n 2, 1) := by decide +kernel
theorem dX11_rowCost_46 : decode cX11_rowCost 46 = .ok (.iinc 3 1, 3) := by decide +kernel
theorem dX11_rowCost_49 : decode cX11_rowCost 49 = .ok (.goto (-40), 3) := by decide +kernel
theorem dX11_rowCost_52 : decode cX11_rowCost 52 = .ok (.iload_n 2, 1) := by decide +kernel
theorem dX11_rowCost_53 : decode cX11_rowCost 53 = .ok (.ireturn, 1) := by decide +kernel
theorem dX11_costBy_0 : decode cX11_costBy 0 = .ok (.aload_n 0, 1) := by decide +kernel
theorem dX11_costBy_1 : decode cX11_costBy 1 = .ok (.iload_n 1, 1) := by decide +kernel
theorem dX11_costBy_2 : decode cX11_costBy 2 = .ok (.iconst 0, 1) := by decide +kernel
theorem dX11_costBy_3 : decode cX11_costBy 3 = .ok (.iconst 2, 1) := by decide +kernel
theorem dX11_costBy_4 : decode cX11_costBy 4 = .ok (.invokestatic 57, 3) := by decide +kernel
theorem dX11_costBy_7 : decode cX11_costBy 7 = .ok (.invokevirtual 42, 3) := by decide +kernel
theorem dX11_costBy_10 : decode cX11_costBy 10 = .ok (.ifCond .eq 11, 3) := by decide +kernel
theorem dX11_costBy_13 : decode cX11_costBy 13 = .ok (.aload_n 0, 1) := by decide +kernel
theorem dX11_costBy_14 : decode cX11_costBy 14 = .ok (.iload_n 1, 1) := by decide +kernel
theorem dX11_costBy_15 : decode cX11_costBy 15 = .ok (.invokevirtual 186, 3) := by decide +kernel
theorem dX11_costBy_18 : decode cX11_costBy 18 = .ok (.goto 4, 3) := by decide +kernel
theorem dX11_costBy_21 : decode cX11_costBy 21 = .ok (.iconst 0, 1) := by decide +kernel
theorem dX11_costBy_22 : decode cX11_costBy 22 = .ok (.ireturn, 1) := by decide +kernel
theorem dX11_tokensBy_0 : decode cX11_tokensBy 0 = .ok (.aload_n 0, 1) := by decide +kernel
theorem dX11_tokensBy_1 : decode cX11_tokensBy 1 = .ok (.iload_n 1, 1) := by decide +kernel
theorem dX11_tokensBy_2 : decode cX11_tokensBy 2 = .ok (.iconst 0, 1) := by decide +kernel
theorem dX11_tokensBy_3 : decode cX11_tokensBy 3 = .ok (.iconst 2, 1) := by decide +kernel
theorem dX11_tokensBy_4 : decode cX11_tokensBy 4 = .ok (.invokestatic 57, 3) := by decide +kernel
theorem dX11_tokensBy_7 : decode cX11_tokensBy 7 = .ok (.invokevirtual 42, 3) := by decide +kernel
theorem dX11_tokensBy_10 : decode cX11_tokensBy 10 = .ok (.ifCond .ne 5, 3) := by decide +kernel
theorem dX11_tokensBy_13 : decode cX11_tokensBy 13 = .ok (.iconst 0, 1) := by decide +kernel
theorem dX11_tokensBy_14 : decode cX11_tokensBy 14 = .ok (.ireturn, 1) := by decide +kernel
theorem dX11_tokensBy_15 : decode cX11_tokensBy 15 = .ok (.aload_n 0, 1) := by decide +kernel
theorem dX11_tokensBy_16 : decode cX11_tokensBy 16 = .ok (.iload_n 1, 1) := by decide +kernel
theorem dX11_tokensBy_17 : decode cX11_tokensBy 17 = .ok (.invokevirtual 101, 3) := by decide +kernel
theorem dX11_tokensBy_20 : decode cX11_tokensBy 20 = .ok (.aload_n 0, 1) := by decide +kernel
theorem dX11_tokensBy_21 : decode cX11_tokensBy 21 = .ok (.getfield 92, 3) := by decide +kernel
theorem dX11_tokensBy_24 : decode cX11_tokensBy 24 = .ok (.ireturn, 1) := by decide +kernel
theorem dX11_leastCost_0 : decode cX11_leastCost 0 = .ok (.aload_n 0, 1) := by decide +kernel
theorem dX11_leastCost_1 : decode cX11_leastCost 1 = .ok (.aload_n 0, 1) := by decide +kernel
theorem dX11_leastCost_2 : decode cX11_leastCost 2 = .ok (.aload_n 0, 1) := by decide +kernel
theorem dX11_leastCost_3 : decode cX11_leastCost 3 = .ok (.getfield 7, 3) := by decide +kernel
theorem dX11_leastCost_6 : decode cX11_leastCost 6 = .ok (.iconst 1, 1) := by decide +kernel
theorem dX11_leastCost_7 : decode cX11_leastCost 7 = .ok (.iaload, 1) := by decide +kernel
theorem dX11_leastCost_8 : decode cX11_leastCost 8 = .ok (.invokevirtual 189, 3) := by decide +kernel
theorem dX11_leastCost_11 : decode cX11_leastCost 11 = .ok (.invokevirtual 50, 3) := by decide +kernel
theorem dX11_leastCost_14 : decode cX11_leastCost 14 = .ok (.ireturn, 1) := by decide +kernel
theorem dX11_leastCostFromBeginning_0 : decode cX11_leastCostFromBeginning 0 = .ok (.aload_n 0, 1) := by decide +kernel
theorem dX11_leastCostFromBeginning_1 : decode cX11_leastCostFromBeginning 1 = .ok (.aload_n 0, 1) := by decide +kernel
theorem dX11_leastCostFromBeginning_2 : decode cX11_leastCostFromBeginning 2 = .ok (.invokevirtual 192, 3) := by decide +kernel
theorem dX11_leastCostFromBeginning_5 : decode cX11_leastCostFromBeginning 5 = .ok (.invokevirtual 50, 3) := by decide +kernel
theorem dX11_leastCostFromBeginning_8 : decode cX11_leastCostFromBeginning 8 = .ok (.ireturn, 1) := by decide +kernel
theorem dX11_leastCostWith_0 : decode cX11_leastCostWith 0 = .ok (.aload_n 0, 1) := by decide +kernel
theorem dX11_leastCostWith_1 : decode cX11_leastCostWith 1 = .ok (.iload_n 1, 1) := by decide +kernel
theorem dX11_leastCostWith_2 : decode cX11_leastCostWith 2 = .ok (.iconst 1, 1) := by decide +kernel
theorem dX11_leastCostWith_3 : decode cX11_leastCostWith 3 = .ok (.bipush 32, 2) := by decide +kernel
theorem dX11_leastCostWith_5 : decode cX11_leastCostWith 5 = .ok (.invokestatic 57, 3) := by decide +kernel
theorem dX11_leastCostWith_8 : decode cX11_leastCostWith 8 = .ok (.invokevirtual 42, 3) := by decide +kernel
theorem dX11_leastCostWith_11 : decode cX11_leastCostWith 11 = .ok (.ifCond .eq 11, 3) := by decide +kernel
theorem dX11_leastCostWith_14 : decode cX11_leastCostWith 14 = .ok (.aload_n 0, 1) := by decide +kernel
theorem dX11_leastCostWith_15 : decode cX11_leastCostWith 15 = .ok (.iload_n 1, 1) := by decide +kernel
theorem dX11_leastCostWith_16 : decode cX11_leastCostWith 16 = .ok (.invokevirtual 189, 3) := by decide +kernel
theorem dX11_leastCostWith_19 : decode cX11_leastCostWith 19 = .ok (.goto 4, 3) := by decide +kernel
theorem dX11_leastCostWith_22 : decode cX11_leastCostWith 22 = .ok (.iconst 0, 1) := by decide +kernel
theorem dX11_leastCostWith_23 : decode cX11_leastCostWith 23 = .ok (.ireturn, 1) := by decide +kernel
theorem dX11_often_0 : decode cX11_often 0 = .ok (.iconst 0, 1) := by decide +kernel
theorem dX11_often_1 : decode cX11_often 1 = .ok (.istore_n 2, 1) := by decide +kernel
theorem dX11_often_2 : decode cX11_often 2 = .ok (.iconst 0, 1) := by decide +kernel
theorem dX11_often_3 : decode cX11_often 3 = .ok (.istore_n 3, 1) := by decide +kernel
theorem dX11_often_4 : decode cX11_often 4 = .ok (.iload_n 3, 1) := by decide +kernel
theorem dX11_often_5 : decode cX11_often 5 = .ok (.iconst 1, 1) := by decide +kernel
theorem dX11_often_6 : decode cX11_often 6 = .ok (.iadd, 1) := by decide +kernel
theorem dX11_often_7 : decode cX11_often 7 = .ok (.aload_n 0, 1) := by decide +kernel
theorem dX11_often_8 : decode cX11_often 8 = .ok (.getfield 7, 3) := by decide +kernel
theorem dX11_often_11 : decode cX11_often 11 = .ok (.iconst 0, 1) := by decide +kernel
theorem dX11_often_12 : decode cX11_often 12 = .ok (.iaload, 1) := by decide +kernel
theorem dX11_often_13 : decode cX11_often 13 = .ok (.if_icmp .ge 26, 3) := by decide +kernel
theorem dX11_often_16 : decode cX11_often 16 = .ok (.iload_n 2, 1) := by decide +kernel
theorem dX11_often_17 : decode cX11_often 17 = .ok (.aload_n 0, 1) := by decide +kernel
theorem dX11_often_18 : decode cX11_often 18 = .ok (.iload_n 3, 1) := by decide +kernel
theorem dX11_often_19 : decode cX11_often 19 = .ok (.invokevirtual 81, 3) := by decide +kernel
theorem dX11_often_22 : decode cX11_often 22 = .ok (.iload_n 1, 1) := by decide +kernel
theorem dX11_often_23 : decode cX11_often 23 = .ok (.if_icmp .ne 7, 3) := by decide +kernel
theorem dX11_often_26 : decode cX11_often 26 = .ok (.iconst 1, 1) := by decide +kernel
theorem dX11_often_27 : decode cX11_often 27 = .ok (.goto 4, 3) := by decide +kernel
theorem dX11_often_30 : decode cX11_often 30 = .ok (.iconst 0, 1) := by decide +kernel
theorem dX11_often_31 : decode cX11_often 31 = .ok (.iadd, 1) := by decide +kernel
theorem dX11_often_32 : decode cX11_often 32 = .ok (.istore_n 2, 1) := by decide +kernel
theorem dX11_often_33 : decode cX11_often 33 = .ok (.iinc 3 1, 3) := by decide +kernel
theorem dX11_often_36 : decode cX11_often 36 = .ok (.goto (-32), 3) := by decide +kernel
theorem dX11_often_39 : decode cX11_often 39 = .ok (.iload_n 2, 1) := by decide +kernel
theorem dX11_often_40 : decode cX11_often 40 = .ok (.ireturn, 1) := by decide +kernel
theorem dX11_lastOf_0 : decode cX11_lastOf 0 = .ok (.iconst (-1), 1) := by decide +kernel
theorem dX11_lastOf_1 : decode cX11_lastOf 1 = .ok (.istore_n 2, 1) := by decide +kernel
theorem dX11_lastOf_2 : decode cX11_lastOf 2 = .ok (.iconst 0, 1) := by decide +kernel
theorem dX11_lastOf_3 : decode cX11_lastOf 3 = .ok (.istore_n 3, 1) := by decide +kernel
theorem dX11_lastOf_4 : decode cX11_lastOf 4 = .ok (.iload_n 3, 1) := by decide +kernel
theorem dX11_lastOf_5 : decode cX11_lastOf 5 = .ok (.iconst 1, 1) := by decide +kernel
theorem dX11_lastOf_6 : decode cX11_lastOf 6 = .ok (.iadd, 1) := by decide +kernel
theorem dX11_lastOf_7 : decode cX11_lastOf 7 = .ok (.aload_n 0, 1) := by decide +kernel
theorem dX11_lastOf_8 : decode cX11_lastOf 8 = .ok (.getfield 7, 3) := by decide +kernel
theorem dX11_lastOf_11 : decode cX11_lastOf 11 = .ok (.iconst 0, 1) := by decide +kernel
theorem dX11_lastOf_12 : decode cX11_lastOf 12 = .ok (.iaload, 1) := by decide +kernel
theorem dX11_lastOf_13 : decode cX11_lastOf 13 = .ok (.if_icmp .ge 24, 3) := by decide +kernel
theorem dX11_lastOf_16 : decode cX11_lastOf 16 = .ok (.aload_n 0, 1) := by decide +kernel
theorem dX11_lastOf_17 : decode cX11_lastOf 17 = .ok (.iload_n 3, 1) := by decide +kernel
theorem dX11_lastOf_18 : decode cX11_lastOf 18 = .ok (.invokevirtual 81, 3) := by decide +kernel
theorem dX11_lastOf_21 : decode cX11_lastOf 21 = .ok (.iload_n 1, 1) := by decide +kernel
theorem dX11_lastOf_22 : decode cX11_lastOf 22 = .ok (.if_icmp .ne 7, 3) := by decide +kernel
theorem dX11_lastOf_25 : decode cX11_lastOf 25 = .ok (.iload_n 3, 1) := by decide +kernel
theorem dX11_lastOf_26 : decode cX11_lastOf 26 = .ok (.goto 4, 3) := by decide +kernel
theorem dX11_lastOf_29 : decode cX11_lastOf 29 = .ok (.iload_n 2, 1) := by decide +kernel
theorem dX11_lastOf_30 : decode cX11_lastOf 30 = .ok (.istore_n 2, 1) := by decide +kernel
theorem dX11_lastOf_31 : decode cX11_lastOf 31 = .ok (.iinc 3 1, 3) := by decide +kernel
theorem dX11_lastOf_34 : decode cX11_lastOf 34 = .ok (.goto (-30), 3) := by decide +kernel
theorem dX11_lastOf_37 : decode cX11_lastOf 37 = .ok (.iload_n 2, 1) := by decide +kernel
theorem dX11_lastOf_38 : decode cX11_lastOf 38 = .ok (.ireturn, 1) := by decide +kernel
theorem dX11_pairs_0 : decode cX11_pairs 0 = .ok (.aload_n 0, 1) := by decide +kernel
theorem dX11_pairs_1 : decode cX11_pairs 1 = .ok (.iload_n 1, 1) := by decide +kernel
theorem dX11_pairs_2 : decode cX11_pairs 2 = .ok (.iconst 0, 1) := by decide +kernel
theorem dX11_pairs_3 : decode cX11_pairs 3 = .ok (.bipush 15, 2) := by decide +kernel
theorem dX11_pairs_5 : decode cX11_pairs 5 = .ok (.invokestatic 57, 3) := by decide +kernel
theorem dX11_pairs_8 : decode cX11_pairs 8 = .ok (.invokevirtual 42, 3) := by decide +kernel
theorem dX11_pairs_11 : decode cX11_pairs 11 = .ok (.ifCond .eq 11, 3) := by decide +kernel
theorem dX11_pairs_14 : decode cX11_pairs 14 = .ok (.aload_n 0, 1) := by decide +kernel
theorem dX11_pairs_15 : decode cX11_pairs 15 = .ok (.iload_n 1, 1) := by decide +kernel
theorem dX11_pairs_16 : decode cX11_pairs 16 = .ok (.invokevirtual 195, 3) := by decide +kernel
theorem dX11_pairs_19 : decode cX11_pairs 19 = .ok (.goto 4, 3) := by decide +kernel
theorem dX11_pairs_22 : decode cX11_pairs 22 = .ok (.iconst 0, 1) := by decide +kernel
theorem dX11_pairs_23 : decode cX11_pairs 23 = .ok (.ireturn, 1) := by decide +kernel
theorem dX11_lastPlaceOf_0 : decode cX11_lastPlaceOf 0 = .ok (.aload_n 0, 1) := by decide +kernel
theorem dX11_lastPlaceOf_1 : decode cX11_lastPlaceOf 1 = .ok (.iload_n 1, 1) := by decide +kernel
theorem dX11_lastPlaceOf_2 : decode cX11_lastPlaceOf 2 = .ok (.iconst 0, 1) := by decide +kernel
theorem dX11_lastPlaceOf_3 : decode cX11_lastPlaceOf 3 = .ok (.bipush 15, 2) := by decide +kernel
theorem dX11_lastPlaceOf_5 : decode cX11_lastPlaceOf 5 = .ok (.invokestatic 57, 3) := by decide +kernel
theorem dX11_lastPlaceOf_8 : decode cX11_lastPlaceOf 8 = .ok (.invokevirtual 42, 3) := by decide +kernel
theorem dX11_lastPlaceOf_11 : decode cX11_lastPlaceOf 11 = .ok (.ifCond .eq 11, 3) := by decide +kernel
theorem dX11_lastPlaceOf_14 : decode cX11_lastPlaceOf 14 = .ok (.aload_n 0, 1) := by decide +kernel
theorem dX11_lastPlaceOf_15 : decode cX11_lastPlaceOf 15 = .ok (.iload_n 1, 1) := by decide +kernel
theorem dX11_lastPlaceOf_16 : decode cX11_lastPlaceOf 16 = .ok (.invokevirtual 198, 3) := by decide +kernel
theorem dX11_lastPlaceOf_19 : decode cX11_lastPlaceOf 19 = .ok (.goto 4, 3) := by decide +kernel
theorem dX11_lastPlaceOf_22 : decode cX11_lastPlaceOf 22 = .ok (.iconst 0, 1) := by decide +kernel
theorem dX11_lastPlaceOf_23 : decode cX11_lastPlaceOf 23 = .ok (.ireturn, 1) := by decide +kernel
theorem dX11_frequent_0 : decode cX11_frequent 0 = .ok (.iconst 0, 1) := by decide +kernel
theorem dX11_frequent_1 : decode cX11_frequent 1 = .ok (.istore_n 1, 1) := by decide +kernel
theorem dX11_frequent_2 : decode cX11_frequent 2 = .ok (.iconst 1, 1) := by decide +kernel
theorem dX11_frequent_3 : decode cX11_frequent 3 = .ok (.istore_n 2, 1) := by decide +kernel
theorem dX11_frequent_4 : decode cX11_frequent 4 = .ok (.iload_n 2, 1) := by decide +kernel
theorem dX11_frequent_5 : decode cX11_frequent 5 = .ok (.bipush 16, 2) := by decide +kernel
theorem dX11_frequent_7 : decode cX11_frequent 7 = .ok (.if_icmp .ge 28, 3) := by decide +kernel
theorem dX11_frequent_10 : decode cX11_frequent 10 = .ok (.aload_n 0, 1) := by decide +kernel
theorem dX11_frequent_11 : decode cX11_frequent 11 = .ok (.iload_n 2, 1) := by decide +kernel
theorem dX11_frequent_12 : decode cX11_frequent 12 = .ok (.invokevirtual 195, 3) := by decide +kernel
theorem dX11_frequent_15 : decode cX11_frequent 15 = .ok (.aload_n 0, 1) := by decide +kernel
theorem dX11_frequent_16 : decode cX11_frequent 16 = .ok (.iload_n 1, 1) := by decide +kernel
theorem dX11_frequent_17 : decode cX11_frequent 17 = .ok (.invokevirtual 195, 3) := by decide +kernel
theorem dX11_frequent_20 : decode cX11_frequent 20 = .ok (.if_icmp .le 7, 3) := by decide +kernel
theorem dX11_frequent_23 : decode cX11_frequent 23 = .ok (.iload_n 2, 1) := by decide +kernel
theorem dX11_frequent_24 : decode cX11_frequent 24 = .ok (.goto 4, 3) := by decide +kernel
theorem dX11_frequent_27 : decode cX11_frequent 27 = .ok (.iload_n 1, 1) := by decide +kernel
theorem dX11_frequent_28 : decode cX11_frequent 28 = .ok (.istore_n 1, 1) := by decide +kernel
theorem dX11_frequent_29 : decode cX11_frequent 29 = .ok (.iinc 2 1, 3) := by decide +kernel
theorem dX11_frequent_32 : decode cX11_frequent 32 = .ok (.goto (-28), 3) := by decide +kernel
theorem dX11_frequent_35 : decode cX11_frequent 35 = .ok (.iload_n 1, 1) := by decide +kernel
theorem dX11_frequent_36 : decode cX11_frequent 36 = .ok (.ireturn, 1) := by decide +kernel
theorem dX11_mostFrequent_0 : decode cX11_mostFrequent 0 = .ok (.aload_n 0, 1) := by decide +kernel
theorem dX11_mostFrequent_1 : decode cX11_mostFrequent 1 = .ok (.aload_n 0, 1) := by decide +kernel
theorem dX11_mostFrequent_2 : decode cX11_mostFrequent 2 = .ok (.getfield 7, 3) := by decide +kernel
theorem dX11_mostFrequent_5 : decode cX11_mostFrequent 5 = .ok (.iconst 0, 1) := by decide +kernel
theorem dX11_mostFrequent_6 : decode cX11_mostFrequent 6 = .ok (.iaload, 1) := by decide +kernel
theorem dX11_mostFrequent_7 : decode cX11_mostFrequent 7 = .ok (.iconst 1, 1) := by decide +kernel
theorem dX11_mostFrequent_8 : decode cX11_mostFrequent 8 = .ok (.if_icmp .le 7, 3) := by decide +kernel
theorem dX11_mostFrequent_11 : decode cX11_mostFrequent 11 = .ok (.iconst 1, 1) := by decide +kernel
theorem dX11_mostFrequent_12 : decode cX11_mostFrequent 12 = .ok (.goto 4, 3) := by decide +kernel
theorem dX11_mostFrequent_15 : decode cX11_mostFrequent 15 = .ok (.iconst 0, 1) := by decide +kernel
theorem dX11_mostFrequent_16 : decode cX11_mostFrequent 16 = .ok (.invokevirtual 42, 3) := by decide +kernel
theorem dX11_mostFrequent_19 : decode cX11_mostFrequent 19 = .ok (.ifCond .eq 10, 3) := by decide +kernel
theorem dX11_mostFrequent_22 : decode cX11_mostFrequent 22 = .ok (.aload_n 0, 1) := by decide +kernel
theorem dX11_mostFrequent_23 : decode cX11_mostFrequent 23 = .ok (.invokevirtual 201, 3) := by decide +kernel
theorem dX11_mostFrequent_26 : decode cX11_mostFrequent 26 = .ok (.goto 4, 3) := by decide +kernel
theorem dX11_mostFrequent_29 : decode cX11_mostFrequent 29 = .ok (.iconst 0, 1) := by decide +kernel
theorem dX11_mostFrequent_30 : decode cX11_mostFrequent 30 = .ok (.ireturn, 1) := by decide +kernel
theorem dX11_share_0 : decode cX11_share 0 = .ok (.aload_n 0, 1) := by decide +kernel
theorem dX11_share_1 : decode cX11_share 1 = .ok (.getfield 7, 3) := by decide +kernel
theorem dX11_share_4 : decode cX11_share 4 = .ok (.bipush 6, 2) := by decide +kernel
theorem dX11_share_6 : decode cX11_share 6 = .ok (.iaload, 1) := by decide +kernel
theorem dX11_share_7 : decode cX11_share 7 = .ok (.ifCond .ne 7, 3) := by decide +kernel
theorem dX11_share_10 : decode cX11_share 10 = .ok (.dconst 1, 1) := by decide +kernel
theorem dX11_share_11 : decode cX11_share 11 = .ok (.goto 21, 3) := by decide +kernel
theorem dX11_share_14 : decode cX11_share 14 = .ok (.aload_n 0, 1) := by decide +kernel
theorem dX11_share_15 : decode cX11_share 15 = .ok (.invokevirtual 170, 3) := by decide +kernel
theorem dX11_share_18 : decode cX11_share 18 = .ok (.i2d, 1) := by decide +kernel
theorem dX11_share_19 : decode cX11_share 19 = .ok (.aload_n 0, 1) := by decide +kernel
theorem dX11_share_20 : decode cX11_share 20 = .ok (.getfield 7, 3) := by decide +kernel
theorem dX11_share_23 : decode cX11_share 23 = .ok (.iconst 4, 1) := by decide +kernel
theorem dX11_share_24 : decode cX11_share 24 = .ok (.iaload, 1) := by decide +kernel
theorem dX11_share_25 : decode cX11_share 25 = .ok (.aload_n 0, 1) := by decide +kernel
theorem dX11_share_26 : decode cX11_share 26 = .ok (.invokevirtual 173, 3) := by decide +kernel
theorem dX11_share_29 : decode cX11_share 29 = .ok (.imul, 1) := by decide +kernel
theorem dX11_share_30 : decode cX11_share 30 = .ok (.i2d, 1) := by decide +kernel
theorem dX11_share_31 : decode cX11_share 31 = .ok (.ddiv, 1) := by decide +kernel
theorem dX11_share_32 : decode cX11_share 32 = .ok (.dreturn, 1) := by decide +kernel
theorem dX11_packedShare_0 : decode cX11_packedShare 0 = .ok (.aload_n 0, 1) := by decide +kernel
theorem dX11_packedShare_1 : decode cX11_packedShare 1 = .ok (.iconst 0, 1) := by decide +kernel
theorem dX11_packedShare_2 : decode cX11_packedShare 2 = .ok (.putfield 35, 3) := by decide +kernel
theorem dX11_packedShare_5 : decode cX11_packedShare 5 = .ok (.aload_n 0, 1) := by decide +kernel
theorem dX11_packedShare_6 : decode cX11_packedShare 6 = .ok (.invokevirtual 204, 3) := by decide +kernel
theorem dX11_packedShare_9 : decode cX11_packedShare 9 = .ok (.dreturn, 1) := by decide +kernel
theorem dX11_adds_0 : decode cX11_adds 0 = .ok (.aload_n 0, 1) := by decide +kernel
theorem dX11_adds_1 : decode cX11_adds 1 = .ok (.ldc2_w 208, 3) := by decide +kernel
theorem dX11_adds_4 : decode cX11_adds 4 = .ok (.aload_n 0, 1) := by decide +kernel
theorem dX11_adds_5 : decode cX11_adds 5 = .ok (.getfield 210, 3) := by decide +kernel
theorem dX11_adds_8 : decode cX11_adds 8 = .ok (.lmul, 1) := by decide +kernel
theorem dX11_adds_9 : decode cX11_adds 9 = .ok (.lload_n 1, 1) := by decide +kernel
theorem dX11_adds_10 : decode cX11_adds 10 = .ok (.ladd, 1) := by decide +kernel
theorem dX11_adds_11 : decode cX11_adds 11 = .ok (.putfield 210, 3) := by decide +kernel
theorem dX11_adds_14 : decode cX11_adds 14 = .ok (.return_, 1) := by decide +kernel
theorem dX11_digest_0 : decode cX11_digest 0 = .ok (.aload_n 0, 1) := by decide +kernel
theorem dX11_digest_1 : decode cX11_digest 1 = .ok (.iconst 0, 1) := by decide +kernel
theorem dX11_digest_2 : decode cX11_digest 2 = .ok (.putfield 35, 3) := by decide +kernel
theorem dX11_digest_5 : decode cX11_digest 5 = .ok (.aload_n 0, 1) := by decide +kernel
theorem dX11_digest_6 : decode cX11_digest 6 = .ok (.ldc2_w 214, 3) := by decide +kernel
theorem dX11_digest_9 : decode cX11_digest 9 = .ok (.putfield 210, 3) := by decide +kernel
theorem dX11_digest_12 : decode cX11_digest 12 = .ok (.aload_n 0, 1) := by decide +kernel
theorem dX11_digest_13 : decode cX11_digest 13 = .ok (.aload_n 0, 1) := by decide +kernel
theorem dX11_digest_14 : decode cX11_digest 14 = .ok (.getfield 7, 3) := by decide +kernel
theorem dX11_digest_17 : decode cX11_digest 17 = .ok (.iconst 0, 1) := by decide +kernel
theorem dX11_digest_18 : decode cX11_digest 18 = .ok (.iaload, 1) := by decide +kernel
theorem dX11_digest_19 : decode cX11_digest 19 = .ok (.i2l, 1) := by decide +kernel
theorem dX11_digest_20 : decode cX11_digest 20 = .ok (.invokevirtual 216, 3) := by decide +kernel
theorem dX11_digest_23 : decode cX11_digest 23 = .ok (.iconst 0, 1) := by decide +kernel
theorem dX11_digest_24 : decode cX11_digest 24 = .ok (.istore_n 1, 1) := by decide +kernel
theorem dX11_digest_25 : decode cX11_digest 25 = .ok (.iload_n 1, 1) := by decide +kernel
theorem dX11_digest_26 : decode cX11_digest 26 = .ok (.aload_n 0, 1) := by decide +kernel
theorem dX11_digest_27 : decode cX11_digest 27 = .ok (.getfield 7, 3) := by decide +kernel
theorem dX11_digest_30 : decode cX11_digest 30 = .ok (.iconst 0, 1) := by decide +kernel
theorem dX11_digest_31 : decode cX11_digest 31 = .ok (.iaload, 1) := by decide +kernel
theorem dX11_digest_32 : decode cX11_digest 32 = .ok (.if_icmp .ge 23, 3) := by decide +kernel
theorem dX11_digest_35 : decode cX11_digest 35 = .ok (.aload_n 0, 1) := by decide +kernel
theorem dX11_digest_36 : decode cX11_digest 36 = .ok (.aload_n 0, 1) := by decide +kernel
theorem dX11_digest_37 : decode cX11_digest 37 = .ok (.getfield 7, 3) := by decide +kernel
theorem dX11_digest_40 : decode cX11_digest 40 = .ok (.bipush 10, 2) := by decide +kernel
theorem dX11_digest_42 : decode cX11_digest 42 = .ok (.iload_n 1, 1) := by decide +kernel
theorem dX11_digest_43 : decode cX11_digest 43 = .ok (.iadd, 1) := by decide +kernel
theorem dX11_digest_44 : decode cX11_digest 44 = .ok (.iaload, 1) := by decide +kernel
theorem dX11_digest_45 : decode cX11_digest 45 = .ok (.i2l, 1) := by decide +kernel
theorem dX11_digest_46 : decode cX11_digest 46 = .ok (.invokevirtual 216, 3) := by decide +kernel
theorem dX11_digest_49 : decode cX11_digest 49 = .ok (.iinc 1 1, 3) := by decide +kernel
theorem dX11_digest_52 : decode cX11_digest 52 = .ok (.goto (-27), 3) := by decide +kernel
theorem dX11_digest_55 : decode cX11_digest 55 = .ok (.aload_n 0, 1) := by decide +kernel
theorem dX11_digest_56 : decode cX11_digest 56 = .ok (.aload_n 0, 1) := by decide +kernel
theorem dX11_digest_57 : decode cX11_digest 57 = .ok (.getfield 7, 3) := by decide +kernel
theorem dX11_digest_60 : decode cX11_digest 60 = .ok (.iconst 1, 1) := by decide +kernel
theorem dX11_digest_61 : decode cX11_digest 61 = .ok (.iaload, 1) := by decide +kernel
theorem dX11_digest_62 : decode cX11_digest 62 = .ok (.i2l, 1) := by decide +kernel
theorem dX11_digest_63 : decode cX11_digest 63 = .ok (.invokevirtual 216, 3) := by decide +kernel
theorem dX11_digest_66 : decode cX11_digest 66 = .ok (.aload_n 0, 1) := by decide +kernel
theorem dX11_digest_67 : decode cX11_digest 67 = .ok (.aload_n 0, 1) := by decide +kernel
theorem dX11_digest_68 : decode cX11_digest 68 = .ok (.getfield 7, 3) := by decide +kernel
theorem dX11_digest_71 : decode cX11_digest 71 = .ok (.iconst 2, 1) := by decide +kernel
theorem dX11_digest_72 : decode cX11_digest 72 = .ok (.iaload, 1) := by decide +kernel
theorem dX11_digest_73 : decode cX11_digest 73 = .ok (.i2l, 1) := by decide +kernel
theorem dX11_digest_74 : decode cX11_digest 74 = .ok (.invokevirtual 216, 3) := by decide +kernel
theorem dX11_digest_77 : decode cX11_digest 77 = .ok (.aload_n 0, 1) := by decide +kernel
theorem dX11_digest_78 : decode cX11_digest 78 = .ok (.aload_n 0, 1) := by decide +kernel
theorem dX11_digest_79 : decode cX11_digest 79 = .ok (.getfield 7, 3) := by decide +kernel
theorem dX11_digest_82 : decode cX11_digest 82 = .ok (.iconst 3, 1) := by decide +kernel
theorem dX11_digest_83 : decode cX11_digest 83 = .ok (.iaload, 1) := by decide +kernel
theorem dX11_digest_84 : decode cX11_digest 84 = .ok (.i2l, 1) := by decide +kernel
theorem dX11_digest_85 : decode cX11_digest 85 = .ok (.invokevirtual 216, 3) := by decide +kernel
theorem dX11_digest_88 : decode cX11_digest 88 = .ok (.aload_n 0, 1) := by decide +kernel
theorem dX11_digest_89 : decode cX11_digest 89 = .ok (.aload_n 0, 1) := by decide +kernel
theorem dX11_digest_90 : decode cX11_digest 90 = .ok (.getfield 7, 3) := by decide +kernel
theorem dX11_digest_93 : decode cX11_digest 93 = .ok (.bipush 6, 2) := by decide +kernel
theorem dX11_digest_95 : decode cX11_digest 95 = .ok (.iaload, 1) := by decide +kernel
theorem dX11_digest_96 : decode cX11_digest 96 = .ok (.i2l, 1) := by decide +kernel
theorem dX11_digest_97 : decode cX11_digest 97 = .ok (.invokevirtual 216, 3) := by decide +kernel
theorem dX11_digest_100 : decode cX11_digest 100 = .ok (.aload_n 0, 1) := by decide +kernel
theorem dX11_digest_101 : decode cX11_digest 101 = .ok (.aload_n 0, 1) := by decide +kernel
theorem dX11_digest_102 : decode cX11_digest 102 = .ok (.invokevirtual 170, 3) := by decide +kernel
theorem dX11_digest_105 : decode cX11_digest 105 = .ok (.i2l, 1) := by decide +kernel
theorem dX11_digest_106 : decode cX11_digest 106 = .ok (.invokevirtual 216, 3) := by decide +kernel
theorem dX11_digest_109 : decode cX11_digest 109 = .ok (.aload_n 0, 1) := by decide +kernel
theorem dX11_digest_110 : decode cX11_digest 110 = .ok (.aload_n 0, 1) := by decide +kernel
theorem dX11_digest_111 : decode cX11_digest 111 = .ok (.invokevirtual 173, 3) := by decide +kernel
theorem dX11_digest_114 : decode cX11_digest 114 = .ok (.i2l, 1) := by decide +kernel
theorem dX11_digest_115 : decode cX11_digest 115 = .ok (.invokevirtual 216, 3) := by decide +kernel
theorem dX11_digest_118 : decode cX11_digest 118 = .ok (.aload_n 0, 1) := by decide +kernel
theorem dX11_digest_119 : decode cX11_digest 119 = .ok (.invokevirtual 122, 3) := by decide +kernel
theorem dX11_digest_122 : decode cX11_digest 122 = .ok (.aload_n 0, 1) := by decide +kernel
theorem dX11_digest_123 : decode cX11_digest 123 = .ok (.aload_n 0, 1) := by decide +kernel
theorem dX11_digest_124 : decode cX11_digest 124 = .ok (.getfield 110, 3) := by decide +kernel
theorem dX11_digest_127 : decode cX11_digest 127 = .ok (.i2l, 1) := by decide +kernel
theorem dX11_digest_128 : decode cX11_digest 128 = .ok (.invokevirtual 216, 3) := by decide +kernel
theorem dX11_digest_131 : decode cX11_digest 131 = .ok (.aload_n 0, 1) := by decide +kernel
theorem dX11_digest_132 : decode cX11_digest 132 = .ok (.aload_n 0, 1) := by decide +kernel
theorem dX11_digest_133 : decode cX11_digest 133 = .ok (.getfield 113, 3) := by decide +kernel
theorem dX11_digest_136 : decode cX11_digest 136 = .ok (.i2l, 1) := by decide +kernel
theorem dX11_digest_137 : decode cX11_digest 137 = .ok (.invokevirtual 216, 3) := by decide +kernel
theorem dX11_digest_140 : decode cX11_digest 140 = .ok (.aload_n 0, 1) := by decide +kernel
theorem dX11_digest_141 : decode cX11_digest 141 = .ok (.aload_n 0, 1) := by decide +kernel
theorem dX11_digest_142 : decode cX11_digest 142 = .ok (.invokevirtual 176, 3) := by decide +kernel
theorem dX11_digest_145 : decode cX11_digest 145 = .ok (.ifCond .eq 7, 3) := by decide +kernel
theorem dX11_digest_148 : decode cX11_digest 148 = .ok (.lconst 1, 1) := by decide +kernel
theorem dX11_digest_149 : decode cX11_digest 149 = .ok (.goto 4, 3) := by decide +kernel
theorem dX11_digest_152 : decode cX11_digest 152 = .ok (.lconst 0, 1) := by decide +kernel
theorem dX11_digest_153 : decode cX11_digest 153 = .ok (.invokevirtual 216, 3) := by decide +kernel
theorem dX11_digest_156 : decode cX11_digest 156 = .ok (.aload_n 0, 1) := by decide +kernel
theorem dX11_digest_157 : decode cX11_digest 157 = .ok (.aload_n 0, 1) := by decide +kernel
theorem dX11_digest_158 : decode cX11_digest 158 = .ok (.aload_n 0, 1) := by decide +kernel
theorem dX11_digest_159 : decode cX11_digest 159 = .ok (.getfield 7, 3) := by decide +kernel
theorem dX11_digest_162 : decode cX11_digest 162 = .ok (.iconst 1, 1) := by decide +kernel
theorem dX11_digest_163 : decode cX11_digest 163 = .ok (.iaload, 1) := by decide +kernel
theorem dX11_digest_164 : decode cX11_digest 164 = .ok (.invokevirtual 189, 3) := by decide +kernel
theorem dX11_digest_167 : decode cX11_digest 167 = .ok (.i2l, 1) := by decide +kernel
theorem dX11_digest_168 : decode cX11_digest 168 = .ok (.invokevirtual 216, 3) := by decide +kernel
theorem dX11_digest_171 : decode cX11_digest 171 = .ok (.aload_n 0, 1) := by decide +kernel
theorem dX11_digest_172 : decode cX11_digest 172 = .ok (.aload_n 0, 1) := by decide +kernel
theorem dX11_digest_173 : decode cX11_digest 173 = .ok (.invokevirtual 192, 3) := by decide +kernel
theorem dX11_digest_176 : decode cX11_digest 176 = .ok (.i2l, 1) := by decide +kernel
theorem dX11_digest_177 : decode cX11_digest 177 = .ok (.invokevirtual 216, 3) := by decide +kernel
theorem dX11_digest_180 : decode cX11_digest 180 = .ok (.aload_n 0, 1) := by decide +kernel
theorem dX11_digest_181 : decode cX11_digest 181 = .ok (.aload_n 0, 1) := by decide +kernel
theorem dX11_digest_182 : decode cX11_digest 182 = .ok (.bipush 32, 2) := by decide +kernel
theorem dX11_digest_184 : decode cX11_digest 184 = .ok (.invokevirtual 189, 3) := by decide +kernel
theorem dX11_digest_187 : decode cX11_digest 187 = .ok (.i2l, 1) := by decide +kernel
theorem dX11_digest_188 : decode cX11_digest 188 = .ok (.invokevirtual 216, 3) := by decide +kernel
theorem dX11_digest_191 : decode cX11_digest 191 = .ok (.iconst 0, 1) := by decide +kernel
theorem dX11_digest_192 : decode cX11_digest 192 = .ok (.istore_n 1, 1) := by decide +kernel
theorem dX11_digest_193 : decode cX11_digest 193 = .ok (.iload_n 1, 1) := by decide +kernel
theorem dX11_digest_194 : decode cX11_digest 194 = .ok (.iconst 3, 1) := by decide +kernel
theorem dX11_digest_195 : decode cX11_digest 195 = .ok (.if_icmp .ge 28, 3) := by decide +kernel
theorem dX11_digest_198 : decode cX11_digest 198 = .ok (.aload_n 0, 1) := by decide +kernel
theorem dX11_digest_199 : decode cX11_digest 199 = .ok (.aload_n 0, 1) := by decide +kernel
theorem dX11_digest_200 : decode cX11_digest 200 = .ok (.iload_n 1, 1) := by decide +kernel
theorem dX11_digest_201 : decode cX11_digest 201 = .ok (.invokevirtual 186, 3) := by decide +kernel
theorem dX11_digest_204 : decode cX11_digest 204 = .ok (.i2l, 1) := by decide +kernel
theorem dX11_digest_205 : decode cX11_digest 205 = .ok (.invokevirtual 216, 3) := by decide +kernel
theorem dX11_digest_208 : decode cX11_digest 208 = .ok (.aload_n 0, 1) := by decide +kernel
theorem dX11_digest_209 : decode cX11_digest 209 = .ok (.aload_n 0, 1) := by decide +kernel
theorem dX11_digest_210 : decode cX11_digest 210 = .ok (.getfield 92, 3) := by decide +kernel
theorem dX11_digest_213 : decode cX11_digest 213 = .ok (.i2l, 1) := by decide +kernel
theorem dX11_digest_214 : decode cX11_digest 214 = .ok (.invokevirtual 216, 3) := by decide +kernel
theorem dX11_digest_217 : decode cX11_digest 217 = .ok (.iinc 1 1, 3) := by decide +kernel
theorem dX11_digest_220 : decode cX11_digest 220 = .ok (.goto (-27), 3) := by decide +kernel
theorem dX11_digest_223 : decode cX11_digest 223 = .ok (.aload_n 0, 1) := by decide +kernel
theorem dX11_digest_224 : decode cX11_digest 224 = .ok (.aload_n 0, 1) := by decide +kernel
theorem dX11_digest_225 : decode cX11_digest 225 = .ok (.getfield 39, 3) := by decide +kernel
theorem dX11_digest_228 : decode cX11_digest 228 = .ok (.i2l, 1) := by decide +kernel
theorem dX11_digest_229 : decode cX11_digest 229 = .ok (.invokevirtual 216, 3) := by decide +kernel
theorem dX11_digest_232 : decode cX11_digest 232 = .ok (.iconst 0, 1) := by decide +kernel
theorem dX11_digest_233 : decode cX11_digest 233 = .ok (.istore_n 1, 1) := by decide +kernel
theorem dX11_digest_234 : decode cX11_digest 234 = .ok (.iload_n 1, 1) := by decide +kernel
theorem dX11_digest_235 : decode cX11_digest 235 = .ok (.aload_n 0, 1) := by decide +kernel
theorem dX11_digest_236 : decode cX11_digest 236 = .ok (.getfield 7, 3) := by decide +kernel
theorem dX11_digest_239 : decode cX11_digest 239 = .ok (.bipush 6, 2) := by decide +kernel
theorem dX11_digest_241 : decode cX11_digest 241 = .ok (.iaload, 1) := by decide +kernel
theorem dX11_digest_242 : decode cX11_digest 242 = .ok (.if_icmp .ge 71, 3) := by decide +kernel
theorem dX11_digest_245 : decode cX11_digest 245 = .ok (.aload_n 0, 1) := by decide +kernel
theorem dX11_digest_246 : decode cX11_digest 246 = .ok (.aload_n 0, 1) := by decide +kernel
theorem dX11_digest_247 : decode cX11_digest 247 = .ok (.iload_n 1, 1) := by decide +kernel
theorem dX11_digest_248 : decode cX11_digest 248 = .ok (.invokevirtual 107, 3) := by decide +kernel
theorem dX11_digest_251 : decode cX11_digest 251 = .ok (.ifCond .le 7, 3) := by decide +kernel
theorem dX11_digest_254 : decode cX11_digest 254 = .ok (.lconst 1, 1) := by decide +kernel
theorem dX11_digest_255 : decode cX11_digest 255 = .ok (.goto 4, 3) := by decide +kernel
theorem dX11_digest_258 : decode cX11_digest 258 = .ok (.lconst 0, 1) := by decide +kernel
theorem dX11_digest_259 : decode cX11_digest 259 = .ok (.invokevirtual 216, 3) := by decide +kernel
theorem dX11_digest_262 : decode cX11_digest 262 = .ok (.aload_n 0, 1) := by decide +kernel
theorem dX11_digest_263 : decode cX11_digest 263 = .ok (.aload_n 0, 1) := by decide +kernel
theorem dX11_digest_264 : decode cX11_digest 264 = .ok (.iload_n 1, 1) := by decide +kernel
theorem dX11_digest_265 : decode cX11_digest 265 = .ok (.invokevirtual 119, 3) := by decide +kernel
theorem dX11_digest_268 : decode cX11_digest 268 = .ok (.i2l, 1) := by decide +kernel
theorem dX11_digest_269 : decode cX11_digest 269 = .ok (.invokevirtual 216, 3) := by decide +kernel
theorem dX11_digest_272 : decode cX11_digest 272 = .ok (.aload_n 0, 1) := by decide +kernel
theorem dX11_digest_273 : decode cX11_digest 273 = .ok (.aload_n 0, 1) := by decide +kernel
theorem dX11_digest_274 : decode cX11_digest 274 = .ok (.iload_n 1, 1) := by decide +kernel
theorem dX11_digest_275 : decode cX11_digest 275 = .ok (.invokevirtual 107, 3) := by decide +kernel
theorem dX11_digest_278 : decode cX11_digest 278 = .ok (.ifCond .le 12, 3) := by decide +kernel
theorem dX11_digest_281 : decode cX11_digest 281 = .ok (.aload_n 0, 1) := by decide +kernel
theorem dX11_digest_282 : decode cX11_digest 282 = .ok (.iload_n 1, 1) := by decide +kernel
theorem dX11_digest_283 : decode cX11_digest 283 = .ok (.invokevirtual 107, 3) := by decide +kernel
theorem dX11_digest_286 : decode cX11_digest 286 = .ok (.i2l, 1) := by decide +kernel
theorem dX11_digest_287 : decode cX11_digest 287 = .ok (.goto 17, 3) := by decide +kernel
theorem dX11_digest_290 : decode cX11_digest 290 = .ok (.aload_n 0, 1) := by decide +kernel
theorem dX11_digest_291 : decode cX11_digest 291 = .ok (.getfield 7, 3) := by decide +kernel
theorem dX11_digest_294 : decode cX11_digest 294 = .ok (.bipush 50, 2) := by decide +kernel
theorem dX11_digest_296 : decode cX11_digest 296 = .ok (.iconst 2, 1) := by decide +kernel
theorem dX11_digest_297 : decode cX11_digest 297 = .ok (.iload_n 1, 1) := by decide +kernel
theorem dX11_digest_298 : decode cX11_digest 298 = .ok (.imul, 1) := by decide +kernel
theorem dX11_digest_299 : decode cX11_digest 299 = .ok (.iadd, 1) := by decide +kernel
theorem dX11_digest_300 : decode cX11_digest 300 = .ok (.iconst 1, 1) := by decide +kernel
theorem dX11_digest_301 : decode cX11_digest 301 = .ok (.iadd, 1) := by decide +kernel
theorem dX11_digest_302 : decode cX11_digest 302 = .ok (.iaload, 1) := by decide +kernel
theorem dX11_digest_303 : decode cX11_digest 303 = .ok (.i2l, 1) := by decide +kernel
theorem dX11_digest_304 : decode cX11_digest 304 = .ok (.invokevirtual 216, 3) := by decide +kernel
theorem dX11_digest_307 : decode cX11_digest 307 = .ok (.iinc 1 1, 3) := by decide +kernel
theorem dX11_digest_310 : decode cX11_digest 310 = .ok (.goto (-76), 3) := by decide +kernel
theorem dX11_digest_313 : decode cX11_digest 313 = .ok (.iconst 0, 1) := by decide +kernel
theorem dX11_digest_314 : decode cX11_digest 314 = .ok (.istore_n 1, 1) := by decide +kernel
theorem dX11_digest_315 : decode cX11_digest 315 = .ok (.iload_n 1, 1) := by decide +kernel
theorem dX11_digest_316 : decode cX11_digest 316 = .ok (.aload_n 0, 1) := by decide +kernel
theorem dX11_digest_317 : decode cX11_digest 317 = .ok (.getfield 7, 3) := by decide +kernel
theorem dX11_digest_320 : decode cX11_digest 320 = .ok (.iconst 0, 1) := by decide +kernel
theorem dX11_digest_321 : decode cX11_digest 321 = .ok (.iaload, 1) := by decide +kernel
theorem dX11_digest_322 : decode cX11_digest 322 = .ok (.if_icmp .ge 45, 3) := by decide +kernel
theorem dX11_digest_325 : decode cX11_digest 325 = .ok (.aload_n 0, 1) := by decide +kernel
theorem dX11_digest_326 : decode cX11_digest 326 = .ok (.aload_n 0, 1) := by decide +kernel
theorem dX11_digest_327 : decode cX11_digest 327 = .ok (.iload_n 1, 1) := by decide +kernel
theorem dX11_digest_328 : decode cX11_digest 328 = .ok (.aload_n 0, 1) := by decide +kernel
theorem dX11_digest_329 : decode cX11_digest 329 = .ok (.getfield 7, 3) := by decide +kernel
theorem dX11_digest_332 : decode cX11_digest 332 = .ok (.iconst 1, 1) := by decide +kernel
theorem dX11_digest_333 : decode cX11_digest 333 = .ok (.iaload, 1) := by decide +kernel
theorem dX11_digest_334 : decode cX11_digest 334 = .ok (.invokevirtual 84, 3) := by decide +kernel
theorem dX11_digest_337 : decode cX11_digest 337 = .ok (.i2l, 1) := by decide +kernel
theorem dX11_digest_338 : decode cX11_digest 338 = .ok (.invokevirtual 216, 3) := by decide +kernel
theorem dX11_digest_341 : decode cX11_digest 341 = .ok (.aload_n 0, 1) := by decide +kernel
theorem dX11_digest_342 : decode cX11_digest 342 = .ok (.aload_n 0, 1) := by decide +kernel
theorem dX11_digest_343 : decode cX11_digest 343 = .ok (.iload_n 1, 1) := by decide +kernel
theorem dX11_digest_344 : decode cX11_digest 344 = .ok (.invokevirtual 180, 3) := by decide +kernel
theorem dX11_digest_347 : decode cX11_digest 347 = .ok (.i2l, 1) := by decide +kernel
theorem dX11_digest_348 : decode cX11_digest 348 = .ok (.invokevirtual 216, 3) := by decide +kernel
theorem dX11_digest_351 : decode cX11_digest 351 = .ok (.aload_n 0, 1) := by decide +kernel
theorem dX11_digest_352 : decode cX11_digest 352 = .ok (.aload_n 0, 1) := by decide +kernel
theorem dX11_digest_353 : decode cX11_digest 353 = .ok (.iload_n 1, 1) := by decide +kernel
theorem dX11_digest_354 : decode cX11_digest 354 = .ok (.invokevirtual 183, 3) := by decide +kernel
theorem dX11_digest_357 : decode cX11_digest 357 = .ok (.i2l, 1) := by decide +kernel
theorem dX11_digest_358 : decode cX11_digest 358 = .ok (.invokevirtual 216, 3) := by decide +kernel
theorem dX11_digest_361 : decode cX11_digest 361 = .ok (.iinc 1 1, 3) := by decide +kernel
theorem dX11_digest_364 : decode cX11_digest 364 = .ok (.goto (-49), 3) := by decide +kernel
theorem dX11_digest_367 : decode cX11_digest 367 = .ok (.iconst 0, 1) := by decide +kernel
theorem dX11_digest_368 : decode cX11_digest 368 = .ok (.istore_n 1, 1) := by decide +kernel
theorem dX11_digest_369 : decode cX11_digest 369 = .ok (.iload_n 1, 1) := by decide +kernel
theorem dX11_digest_370 : decode cX11_digest 370 = .ok (.bipush 16, 2) := by decide +kernel
theorem dX11_digest_372 : decode cX11_digest 372 = .ok (.if_icmp .ge 29, 3) := by decide +kernel
theorem dX11_digest_375 : decode cX11_digest 375 = .ok (.aload_n 0, 1) := by decide +kernel
theorem dX11_digest_376 : decode cX11_digest 376 = .ok (.aload_n 0, 1) := by decide +kernel
theorem dX11_digest_377 : decode cX11_digest 377 = .ok (.iload_n 1, 1) := by decide +kernel
theorem dX11_digest_378 : decode cX11_digest 378 = .ok (.invokevirtual 195, 3) := by decide +kernel
theorem dX11_digest_381 : decode cX11_digest 381 = .ok (.i2l, 1) := by decide +kernel
theorem dX11_digest_382 : decode cX11_digest 382 = .ok (.invokevirtual 216, 3) := by decide +kernel
theorem dX11_digest_385 : decode cX11_digest 385 = .ok (.aload_n 0, 1) := by decide +kernel
theorem dX11_digest_386 : decode cX11_digest 386 = .ok (.aload_n 0, 1) := by decide +kernel
theorem dX11_digest_387 : decode cX11_digest 387 = .ok (.iload_n 1, 1) := by decide +kernel
theorem dX11_digest_388 : decode cX11_digest 388 = .ok (.invokevirtual 198, 3) := by decide +kernel
theorem dX11_digest_391 : decode cX11_digest 391 = .ok (.i2l, 1) := by decide +kernel
theorem dX11_digest_392 : decode cX11_digest 392 = .ok (.invokevirtual 216, 3) := by decide +kernel
theorem dX11_digest_395 : decode cX11_digest 395 = .ok (.iinc 1 1, 3) := by decide +kernel
theorem dX11_digest_398 : decode cX11_digest 398 = .ok (.goto (-29), 3) := by decide +kernel
theorem dX11_digest_401 : decode cX11_digest 401 = .ok (.aload_n 0, 1) := by decide +kernel
theorem dX11_digest_402 : decode cX11_digest 402 = .ok (.getfield 7, 3) := by decide +kernel
theorem dX11_digest_405 : decode cX11_digest 405 = .ok (.iconst 0, 1) := by decide +kernel
theorem dX11_digest_406 : decode cX11_digest 406 = .ok (.iaload, 1) := by decide +kernel
theorem dX11_digest_407 : decode cX11_digest 407 = .ok (.iconst 1, 1) := by decide +kernel
theorem dX11_digest_408 : decode cX11_digest 408 = .ok (.if_icmp .le 12, 3) := by decide +kernel
theorem dX11_digest_411 : decode cX11_digest 411 = .ok (.aload_n 0, 1) := by decide +kernel
theorem dX11_digest_412 : decode cX11_digest 412 = .ok (.aload_n 0, 1) := by decide +kernel
theorem dX11_digest_413 : decode cX11_digest 413 = .ok (.invokevirtual 201, 3) := by decide +kernel
theorem dX11_digest_416 : decode cX11_digest 416 = .ok (.i2l, 1) := by decide +kernel
theorem dX11_digest_417 : decode cX11_digest 417 = .ok (.invokevirtual 216, 3) := by decide +kernel
theorem dX11_digest_420 : decode cX11_digest 420 = .ok (.aload_n 0, 1) := by decide +kernel
theorem dX11_digest_421 : decode cX11_digest 421 = .ok (.aload_n 0, 1) := by decide +kernel
theorem dX11_digest_422 : decode cX11_digest 422 = .ok (.getfield 7, 3) := by decide +kernel
theorem dX11_digest_425 : decode cX11_digest 425 = .ok (.bipush 7, 2) := by decide +kernel
theorem dX11_digest_427 : decode cX11_digest 427 = .ok (.iaload, 1) := by decide +kernel
theorem dX11_digest_428 : decode cX11_digest 428 = .ok (.i2l, 1) := by decide +kernel
theorem dX11_digest_429 : decode cX11_digest 429 = .ok (.invokevirtual 216, 3) := by decide +kernel
theorem dX11_digest_432 : decode cX11_digest 432 = .ok (.aload_n 0, 1) := by decide +kernel
theorem dX11_digest_433 : decode cX11_digest 433 = .ok (.getfield 7, 3) := by decide +kernel
theorem dX11_digest_436 : decode cX11_digest 436 = .ok (.bipush 7, 2) := by decide +kernel
theorem dX11_digest_438 : decode cX11_digest 438 = .ok (.iaload, 1) := by decide +kernel
theorem dX11_digest_439 : decode cX11_digest 439 = .ok (.iconst 1, 1) := by decide +kernel
theorem dX11_digest_440 : decode cX11_digest 440 = .ok (.if_icmp .ne 27, 3) := by decide +kernel
theorem dX11_digest_443 : decode cX11_digest 443 = .ok (.aload_n 0, 1) := by decide +kernel
theorem dX11_digest_444 : decode cX11_digest 444 = .ok (.aload_n 0, 1) := by decide +kernel
theorem dX11_digest_445 : decode cX11_digest 445 = .ok (.getfield 7, 3) := by decide +kernel
theorem dX11_digest_448 : decode cX11_digest 448 = .ok (.bipush 8, 2) := by decide +kernel
theorem dX11_digest_450 : decode cX11_digest 450 = .ok (.iaload, 1) := by decide +kernel
theorem dX11_digest_451 : decode cX11_digest 451 = .ok (.i2l, 1) := by decide +kernel
theorem dX11_digest_452 : decode cX11_digest 452 = .ok (.invokevirtual 216, 3) := by decide +kernel
theorem dX11_digest_455 : decode cX11_digest 455 = .ok (.aload_n 0, 1) := by decide +kernel
theorem dX11_digest_456 : decode cX11_digest 456 = .ok (.aload_n 0, 1) := by decide +kernel
theorem dX11_digest_457 : decode cX11_digest 457 = .ok (.getfield 7, 3) := by decide +kernel
theorem dX11_digest_460 : decode cX11_digest 460 = .ok (.bipush 9, 2) := by decide +kernel
theorem dX11_digest_462 : decode cX11_digest 462 = .ok (.iaload, 1) := by decide +kernel
theorem dX11_digest_463 : decode cX11_digest 463 = .ok (.i2l, 1) := by decide +kernel
theorem dX11_digest_464 : decode cX11_digest 464 = .ok (.invokevirtual 216, 3) := by decide +kernel
theorem dX11_digest_467 : decode cX11_digest 467 = .ok (.aload_n 0, 1) := by decide +kernel
theorem dX11_digest_468 : decode cX11_digest 468 = .ok (.aload_n 0, 1) := by decide +kernel
theorem dX11_digest_469 : decode cX11_digest 469 = .ok (.invokevirtual 204, 3) := by decide +kernel
theorem dX11_digest_472 : decode cX11_digest 472 = .ok (.invokestatic 220, 3) := by decide +kernel
theorem dX11_digest_475 : decode cX11_digest 475 = .ok (.invokevirtual 216, 3) := by decide +kernel
theorem dX11_digest_478 : decode cX11_digest 478 = .ok (.aload_n 0, 1) := by decide +kernel
theorem dX11_digest_479 : decode cX11_digest 479 = .ok (.aload_n 0, 1) := by decide +kernel
theorem dX11_digest_480 : decode cX11_digest 480 = .ok (.getfield 132, 3) := by decide +kernel
theorem dX11_digest_483 : decode cX11_digest 483 = .ok (.i2l, 1) := by decide +kernel
theorem dX11_digest_484 : decode cX11_digest 484 = .ok (.invokevirtual 216, 3) := by decide +kernel
theorem dX11_digest_487 : decode cX11_digest 487 = .ok (.iconst 0, 1) := by decide +kernel
theorem dX11_digest_488 : decode cX11_digest 488 = .ok (.istore_n 1, 1) := by decide +kernel
theorem dX11_digest_489 : decode cX11_digest 489 = .ok (.iload_n 1, 1) := by decide +kernel
theorem dX11_digest_490 : decode cX11_digest 490 = .ok (.aload_n 0, 1) := by decide +kernel
theorem dX11_digest_491 : decode cX11_digest 491 = .ok (.getfield 132, 3) := by decide +kernel
theorem dX11_digest_494 : decode cX11_digest 494 = .ok (.if_icmp .ge 20, 3) := by decide +kernel
theorem dX11_digest_497 : decode cX11_digest 497 = .ok (.aload_n 0, 1) := by decide +kernel
theorem dX11_digest_498 : decode cX11_digest 498 = .ok (.aload_n 0, 1) := by decide +kernel
theorem dX11_digest_499 : decode cX11_digest 499 = .ok (.getfield 28, 3) := by decide +kernel
theorem dX11_digest_502 : decode cX11_digest 502 = .ok (.iload_n 1, 1) := by decide +kernel
theorem dX11_digest_503 : decode cX11_digest 503 = .ok (.caload, 1) := by decide +kernel
theorem dX11_digest_504 : decode cX11_digest 504 = .ok (.i2l, 1) := by decide +kernel
theorem dX11_digest_505 : decode cX11_digest 505 = .ok (.invokevirtual 216, 3) := by decide +kernel
theorem dX11_digest_508 : decode cX11_digest 508 = .ok (.iinc 1 1, 3) := by decide +kernel
theorem dX11_digest_511 : decode cX11_digest 511 = .ok (.goto (-22), 3) := by decide +kernel
theorem dX11_digest_514 : decode cX11_digest 514 = .ok (.aload_n 0, 1) := by decide +kernel
theorem dX11_digest_515 : decode cX11_digest 515 = .ok (.getfield 210, 3) := by decide +kernel
theorem dX11_digest_518 : decode cX11_digest 518 = .ok (.lreturn, 1) := by decide +kernel
