/-! decode rows, out of the printed names -/
theorem dX10_isLetter_0 : decode cX10_isLetter 0 = .ok (.iload_n 0, 1) := by decide +kernel
theorem dX10_isLetter_1 : decode cX10_isLetter 1 = .ok (.ifCond .lt 12, 3) := by decide +kernel
theorem dX10_isLetter_4 : decode cX10_isLetter 4 = .ok (.iload_n 0, 1) := by decide +kernel
theorem dX10_isLetter_5 : decode cX10_isLetter 5 = .ok (.iconst 4, 1) := by decide +kernel
theorem dX10_isLetter_6 : decode cX10_isLetter 6 = .ok (.if_icmp .ge 7, 3) := by decide +kernel
theorem dX10_isLetter_9 : decode cX10_isLetter 9 = .ok (.iconst 1, 1) := by decide +kernel
theorem dX10_isLetter_10 : decode cX10_isLetter 10 = .ok (.goto 4, 3) := by decide +kernel
theorem dX10_isLetter_13 : decode cX10_isLetter 13 = .ok (.iconst 0, 1) := by decide +kernel
theorem dX10_isLetter_14 : decode cX10_isLetter 14 = .ok (.ireturn, 1) := by decide +kernel
theorem dX10_addLetter_0 : decode cX10_addLetter 0 = .ok (.iload_n 1, 1) := by decide +kernel
theorem dX10_addLetter_1 : decode cX10_addLetter 1 = .ok (.invokestatic 77, 3) := by decide +kernel
theorem dX10_addLetter_4 : decode cX10_addLetter 4 = .ok (.ifCond .ne 13, 3) := by decide +kernel
theorem dX10_addLetter_7 : decode cX10_addLetter 7 = .ok (.new 81, 3) := by decide +kernel
theorem dX10_addLetter_10 : decode cX10_addLetter 10 = .ok (.dup, 1) := by decide +kernel
theorem dX10_addLetter_11 : decode cX10_addLetter 11 = .ok (.ldc 83, 2) := by decide +kernel
theorem dX10_addLetter_13 : decode cX10_addLetter 13 = .ok (.invokespecial 85, 3) := by decide +kernel
theorem dX10_addLetter_16 : decode cX10_addLetter 16 = .ok (.athrow, 1) := by decide +kernel
theorem dX10_addLetter_17 : decode cX10_addLetter 17 = .ok (.aload_n 0, 1) := by decide +kernel
theorem dX10_addLetter_18 : decode cX10_addLetter 18 = .ok (.getfield 10, 3) := by decide +kernel
theorem dX10_addLetter_21 : decode cX10_addLetter 21 = .ok (.getfield 39, 3) := by decide +kernel
theorem dX10_addLetter_24 : decode cX10_addLetter 24 = .ok (.getfield 88, 3) := by decide +kernel
theorem dX10_addLetter_27 : decode cX10_addLetter 27 = .ok (.bipush 40, 2) := by decide +kernel
theorem dX10_addLetter_29 : decode cX10_addLetter 29 = .ok (.if_icmp .lt 13, 3) := by decide +kernel
theorem dX10_addLetter_32 : decode cX10_addLetter 32 = .ok (.new 94, 3) := by decide +kernel
theorem dX10_addLetter_35 : decode cX10_addLetter 35 = .ok (.dup, 1) := by decide +kernel
theorem dX10_addLetter_36 : decode cX10_addLetter 36 = .ok (.ldc 96, 2) := by decide +kernel
theorem dX10_addLetter_38 : decode cX10_addLetter 38 = .ok (.invokespecial 98, 3) := by decide +kernel
theorem dX10_addLetter_41 : decode cX10_addLetter 41 = .ok (.athrow, 1) := by decide +kernel
theorem dX10_addLetter_42 : decode cX10_addLetter 42 = .ok (.aload_n 0, 1) := by decide +kernel
theorem dX10_addLetter_43 : decode cX10_addLetter 43 = .ok (.getfield 26, 3) := by decide +kernel
theorem dX10_addLetter_46 : decode cX10_addLetter 46 = .ok (.aload_n 0, 1) := by decide +kernel
theorem dX10_addLetter_47 : decode cX10_addLetter 47 = .ok (.getfield 10, 3) := by decide +kernel
theorem dX10_addLetter_50 : decode cX10_addLetter 50 = .ok (.invokevirtual 99, 3) := by decide +kernel
theorem dX10_addLetter_53 : decode cX10_addLetter 53 = .ok (.aload_n 0, 1) := by decide +kernel
theorem dX10_addLetter_54 : decode cX10_addLetter 54 = .ok (.getfield 10, 3) := by decide +kernel
theorem dX10_addLetter_57 : decode cX10_addLetter 57 = .ok (.getfield 39, 3) := by decide +kernel
theorem dX10_addLetter_60 : decode cX10_addLetter 60 = .ok (.iload_n 1, 1) := by decide +kernel
theorem dX10_addLetter_61 : decode cX10_addLetter 61 = .ok (.invokevirtual 103, 3) := by decide +kernel
theorem dX10_addLetter_64 : decode cX10_addLetter 64 = .ok (.aload_n 0, 1) := by decide +kernel
theorem dX10_addLetter_65 : decode cX10_addLetter 65 = .ok (.getfield 10, 3) := by decide +kernel
theorem dX10_addLetter_68 : decode cX10_addLetter 68 = .ok (.getfield 39, 3) := by decide +kernel
theorem dX10_addLetter_71 : decode cX10_addLetter 71 = .ok (.getfield 88, 3) := by decide +kernel
theorem dX10_addLetter_74 : decode cX10_addLetter 74 = .ok (.ireturn, 1) := by decide +kernel
theorem dX10_setLetter_0 : decode cX10_setLetter 0 = .ok (.aload_n 0, 1) := by decide +kernel
theorem dX10_setLetter_1 : decode cX10_setLetter 1 = .ok (.getfield 10, 3) := by decide +kernel
theorem dX10_setLetter_4 : decode cX10_setLetter 4 = .ok (.getfield 39, 3) := by decide +kernel
theorem dX10_setLetter_7 : decode cX10_setLetter 7 = .ok (.iload_n 1, 1) := by decide +kernel
theorem dX10_setLetter_8 : decode cX10_setLetter 8 = .ok (.invokevirtual 107, 3) := by decide +kernel
theorem dX10_setLetter_11 : decode cX10_setLetter 11 = .ok (.ifCond .ne 13, 3) := by decide +kernel
theorem dX10_setLetter_14 : decode cX10_setLetter 14 = .ok (.new 110, 3) := by decide +kernel
theorem dX10_setLetter_17 : decode cX10_setLetter 17 = .ok (.dup, 1) := by decide +kernel
theorem dX10_setLetter_18 : decode cX10_setLetter 18 = .ok (.ldc 112, 2) := by decide +kernel
theorem dX10_setLetter_20 : decode cX10_setLetter 20 = .ok (.invokespecial 114, 3) := by decide +kernel
theorem dX10_setLetter_23 : decode cX10_setLetter 23 = .ok (.athrow, 1) := by decide +kernel
theorem dX10_setLetter_24 : decode cX10_setLetter 24 = .ok (.iload_n 2, 1) := by decide +kernel
theorem dX10_setLetter_25 : decode cX10_setLetter 25 = .ok (.invokestatic 77, 3) := by decide +kernel
theorem dX10_setLetter_28 : decode cX10_setLetter 28 = .ok (.ifCond .ne 13, 3) := by decide +kernel
theorem dX10_setLetter_31 : decode cX10_setLetter 31 = .ok (.new 81, 3) := by decide +kernel
theorem dX10_setLetter_34 : decode cX10_setLetter 34 = .ok (.dup, 1) := by decide +kernel
theorem dX10_setLetter_35 : decode cX10_setLetter 35 = .ok (.ldc 83, 2) := by decide +kernel
theorem dX10_setLetter_37 : decode cX10_setLetter 37 = .ok (.invokespecial 85, 3) := by decide +kernel
theorem dX10_setLetter_40 : decode cX10_setLetter 40 = .ok (.athrow, 1) := by decide +kernel
theorem dX10_setLetter_41 : decode cX10_setLetter 41 = .ok (.aload_n 0, 1) := by decide +kernel
theorem dX10_setLetter_42 : decode cX10_setLetter 42 = .ok (.getfield 26, 3) := by decide +kernel
theorem dX10_setLetter_45 : decode cX10_setLetter 45 = .ok (.aload_n 0, 1) := by decide +kernel
theorem dX10_setLetter_46 : decode cX10_setLetter 46 = .ok (.getfield 10, 3) := by decide +kernel
theorem dX10_setLetter_49 : decode cX10_setLetter 49 = .ok (.invokevirtual 99, 3) := by decide +kernel
theorem dX10_setLetter_52 : decode cX10_setLetter 52 = .ok (.aload_n 0, 1) := by decide +kernel
theorem dX10_setLetter_53 : decode cX10_setLetter 53 = .ok (.getfield 10, 3) := by decide +kernel
theorem dX10_setLetter_56 : decode cX10_setLetter 56 = .ok (.getfield 39, 3) := by decide +kernel
theorem dX10_setLetter_59 : decode cX10_setLetter 59 = .ok (.iload_n 1, 1) := by decide +kernel
theorem dX10_setLetter_60 : decode cX10_setLetter 60 = .ok (.invokevirtual 115, 3) := by decide +kernel
theorem dX10_setLetter_63 : decode cX10_setLetter 63 = .ok (.istore_n 3, 1) := by decide +kernel
theorem dX10_setLetter_64 : decode cX10_setLetter 64 = .ok (.aload_n 0, 1) := by decide +kernel
theorem dX10_setLetter_65 : decode cX10_setLetter 65 = .ok (.getfield 10, 3) := by decide +kernel
theorem dX10_setLetter_68 : decode cX10_setLetter 68 = .ok (.getfield 39, 3) := by decide +kernel
theorem dX10_setLetter_71 : decode cX10_setLetter 71 = .ok (.iload_n 1, 1) := by decide +kernel
theorem dX10_setLetter_72 : decode cX10_setLetter 72 = .ok (.iload_n 2, 1) := by decide +kernel
theorem dX10_setLetter_73 : decode cX10_setLetter 73 = .ok (.invokevirtual 119, 3) := by decide +kernel
theorem dX10_setLetter_76 : decode cX10_setLetter 76 = .ok (.iload_n 3, 1) := by decide +kernel
theorem dX10_setLetter_77 : decode cX10_setLetter 77 = .ok (.ireturn, 1) := by decide +kernel
theorem dX10_emptyText_0 : decode cX10_emptyText 0 = .ok (.aload_n 0, 1) := by decide +kernel
theorem dX10_emptyText_1 : decode cX10_emptyText 1 = .ok (.getfield 26, 3) := by decide +kernel
theorem dX10_emptyText_4 : decode cX10_emptyText 4 = .ok (.aload_n 0, 1) := by decide +kernel
theorem dX10_emptyText_5 : decode cX10_emptyText 5 = .ok (.getfield 10, 3) := by decide +kernel
theorem dX10_emptyText_8 : decode cX10_emptyText 8 = .ok (.invokevirtual 99, 3) := by decide +kernel
theorem dX10_emptyText_11 : decode cX10_emptyText 11 = .ok (.aload_n 0, 1) := by decide +kernel
theorem dX10_emptyText_12 : decode cX10_emptyText 12 = .ok (.getfield 10, 3) := by decide +kernel
theorem dX10_emptyText_15 : decode cX10_emptyText 15 = .ok (.getfield 39, 3) := by decide +kernel
theorem dX10_emptyText_18 : decode cX10_emptyText 18 = .ok (.getfield 88, 3) := by decide +kernel
theorem dX10_emptyText_21 : decode cX10_emptyText 21 = .ok (.istore_n 1, 1) := by decide +kernel
theorem dX10_emptyText_22 : decode cX10_emptyText 22 = .ok (.aload_n 0, 1) := by decide +kernel
theorem dX10_emptyText_23 : decode cX10_emptyText 23 = .ok (.getfield 10, 3) := by decide +kernel
theorem dX10_emptyText_26 : decode cX10_emptyText 26 = .ok (.getfield 39, 3) := by decide +kernel
theorem dX10_emptyText_29 : decode cX10_emptyText 29 = .ok (.invokevirtual 123, 3) := by decide +kernel
theorem dX10_emptyText_32 : decode cX10_emptyText 32 = .ok (.iload_n 1, 1) := by decide +kernel
theorem dX10_emptyText_33 : decode cX10_emptyText 33 = .ok (.ireturn, 1) := by decide +kernel
theorem dX10_isBetween_0 : decode cX10_isBetween 0 = .ok (.iload_n 0, 1) := by decide +kernel
theorem dX10_isBetween_1 : decode cX10_isBetween 1 = .ok (.iload_n 1, 1) := by decide +kernel
theorem dX10_isBetween_2 : decode cX10_isBetween 2 = .ok (.if_icmp .lt 12, 3) := by decide +kernel
theorem dX10_isBetween_5 : decode cX10_isBetween 5 = .ok (.iload_n 0, 1) := by decide +kernel
theorem dX10_isBetween_6 : decode cX10_isBetween 6 = .ok (.iload_n 2, 1) := by decide +kernel
theorem dX10_isBetween_7 : decode cX10_isBetween 7 = .ok (.if_icmp .gt 7, 3) := by decide +kernel
theorem dX10_isBetween_10 : decode cX10_isBetween 10 = .ok (.iconst 1, 1) := by decide +kernel
theorem dX10_isBetween_11 : decode cX10_isBetween 11 = .ok (.goto 4, 3) := by decide +kernel
theorem dX10_isBetween_14 : decode cX10_isBetween 14 = .ok (.iconst 0, 1) := by decide +kernel
theorem dX10_isBetween_15 : decode cX10_isBetween 15 = .ok (.ireturn, 1) := by decide +kernel
theorem dX10_setWindow_0 : decode cX10_setWindow 0 = .ok (.iload_n 1, 1) := by decide +kernel
theorem dX10_setWindow_1 : decode cX10_setWindow 1 = .ok (.iconst 1, 1) := by decide +kernel
theorem dX10_setWindow_2 : decode cX10_setWindow 2 = .ok (.bipush 32, 2) := by decide +kernel
theorem dX10_setWindow_4 : decode cX10_setWindow 4 = .ok (.invokestatic 126, 3) := by decide +kernel
theorem dX10_setWindow_7 : decode cX10_setWindow 7 = .ok (.ifCond .ne 13, 3) := by decide +kernel
theorem dX10_setWindow_10 : decode cX10_setWindow 10 = .ok (.new 81, 3) := by decide +kernel
theorem dX10_setWindow_13 : decode cX10_setWindow 13 = .ok (.dup, 1) := by decide +kernel
theorem dX10_setWindow_14 : decode cX10_setWindow 14 = .ok (.ldc 130, 2) := by decide +kernel
theorem dX10_setWindow_16 : decode cX10_setWindow 16 = .ok (.invokespecial 85, 3) := by decide +kernel
theorem dX10_setWindow_19 : decode cX10_setWindow 19 = .ok (.athrow, 1) := by decide +kernel
theorem dX10_setWindow_20 : decode cX10_setWindow 20 = .ok (.aload_n 0, 1) := by decide +kernel
theorem dX10_setWindow_21 : decode cX10_setWindow 21 = .ok (.getfield 26, 3) := by decide +kernel
theorem dX10_setWindow_24 : decode cX10_setWindow 24 = .ok (.aload_n 0, 1) := by decide +kernel
theorem dX10_setWindow_25 : decode cX10_setWindow 25 = .ok (.getfield 10, 3) := by decide +kernel
theorem dX10_setWindow_28 : decode cX10_setWindow 28 = .ok (.invokevirtual 99, 3) := by decide +kernel
theorem dX10_setWindow_31 : decode cX10_setWindow 31 = .ok (.aload_n 0, 1) := by decide +kernel
theorem dX10_setWindow_32 : decode cX10_setWindow 32 = .ok (.getfield 10, 3) := by decide +kernel
theorem dX10_setWindow_35 : decode cX10_setWindow 35 = .ok (.getfield 43, 3) := by decide +kernel
theorem dX10_setWindow_38 : decode cX10_setWindow 38 = .ok (.getfield 132, 3) := by decide +kernel
theorem dX10_setWindow_41 : decode cX10_setWindow 41 = .ok (.istore_n 2, 1) := by decide +kernel
theorem dX10_setWindow_42 : decode cX10_setWindow 42 = .ok (.aload_n 0, 1) := by decide +kernel
theorem dX10_setWindow_43 : decode cX10_setWindow 43 = .ok (.getfield 10, 3) := by decide +kernel
theorem dX10_setWindow_46 : decode cX10_setWindow 46 = .ok (.getfield 43, 3) := by decide +kernel
theorem dX10_setWindow_49 : decode cX10_setWindow 49 = .ok (.iload_n 1, 1) := by decide +kernel
theorem dX10_setWindow_50 : decode cX10_setWindow 50 = .ok (.putfield 132, 3) := by decide +kernel
theorem dX10_setWindow_53 : decode cX10_setWindow 53 = .ok (.iload_n 2, 1) := by decide +kernel
theorem dX10_setWindow_54 : decode cX10_setWindow 54 = .ok (.ireturn, 1) := by decide +kernel
theorem dX10_setShortest_0 : decode cX10_setShortest 0 = .ok (.iload_n 1, 1) := by decide +kernel
theorem dX10_setShortest_1 : decode cX10_setShortest 1 = .ok (.iconst 2, 1) := by decide +kernel
theorem dX10_setShortest_2 : decode cX10_setShortest 2 = .ok (.iconst 4, 1) := by decide +kernel
theorem dX10_setShortest_3 : decode cX10_setShortest 3 = .ok (.invokestatic 126, 3) := by decide +kernel
theorem dX10_setShortest_6 : decode cX10_setShortest 6 = .ok (.ifCond .ne 13, 3) := by decide +kernel
theorem dX10_setShortest_9 : decode cX10_setShortest 9 = .ok (.new 81, 3) := by decide +kernel
theorem dX10_setShortest_12 : decode cX10_setShortest 12 = .ok (.dup, 1) := by decide +kernel
theorem dX10_setShortest_13 : decode cX10_setShortest 13 = .ok (.ldc 137, 2) := by decide +kernel
theorem dX10_setShortest_15 : decode cX10_setShortest 15 = .ok (.invokespecial 85, 3) := by decide +kernel
theorem dX10_setShortest_18 : decode cX10_setShortest 18 = .ok (.athrow, 1) := by decide +kernel
theorem dX10_setShortest_19 : decode cX10_setShortest 19 = .ok (.aload_n 0, 1) := by decide +kernel
theorem dX10_setShortest_20 : decode cX10_setShortest 20 = .ok (.getfield 26, 3) := by decide +kernel
theorem dX10_setShortest_23 : decode cX10_setShortest 23 = .ok (.aload_n 0, 1) := by decide +kernel
theorem dX10_setShortest_24 : decode cX10_setShortest 24 = .ok (.getfield 10, 3) := by decide +kernel
theorem dX10_setShortest_27 : decode cX10_setShortest 27 = .ok (.invokevirtual 99, 3) := by decide +kernel
theorem dX10_setShortest_30 : decode cX10_setShortest 30 = .ok (.aload_n 0, 1) := by decide +kernel
theorem dX10_setShortest_31 : decode cX10_setShortest 31 = .ok (.getfield 10, 3) := by decide +kernel
theorem dX10_setShortest_34 : decode cX10_setShortest 34 = .ok (.getfield 43, 3) := by decide +kernel
theorem dX10_setShortest_37 : decode cX10_setShortest 37 = .ok (.getfield 139, 3) := by decide +kernel
theorem dX10_setShortest_40 : decode cX10_setShortest 40 = .ok (.istore_n 2, 1) := by decide +kernel
theorem dX10_setShortest_41 : decode cX10_setShortest 41 = .ok (.aload_n 0, 1) := by decide +kernel
theorem dX10_setShortest_42 : decode cX10_setShortest 42 = .ok (.getfield 10, 3) := by decide +kernel
theorem dX10_setShortest_45 : decode cX10_setShortest 45 = .ok (.getfield 43, 3) := by decide +kernel
theorem dX10_setShortest_48 : decode cX10_setShortest 48 = .ok (.iload_n 1, 1) := by decide +kernel
theorem dX10_setShortest_49 : decode cX10_setShortest 49 = .ok (.putfield 139, 3) := by decide +kernel
theorem dX10_setShortest_52 : decode cX10_setShortest 52 = .ok (.iload_n 2, 1) := by decide +kernel
theorem dX10_setShortest_53 : decode cX10_setShortest 53 = .ok (.ireturn, 1) := by decide +kernel
theorem dX10_setLongest_0 : decode cX10_setLongest 0 = .ok (.iload_n 1, 1) := by decide +kernel
theorem dX10_setLongest_1 : decode cX10_setLongest 1 = .ok (.iconst 4, 1) := by decide +kernel
theorem dX10_setLongest_2 : decode cX10_setLongest 2 = .ok (.bipush 9, 2) := by decide +kernel
theorem dX10_setLongest_4 : decode cX10_setLongest 4 = .ok (.invokestatic 126, 3) := by decide +kernel
theorem dX10_setLongest_7 : decode cX10_setLongest 7 = .ok (.ifCond .ne 13, 3) := by decide +kernel
theorem dX10_setLongest_10 : decode cX10_setLongest 10 = .ok (.new 81, 3) := by decide +kernel
theorem dX10_setLongest_13 : decode cX10_setLongest 13 = .ok (.dup, 1) := by decide +kernel
theorem dX10_setLongest_14 : decode cX10_setLongest 14 = .ok (.ldc 137, 2) := by decide +kernel
theorem dX10_setLongest_16 : decode cX10_setLongest 16 = .ok (.invokespecial 85, 3) := by decide +kernel
theorem dX10_setLongest_19 : decode cX10_setLongest 19 = .ok (.athrow, 1) := by decide +kernel
theorem dX10_setLongest_20 : decode cX10_setLongest 20 = .ok (.aload_n 0, 1) := by decide +kernel
theorem dX10_setLongest_21 : decode cX10_setLongest 21 = .ok (.getfield 26, 3) := by decide +kernel
theorem dX10_setLongest_24 : decode cX10_setLongest 24 = .ok (.aload_n 0, 1) := by decide +kernel
theorem dX10_setLongest_25 : decode cX10_setLongest 25 = .ok (.getfield 10, 3) := by decide +kernel
theorem dX10_setLongest_28 : decode cX10_setLongest 28 = .ok (.invokevirtual 99, 3) := by decide +kernel
theorem dX10_setLongest_31 : decode cX10_setLongest 31 = .ok (.aload_n 0, 1) := by decide +kernel
theorem dX10_setLongest_32 : decode cX10_setLongest 32 = .ok (.getfield 10, 3) := by decide +kernel
theorem dX10_setLongest_35 : decode cX10_setLongest 35 = .ok (.getfield 43, 3) := by decide +kernel
theorem dX10_setLongest_38 : decode cX10_setLongest 38 = .ok (.getfield 142, 3) := by decide +kernel
theorem dX10_setLongest_41 : decode cX10_setLongest 41 = .ok (.istore_n 2, 1) := by decide +kernel
theorem dX10_setLongest_42 : decode cX10_setLongest 42 = .ok (.aload_n 0, 1) := by decide +kernel
theorem dX10_setLongest_43 : decode cX10_setLongest 43 = .ok (.getfield 10, 3) := by decide +kernel
theorem dX10_setLongest_46 : decode cX10_setLongest 46 = .ok (.getfield 43, 3) := by decide +kernel
theorem dX10_setLongest_49 : decode cX10_setLongest 49 = .ok (.iload_n 1, 1) := by decide +kernel
theorem dX10_setLongest_50 : decode cX10_setLongest 50 = .ok (.putfield 142, 3) := by decide +kernel
theorem dX10_setLongest_53 : decode cX10_setLongest 53 = .ok (.iload_n 2, 1) := by decide +kernel
theorem dX10_setLongest_54 : decode cX10_setLongest 54 = .ok (.ireturn, 1) := by decide +kernel
theorem dX10_setLetterPrice_0 : decode cX10_setLetterPrice 0 = .ok (.iload_n 1, 1) := by decide +kernel
theorem dX10_setLetterPrice_1 : decode cX10_setLetterPrice 1 = .ok (.iconst 1, 1) := by decide +kernel
theorem dX10_setLetterPrice_2 : decode cX10_setLetterPrice 2 = .ok (.bipush 9, 2) := by decide +kernel
theorem dX10_setLetterPrice_4 : decode cX10_setLetterPrice 4 = .ok (.invokestatic 126, 3) := by decide +kernel
theorem dX10_setLetterPrice_7 : decode cX10_setLetterPrice 7 = .ok (.ifCond .ne 13, 3) := by decide +kernel
theorem dX10_setLetterPrice_10 : decode cX10_setLetterPrice 10 = .ok (.new 81, 3) := by decide +kernel
theorem dX10_setLetterPrice_13 : decode cX10_setLetterPrice 13 = .ok (.dup, 1) := by decide +kernel
theorem dX10_setLetterPrice_14 : decode cX10_setLetterPrice 14 = .ok (.ldc 145, 2) := by decide +kernel
theorem dX10_setLetterPrice_16 : decode cX10_setLetterPrice 16 = .ok (.invokespecial 85, 3) := by decide +kernel
theorem dX10_setLetterPrice_19 : decode cX10_setLetterPrice 19 = .ok (.athrow, 1) := by decide +kernel
theorem dX10_setLetterPrice_20 : decode cX10_setLetterPrice 20 = .ok (.aload_n 0, 1) := by decide +kernel
theorem dX10_setLetterPrice_21 : decode cX10_setLetterPrice 21 = .ok (.getfield 26, 3) := by decide +kernel
theorem dX10_setLetterPrice_24 : decode cX10_setLetterPrice 24 = .ok (.aload_n 0, 1) := by decide +kernel
theorem dX10_setLetterPrice_25 : decode cX10_setLetterPrice 25 = .ok (.getfield 10, 3) := by decide +kernel
theorem dX10_setLetterPrice_28 : decode cX10_setLetterPrice 28 = .ok (.invokevirtual 99, 3) := by decide +kernel
theorem dX10_setLetterPrice_31 : decode cX10_setLetterPrice 31 = .ok (.aload_n 0, 1) := by decide +kernel
theorem dX10_setLetterPrice_32 : decode cX10_setLetterPrice 32 = .ok (.getfield 10, 3) := by decide +kernel
theorem dX10_setLetterPrice_35 : decode cX10_setLetterPrice 35 = .ok (.getfield 43, 3) := by decide +kernel
theorem dX10_setLetterPrice_38 : decode cX10_setLetterPrice 38 = .ok (.getfield 147, 3) := by decide +kernel
theorem dX10_setLetterPrice_41 : decode cX10_setLetterPrice 41 = .ok (.istore_n 2, 1) := by decide +kernel
theorem dX10_setLetterPrice_42 : decode cX10_setLetterPrice 42 = .ok (.aload_n 0, 1) := by decide +kernel
theorem dX10_setLetterPrice_43 : decode cX10_setLetterPrice 43 = .ok (.getfield 10, 3) := by decide +kernel
theorem dX10_setLetterPrice_46 : decode cX10_setLetterPrice 46 = .ok (.getfield 43, 3) := by decide +kernel
theorem dX10_setLetterPrice_49 : decode cX10_setLetterPrice 49 = .ok (.iload_n 1, 1) := by decide +kernel
theorem dX10_setLetterPrice_50 : decode cX10_setLetterPrice 50 = .ok (.putfield 147, 3) := by decide +kernel
theorem dX10_setLetterPrice_53 : decode cX10_setLetterPrice 53 = .ok (.iload_n 2, 1) := by decide +kernel
theorem dX10_setLetterPrice_54 : decode cX10_setLetterPrice 54 = .ok (.ireturn, 1) := by decide +kernel
theorem dX10_setRepeatPrice_0 : decode cX10_setRepeatPrice 0 = .ok (.iload_n 1, 1) := by decide +kernel
theorem dX10_setRepeatPrice_1 : decode cX10_setRepeatPrice 1 = .ok (.iconst 1, 1) := by decide +kernel
theorem dX10_setRepeatPrice_2 : decode cX10_setRepeatPrice 2 = .ok (.bipush 20, 2) := by decide +kernel
theorem dX10_setRepeatPrice_4 : decode cX10_setRepeatPrice 4 = .ok (.invokestatic 126, 3) := by decide +kernel
theorem dX10_setRepeatPrice_7 : decode cX10_setRepeatPrice 7 = .ok (.ifCond .ne 13, 3) := by decide +kernel
theorem dX10_setRepeatPrice_10 : decode cX10_setRepeatPrice 10 = .ok (.new 81, 3) := by decide +kernel
theorem dX10_setRepeatPrice_13 : decode cX10_setRepeatPrice 13 = .ok (.dup, 1) := by decide +kernel
theorem dX10_setRepeatPrice_14 : decode cX10_setRepeatPrice 14 = .ok (.ldc 145, 2) := by decide +kernel
theorem dX10_setRepeatPrice_16 : decode cX10_setRepeatPrice 16 = .ok (.invokespecial 85, 3) := by decide +kernel
theorem dX10_setRepeatPrice_19 : decode cX10_setRepeatPrice 19 = .ok (.athrow, 1) := by decide +kernel
theorem dX10_setRepeatPrice_20 : decode cX10_setRepeatPrice 20 = .ok (.aload_n 0, 1) := by decide +kernel
theorem dX10_setRepeatPrice_21 : decode cX10_setRepeatPrice 21 = .ok (.getfield 26, 3) := by decide +kernel
theorem dX10_setRepeatPrice_24 : decode cX10_setRepeatPrice 24 = .ok (.aload_n 0, 1) := by decide +kernel
theorem dX10_setRepeatPrice_25 : decode cX10_setRepeatPrice 25 = .ok (.getfield 10, 3) := by decide +kernel
theorem dX10_setRepeatPrice_28 : decode cX10_setRepeatPrice 28 = .ok (.invokevirtual 99, 3) := by decide +kernel
theorem dX10_setRepeatPrice_31 : decode cX10_setRepeatPrice 31 = .ok (.aload_n 0, 1) := by decide +kernel
theorem dX10_setRepeatPrice_32 : decode cX10_setRepeatPrice 32 = .ok (.getfield 10, 3) := by decide +kernel
theorem dX10_setRepeatPrice_35 : decode cX10_setRepeatPrice 35 = .ok (.getfield 43, 3) := by decide +kernel
theorem dX10_setRepeatPrice_38 : decode cX10_setRepeatPrice 38 = .ok (.getfield 150, 3) := by decide +kernel
theorem dX10_setRepeatPrice_41 : decode cX10_setRepeatPrice 41 = .ok (.istore_n 2, 1) := by decide +kernel
theorem dX10_setRepeatPrice_42 : decode cX10_setRepeatPrice 42 = .ok (.aload_n 0, 1) := by decide +kernel
theorem dX10_setRepeatPrice_43 : decode cX10_setRepeatPrice 43 = .ok (.getfield 10, 3) := by decide +kernel
theorem dX10_setRepeatPrice_46 : decode cX10_setRepeatPrice 46 = .ok (.getfield 43, 3) := by decide +kernel
theorem dX10_setRepeatPrice_49 : decode cX10_setRepeatPrice 49 = .ok (.iload_n 1, 1) := by decide +kernel
theorem dX10_setRepeatPrice_50 : decode cX10_setRepeatPrice 50 = .ok (.putfield 150, 3) := by decide +kernel
theorem dX10_setRepeatPrice_53 : decode cX10_setRepeatPrice 53 = .ok (.iload_n 2, 1) := by decide +kernel
theorem dX10_setRepeatPrice_54 : decode cX10_setRepeatPrice 54 = .ok (.ireturn, 1) := by decide +kernel
theorem dX10_isWay_0 : decode cX10_isWay 0 = .ok (.iload_n 0, 1) := by decide +kernel
theorem dX10_isWay_1 : decode cX10_isWay 1 = .ok (.ifCond .lt 12, 3) := by decide +kernel
theorem dX10_isWay_4 : decode cX10_isWay 4 = .ok (.iload_n 0, 1) := by decide +kernel
theorem dX10_isWay_5 : decode cX10_isWay 5 = .ok (.iconst 2, 1) := by decide +kernel
theorem dX10_isWay_6 : decode cX10_isWay 6 = .ok (.if_icmp .gt 7, 3) := by decide +kernel
theorem dX10_isWay_9 : decode cX10_isWay 9 = .ok (.iconst 1, 1) := by decide +kernel
theorem dX10_isWay_10 : decode cX10_isWay 10 = .ok (.goto 4, 3) := by decide +kernel
theorem dX10_isWay_13 : decode cX10_isWay 13 = .ok (.iconst 0, 1) := by decide +kernel
theorem dX10_isWay_14 : decode cX10_isWay 14 = .ok (.ireturn, 1) := by decide +kernel
theorem dX10_pack_0 : decode cX10_pack 0 = .ok (.iload_n 1, 1) := by decide +kernel
theorem dX10_pack_1 : decode cX10_pack 1 = .ok (.invokestatic 153, 3) := by decide +kernel
theorem dX10_pack_4 : decode cX10_pack 4 = .ok (.ifCond .ne 13, 3) := by decide +kernel
theorem dX10_pack_7 : decode cX10_pack 7 = .ok (.new 81, 3) := by decide +kernel
theorem dX10_pack_10 : decode cX10_pack 10 = .ok (.dup, 1) := by decide +kernel
theorem dX10_pack_11 : decode cX10_pack 11 = .ok (.ldc 156, 2) := by decide +kernel
theorem dX10_pack_13 : decode cX10_pack 13 = .ok (.invokespecial 85, 3) := by decide +kernel
theorem dX10_pack_16 : decode cX10_pack 16 = .ok (.athrow, 1) := by decide +kernel
theorem dX10_pack_17 : decode cX10_pack 17 = .ok (.aload_n 0, 1) := by decide +kernel
theorem dX10_pack_18 : decode cX10_pack 18 = .ok (.getfield 26, 3) := by decide +kernel
theorem dX10_pack_21 : decode cX10_pack 21 = .ok (.aload_n 0, 1) := by decide +kernel
theorem dX10_pack_22 : decode cX10_pack 22 = .ok (.getfield 10, 3) := by decide +kernel
theorem dX10_pack_25 : decode cX10_pack 25 = .ok (.invokevirtual 99, 3) := by decide +kernel
theorem dX10_pack_28 : decode cX10_pack 28 = .ok (.aload_n 0, 1) := by decide +kernel
theorem dX10_pack_29 : decode cX10_pack 29 = .ok (.getfield 59, 3) := by decide +kernel
theorem dX10_pack_32 : decode cX10_pack 32 = .ok (.iload_n 1, 1) := by decide +kernel
theorem dX10_pack_33 : decode cX10_pack 33 = .ok (.aload_n 0, 1) := by decide +kernel
theorem dX10_pack_34 : decode cX10_pack 34 = .ok (.getfield 10, 3) := by decide +kernel
theorem dX10_pack_37 : decode cX10_pack 37 = .ok (.getfield 158, 3) := by decide +kernel
theorem dX10_pack_40 : decode cX10_pack 40 = .ok (.invokevirtual 161, 3) := by decide +kernel
theorem dX10_pack_43 : decode cX10_pack 43 = .ok (.aload_n 0, 1) := by decide +kernel
theorem dX10_pack_44 : decode cX10_pack 44 = .ok (.getfield 10, 3) := by decide +kernel
theorem dX10_pack_47 : decode cX10_pack 47 = .ok (.getfield 158, 3) := by decide +kernel
theorem dX10_pack_50 : decode cX10_pack 50 = .ok (.getfield 165, 3) := by decide +kernel
theorem dX10_pack_53 : decode cX10_pack 53 = .ok (.ireturn, 1) := by decide +kernel
theorem dX10_unpack_0 : decode cX10_unpack 0 = .ok (.aload_n 0, 1) := by decide +kernel
theorem dX10_unpack_1 : decode cX10_unpack 1 = .ok (.getfield 73, 3) := by decide +kernel
theorem dX10_unpack_4 : decode cX10_unpack 4 = .ok (.aload_n 0, 1) := by decide +kernel
theorem dX10_unpack_5 : decode cX10_unpack 5 = .ok (.getfield 10, 3) := by decide +kernel
theorem dX10_unpack_8 : decode cX10_unpack 8 = .ok (.getfield 158, 3) := by decide +kernel
theorem dX10_unpack_11 : decode cX10_unpack 11 = .ok (.invokevirtual 166, 3) := by decide +kernel
theorem dX10_unpack_14 : decode cX10_unpack 14 = .ok (.aload_n 0, 1) := by decide +kernel
theorem dX10_unpack_15 : decode cX10_unpack 15 = .ok (.getfield 73, 3) := by decide +kernel
theorem dX10_unpack_18 : decode cX10_unpack 18 = .ok (.getfield 170, 3) := by decide +kernel
theorem dX10_unpack_21 : decode cX10_unpack 21 = .ok (.ifCond .eq 13, 3) := by decide +kernel
theorem dX10_unpack_24 : decode cX10_unpack 24 = .ok (.new 94, 3) := by decide +kernel
theorem dX10_unpack_27 : decode cX10_unpack 27 = .ok (.dup, 1) := by decide +kernel
theorem dX10_unpack_28 : decode cX10_unpack 28 = .ok (.ldc 173, 2) := by decide +kernel
theorem dX10_unpack_30 : decode cX10_unpack 30 = .ok (.invokespecial 98, 3) := by decide +kernel
theorem dX10_unpack_33 : decode cX10_unpack 33 = .ok (.athrow, 1) := by decide +kernel
theorem dX10_unpack_34 : decode cX10_unpack 34 = .ok (.aload_n 0, 1) := by decide +kernel
theorem dX10_unpack_35 : decode cX10_unpack 35 = .ok (.getfield 26, 3) := by decide +kernel
theorem dX10_unpack_38 : decode cX10_unpack 38 = .ok (.aload_n 0, 1) := by decide +kernel
theorem dX10_unpack_39 : decode cX10_unpack 39 = .ok (.getfield 10, 3) := by decide +kernel
theorem dX10_unpack_42 : decode cX10_unpack 42 = .ok (.invokevirtual 99, 3) := by decide +kernel
theorem dX10_unpack_45 : decode cX10_unpack 45 = .ok (.aload_n 0, 1) := by decide +kernel
theorem dX10_unpack_46 : decode cX10_unpack 46 = .ok (.getfield 10, 3) := by decide +kernel
theorem dX10_unpack_49 : decode cX10_unpack 49 = .ok (.getfield 39, 3) := by decide +kernel
theorem dX10_unpack_52 : decode cX10_unpack 52 = .ok (.aload_n 0, 1) := by decide +kernel
theorem dX10_unpack_53 : decode cX10_unpack 53 = .ok (.getfield 73, 3) := by decide +kernel
theorem dX10_unpack_56 : decode cX10_unpack 56 = .ok (.getfield 175, 3) := by decide +kernel
theorem dX10_unpack_59 : decode cX10_unpack 59 = .ok (.invokevirtual 178, 3) := by decide +kernel
theorem dX10_unpack_62 : decode cX10_unpack 62 = .ok (.aload_n 0, 1) := by decide +kernel
theorem dX10_unpack_63 : decode cX10_unpack 63 = .ok (.getfield 10, 3) := by decide +kernel
theorem dX10_unpack_66 : decode cX10_unpack 66 = .ok (.getfield 39, 3) := by decide +kernel
theorem dX10_unpack_69 : decode cX10_unpack 69 = .ok (.getfield 88, 3) := by decide +kernel
theorem dX10_unpack_72 : decode cX10_unpack 72 = .ok (.ireturn, 1) := by decide +kernel
theorem dX10_addToken_0 : decode cX10_addToken 0 = .ok (.iload_n 1, 1) := by decide +kernel
theorem dX10_addToken_1 : decode cX10_addToken 1 = .ok (.invokestatic 77, 3) := by decide +kernel
theorem dX10_addToken_4 : decode cX10_addToken 4 = .ok (.ifCond .ne 13, 3) := by decide +kernel
theorem dX10_addToken_7 : decode cX10_addToken 7 = .ok (.new 81, 3) := by decide +kernel
theorem dX10_addToken_10 : decode cX10_addToken 10 = .ok (.dup, 1) := by decide +kernel
theorem dX10_addToken_11 : decode cX10_addToken 11 = .ok (.ldc 83, 2) := by decide +kernel
theorem dX10_addToken_13 : decode cX10_addToken 13 = .ok (.invokespecial 85, 3) := by decide +kernel
theorem dX10_addToken_16 : decode cX10_addToken 16 = .ok (.athrow, 1) := by decide +kernel
theorem dX10_addToken_17 : decode cX10_addToken 17 = .ok (.aload_n 0, 1) := by decide +kernel
theorem dX10_addToken_18 : decode cX10_addToken 18 = .ok (.getfield 10, 3) := by decide +kernel
theorem dX10_addToken_21 : decode cX10_addToken 21 = .ok (.getfield 158, 3) := by decide +kernel
theorem dX10_addToken_24 : decode cX10_addToken 24 = .ok (.invokevirtual 182, 3) := by decide +kernel
theorem dX10_addToken_27 : decode cX10_addToken 27 = .ok (.ifCond .eq 13, 3) := by decide +kernel
theorem dX10_addToken_30 : decode cX10_addToken 30 = .ok (.new 94, 3) := by decide +kernel
theorem dX10_addToken_33 : decode cX10_addToken 33 = .ok (.dup, 1) := by decide +kernel
theorem dX10_addToken_34 : decode cX10_addToken 34 = .ok (.ldc 186, 2) := by decide +kernel
theorem dX10_addToken_36 : decode cX10_addToken 36 = .ok (.invokespecial 98, 3) := by decide +kernel
theorem dX10_addToken_39 : decode cX10_addToken 39 = .ok (.athrow, 1) := by decide +kernel
theorem dX10_addToken_40 : decode cX10_addToken 40 = .ok (.aload_n 0, 1) := by decide +kernel
theorem dX10_addToken_41 : decode cX10_addToken 41 = .ok (.getfield 26, 3) := by decide +kernel
theorem dX10_addToken_44 : decode cX10_addToken 44 = .ok (.aload_n 0, 1) := by decide +kernel
theorem dX10_addToken_45 : decode cX10_addToken 45 = .ok (.getfield 10, 3) := by decide +kernel
theorem dX10_addToken_48 : decode cX10_addToken 48 = .ok (.invokevirtual 99, 3) := by decide +kernel
theorem dX10_addToken_51 : decode cX10_addToken 51 = .ok (.aload_n 0, 1) := by decide +kernel
theorem dX10_addToken_52 : decode cX10_addToken 52 = .ok (.getfield 10, 3) := by decide +kernel
theorem dX10_addToken_55 : decode cX10_addToken 55 = .ok (.getfield 158, 3) := by decide +kernel
theorem dX10_addToken_58 : decode cX10_addToken 58 = .ok (.iconst 0, 1) := by decide +kernel
theorem dX10_addToken_59 : decode cX10_addToken 59 = .ok (.iload_n 1, 1) := by decide +kernel
theorem dX10_addToken_60 : decode cX10_addToken 60 = .ok (.invokevirtual 188, 3) := by decide +kernel
theorem dX10_addToken_63 : decode cX10_addToken 63 = .ok (.aload_n 0, 1) := by decide +kernel
theorem dX10_addToken_64 : decode cX10_addToken 64 = .ok (.getfield 10, 3) := by decide +kernel
theorem dX10_addToken_67 : decode cX10_addToken 67 = .ok (.getfield 158, 3) := by decide +kernel
theorem dX10_addToken_70 : decode cX10_addToken 70 = .ok (.getfield 165, 3) := by decide +kernel
theorem dX10_addToken_73 : decode cX10_addToken 73 = .ok (.ireturn, 1) := by decide +kernel
theorem dX10_addRepeat_0 : decode cX10_addRepeat 0 = .ok (.iload_n 1, 1) := by decide +kernel
theorem dX10_addRepeat_1 : decode cX10_addRepeat 1 = .ok (.iconst 1, 1) := by decide +kernel
theorem dX10_addRepeat_2 : decode cX10_addRepeat 2 = .ok (.bipush 39, 2) := by decide +kernel
theorem dX10_addRepeat_4 : decode cX10_addRepeat 4 = .ok (.invokestatic 126, 3) := by decide +kernel
theorem dX10_addRepeat_7 : decode cX10_addRepeat 7 = .ok (.ifCond .eq 13, 3) := by decide +kernel
theorem dX10_addRepeat_10 : decode cX10_addRepeat 10 = .ok (.iload_n 2, 1) := by decide +kernel
theorem dX10_addRepeat_11 : decode cX10_addRepeat 11 = .ok (.iconst 1, 1) := by decide +kernel
theorem dX10_addRepeat_12 : decode cX10_addRepeat 12 = .ok (.bipush 40, 2) := by decide +kernel
theorem dX10_addRepeat_14 : decode cX10_addRepeat 14 = .ok (.invokestatic 126, 3) := by decide +kernel
theorem dX10_addRepeat_17 : decode cX10_addRepeat 17 = .ok (.ifCond .ne 13, 3) := by decide +kernel
theorem dX10_addRepeat_20 : decode cX10_addRepeat 20 = .ok (.new 81, 3) := by decide +kernel
theorem dX10_addRepeat_23 : decode cX10_addRepeat 23 = .ok (.dup, 1) := by decide +kernel
theorem dX10_addRepeat_24 : decode cX10_addRepeat 24 = .ok (.ldc 190, 2) := by decide +kernel
theorem dX10_addRepeat_26 : decode cX10_addRepeat 26 = .ok (.invokespecial 85, 3) := by decide +kernel
theorem dX10_addRepeat_29 : decode cX10_addRepeat 29 = .ok (.athrow, 1) := by decide +kernel
theorem dX10_addRepeat_30 : decode cX10_addRepeat 30 = .ok (.aload_n 0, 1) := by decide +kernel
theorem dX10_addRepeat_31 : decode cX10_addRepeat 31 = .ok (.getfield 10, 3) := by decide +kernel
theorem dX10_addRepeat_34 : decode cX10_addRepeat 34 = .ok (.getfield 158, 3) := by decide +kernel
theorem dX10_addRepeat_37 : decode cX10_addRepeat 37 = .ok (.invokevirtual 182, 3) := by decide +kernel
theorem dX10_addRepeat_40 : decode cX10_addRepeat 40 = .ok (.ifCond .eq 13, 3) := by decide +kernel
theorem dX10_addRepeat_43 : decode cX10_addRepeat 43 = .ok (.new 94, 3) := by decide +kernel
theorem dX10_addRepeat_46 : decode cX10_addRepeat 46 = .ok (.dup, 1) := by decide +kernel
theorem dX10_addRepeat_47 : decode cX10_addRepeat 47 = .ok (.ldc 186, 2) := by decide +kernel
theorem dX10_addRepeat_49 : decode cX10_addRepeat 49 = .ok (.invokespecial 98, 3) := by decide +kernel
theorem dX10_addRepeat_52 : decode cX10_addRepeat 52 = .ok (.athrow, 1) := by decide +kernel
theorem dX10_addRepeat_53 : decode cX10_addRepeat 53 = .ok (.aload_n 0, 1) := by decide +kernel
theorem dX10_addRepeat_54 : decode cX10_addRepeat 54 = .ok (.getfield 26, 3) := by decide +kernel
theorem dX10_addRepeat_57 : decode cX10_addRepeat 57 = .ok (.aload_n 0, 1) := by decide +kernel
theorem dX10_addRepeat_58 : decode cX10_addRepeat 58 = .ok (.getfield 10, 3) := by decide +kernel
theorem dX10_addRepeat_61 : decode cX10_addRepeat 61 = .ok (.invokevirtual 99, 3) := by decide +kernel
theorem dX10_addRepeat_64 : decode cX10_addRepeat 64 = .ok (.aload_n 0, 1) := by decide +kernel
theorem dX10_addRepeat_65 : decode cX10_addRepeat 65 = .ok (.getfield 10, 3) := by decide +kernel
theorem dX10_addRepeat_68 : decode cX10_addRepeat 68 = .ok (.getfield 158, 3) := by decide +kernel
theorem dX10_addRepeat_71 : decode cX10_addRepeat 71 = .ok (.iload_n 1, 1) := by decide +kernel
theorem dX10_addRepeat_72 : decode cX10_addRepeat 72 = .ok (.iload_n 2, 1) := by decide +kernel
theorem dX10_addRepeat_73 : decode cX10_addRepeat 73 = .ok (.invokevirtual 188, 3) := by decide +kernel
theorem dX10_addRepeat_76 : decode cX10_addRepeat 76 = .ok (.aload_n 0, 1) := by decide +kernel
theorem dX10_addRepeat_77 : decode cX10_addRepeat 77 = .ok (.getfield 10, 3) := by decide +kernel
theorem dX10_addRepeat_80 : decode cX10_addRepeat 80 = .ok (.getfield 158, 3) := by decide +kernel
theorem dX10_addRepeat_83 : decode cX10_addRepeat 83 = .ok (.getfield 165, 3) := by decide +kernel
theorem dX10_addRepeat_86 : decode cX10_addRepeat 86 = .ok (.ireturn, 1) := by decide +kernel
theorem dX10_takeLast_0 : decode cX10_takeLast 0 = .ok (.aload_n 0, 1) := by decide +kernel
theorem dX10_takeLast_1 : decode cX10_takeLast 1 = .ok (.getfield 10, 3) := by decide +kernel
theorem dX10_takeLast_4 : decode cX10_takeLast 4 = .ok (.getfield 158, 3) := by decide +kernel
theorem dX10_takeLast_7 : decode cX10_takeLast 7 = .ok (.getfield 165, 3) := by decide +kernel
theorem dX10_takeLast_10 : decode cX10_takeLast 10 = .ok (.ifCond .gt 13, 3) := by decide +kernel
theorem dX10_takeLast_13 : decode cX10_takeLast 13 = .ok (.new 94, 3) := by decide +kernel
theorem dX10_takeLast_16 : decode cX10_takeLast 16 = .ok (.dup, 1) := by decide +kernel
theorem dX10_takeLast_17 : decode cX10_takeLast 17 = .ok (.ldc 192, 2) := by decide +kernel
theorem dX10_takeLast_19 : decode cX10_takeLast 19 = .ok (.invokespecial 98, 3) := by decide +kernel
theorem dX10_takeLast_22 : decode cX10_takeLast 22 = .ok (.athrow, 1) := by decide +kernel
theorem dX10_takeLast_23 : decode cX10_takeLast 23 = .ok (.aload_n 0, 1) := by decide +kernel
theorem dX10_takeLast_24 : decode cX10_takeLast 24 = .ok (.getfield 26, 3) := by decide +kernel
theorem dX10_takeLast_27 : decode cX10_takeLast 27 = .ok (.aload_n 0, 1) := by decide +kernel
theorem dX10_takeLast_28 : decode cX10_takeLast 28 = .ok (.getfield 10, 3) := by decide +kernel
theorem dX10_takeLast_31 : decode cX10_takeLast 31 = .ok (.invokevirtual 99, 3) := by decide +kernel
theorem dX10_takeLast_34 : decode cX10_takeLast 34 = .ok (.aload_n 0, 1) := by decide +kernel
theorem dX10_takeLast_35 : decode cX10_takeLast 35 = .ok (.getfield 10, 3) := by decide +kernel
theorem dX10_takeLast_38 : decode cX10_takeLast 38 = .ok (.getfield 158, 3) := by decide +kernel
theorem dX10_takeLast_41 : decode cX10_takeLast 41 = .ok (.dup, 1) := by decide +kernel
theorem dX10_takeLast_42 : decode cX10_takeLast 42 = .ok (.getfield 165, 3) := by decide +kernel
theorem dX10_takeLast_45 : decode cX10_takeLast 45 = .ok (.iconst 1, 1) := by decide +kernel
theorem dX10_takeLast_46 : decode cX10_takeLast 46 = .ok (.isub, 1) := by decide +kernel
theorem dX10_takeLast_47 : decode cX10_takeLast 47 = .ok (.putfield 165, 3) := by decide +kernel
theorem dX10_takeLast_50 : decode cX10_takeLast 50 = .ok (.aload_n 0, 1) := by decide +kernel
theorem dX10_takeLast_51 : decode cX10_takeLast 51 = .ok (.getfield 10, 3) := by decide +kernel
theorem dX10_takeLast_54 : decode cX10_takeLast 54 = .ok (.getfield 158, 3) := by decide +kernel
theorem dX10_takeLast_57 : decode cX10_takeLast 57 = .ok (.getfield 165, 3) := by decide +kernel
theorem dX10_takeLast_60 : decode cX10_takeLast 60 = .ok (.ireturn, 1) := by decide +kernel
theorem dX10_emptySack_0 : decode cX10_emptySack 0 = .ok (.aload_n 0, 1) := by decide +kernel
theorem dX10_emptySack_1 : decode cX10_emptySack 1 = .ok (.getfield 26, 3) := by decide +kernel
theorem dX10_emptySack_4 : decode cX10_emptySack 4 = .ok (.aload_n 0, 1) := by decide +kernel
theorem dX10_emptySack_5 : decode cX10_emptySack 5 = .ok (.getfield 10, 3) := by decide +kernel
theorem dX10_emptySack_8 : decode cX10_emptySack 8 = .ok (.invokevirtual 99, 3) := by decide +kernel
theorem dX10_emptySack_11 : decode cX10_emptySack 11 = .ok (.aload_n 0, 1) := by decide +kernel
theorem dX10_emptySack_12 : decode cX10_emptySack 12 = .ok (.getfield 10, 3) := by decide +kernel
theorem dX10_emptySack_15 : decode cX10_emptySack 15 = .ok (.getfield 158, 3) := by decide +kernel
theorem dX10_emptySack_18 : decode cX10_emptySack 18 = .ok (.getfield 165, 3) := by decide +kernel
theorem dX10_emptySack_21 : decode cX10_emptySack 21 = .ok (.istore_n 1, 1) := by decide +kernel
theorem dX10_emptySack_22 : decode cX10_emptySack 22 = .ok (.aload_n 0, 1) := by decide +kernel
theorem dX10_emptySack_23 : decode cX10_emptySack 23 = .ok (.getfield 10, 3) := by decide +kernel
theorem dX10_emptySack_26 : decode cX10_emptySack 26 = .ok (.getfield 158, 3) := by decide +kernel
theorem dX10_emptySack_29 : decode cX10_emptySack 29 = .ok (.invokevirtual 194, 3) := by decide +kernel
theorem dX10_emptySack_32 : decode cX10_emptySack 32 = .ok (.iload_n 1, 1) := by decide +kernel
theorem dX10_emptySack_33 : decode cX10_emptySack 33 = .ok (.ireturn, 1) := by decide +kernel
theorem dX10_textLength_0 : decode cX10_textLength 0 = .ok (.aload_n 0, 1) := by decide +kernel
theorem dX10_textLength_1 : decode cX10_textLength 1 = .ok (.getfield 10, 3) := by decide +kernel
theorem dX10_textLength_4 : decode cX10_textLength 4 = .ok (.getfield 39, 3) := by decide +kernel
theorem dX10_textLength_7 : decode cX10_textLength 7 = .ok (.getfield 88, 3) := by decide +kernel
theorem dX10_textLength_10 : decode cX10_textLength 10 = .ok (.ireturn, 1) := by decide +kernel
theorem dX10_letterAt_0 : decode cX10_letterAt 0 = .ok (.aload_n 0, 1) := by decide +kernel
theorem dX10_letterAt_1 : decode cX10_letterAt 1 = .ok (.getfield 10, 3) := by decide +kernel
theorem dX10_letterAt_4 : decode cX10_letterAt 4 = .ok (.getfield 39, 3) := by decide +kernel
theorem dX10_letterAt_7 : decode cX10_letterAt 7 = .ok (.iload_n 1, 1) := by decide +kernel
theorem dX10_letterAt_8 : decode cX10_letterAt 8 = .ok (.invokevirtual 107, 3) := by decide +kernel
theorem dX10_letterAt_11 : decode cX10_letterAt 11 = .ok (.ifCond .ne 13, 3) := by decide +kernel
theorem dX10_letterAt_14 : decode cX10_letterAt 14 = .ok (.new 110, 3) := by decide +kernel
theorem dX10_letterAt_17 : decode cX10_letterAt 17 = .ok (.dup, 1) := by decide +kernel
theorem dX10_letterAt_18 : decode cX10_letterAt 18 = .ok (.ldc 112, 2) := by decide +kernel
theorem dX10_letterAt_20 : decode cX10_letterAt 20 = .ok (.invokespecial 114, 3) := by decide +kernel
theorem dX10_letterAt_23 : decode cX10_letterAt 23 = .ok (.athrow, 1) := by decide +kernel
theorem dX10_letterAt_24 : decode cX10_letterAt 24 = .ok (.aload_n 0, 1) := by decide +kernel
theorem dX10_letterAt_25 : decode cX10_letterAt 25 = .ok (.getfield 10, 3) := by decide +kernel
theorem dX10_letterAt_28 : decode cX10_letterAt 28 = .ok (.getfield 39, 3) := by decide +kernel
theorem dX10_letterAt_31 : decode cX10_letterAt 31 = .ok (.iload_n 1, 1) := by decide +kernel
theorem dX10_letterAt_32 : decode cX10_letterAt 32 = .ok (.invokevirtual 115, 3) := by decide +kernel
theorem dX10_letterAt_35 : decode cX10_letterAt 35 = .ok (.ireturn, 1) := by decide +kernel
theorem dX10_window_0 : decode cX10_window 0 = .ok (.aload_n 0, 1) := by decide +kernel
theorem dX10_window_1 : decode cX10_window 1 = .ok (.getfield 10, 3) := by decide +kernel
theorem dX10_window_4 : decode cX10_window 4 = .ok (.getfield 43, 3) := by decide +kernel
theorem dX10_window_7 : decode cX10_window 7 = .ok (.getfield 132, 3) := by decide +kernel
theorem dX10_window_10 : decode cX10_window 10 = .ok (.ireturn, 1) := by decide +kernel
theorem dX10_shortest_0 : decode cX10_shortest 0 = .ok (.aload_n 0, 1) := by decide +kernel
theorem dX10_shortest_1 : decode cX10_shortest 1 = .ok (.getfield 10, 3) := by decide +kernel
theorem dX10_shortest_4 : decode cX10_shortest 4 = .ok (.getfield 43, 3) := by decide +kernel
theorem dX10_shortest_7 : decode cX10_shortest 7 = .ok (.getfield 139, 3) := by decide +kernel
theorem dX10_shortest_10 : decode cX10_shortest 10 = .ok (.ireturn, 1) := by decide +kernel
theorem dX10_longest_0 : decode cX10_longest 0 = .ok (.aload_n 0, 1) := by decide +kernel
theorem dX10_longest_1 : decode cX10_longest 1 = .ok (.getfield 10, 3) := by decide +kernel
theorem dX10_longest_4 : decode cX10_longest 4 = .ok (.getfield 43, 3) := by decide +kernel
theorem dX10_longest_7 : decode cX10_longest 7 = .ok (.getfield 142, 3) := by decide +kernel
theorem dX10_longest_10 : decode cX10_longest 10 = .ok (.ireturn, 1) := by decide +kernel
theorem dX10_tokens_0 : decode cX10_tokens 0 = .ok (.aload_n 0, 1) := by decide +kernel
theorem dX10_tokens_1 : decode cX10_tokens 1 = .ok (.getfield 10, 3) := by decide +kernel
theorem dX10_tokens_4 : decode cX10_tokens 4 = .ok (.getfield 158, 3) := by decide +kernel
theorem dX10_tokens_7 : decode cX10_tokens 7 = .ok (.getfield 165, 3) := by decide +kernel
theorem dX10_tokens_10 : decode cX10_tokens 10 = .ok (.ireturn, 1) := by decide +kernel
theorem dX10_isRepeat_0 : decode cX10_isRepeat 0 = .ok (.aload_n 0, 1) := by decide +kernel
theorem dX10_isRepeat_1 : decode cX10_isRepeat 1 = .ok (.getfield 10, 3) := by decide +kernel
theorem dX10_isRepeat_4 : decode cX10_isRepeat 4 = .ok (.getfield 158, 3) := by decide +kernel
theorem dX10_isRepeat_7 : decode cX10_isRepeat 7 = .ok (.iload_n 1, 1) := by decide +kernel
theorem dX10_isRepeat_8 : decode cX10_isRepeat 8 = .ok (.invokevirtual 235, 3) := by decide +kernel
theorem dX10_isRepeat_11 : decode cX10_isRepeat 11 = .ok (.ifCond .ne 13, 3) := by decide +kernel
theorem dX10_isRepeat_14 : decode cX10_isRepeat 14 = .ok (.new 110, 3) := by decide +kernel
theorem dX10_isRepeat_17 : decode cX10_isRepeat 17 = .ok (.dup, 1) := by decide +kernel
theorem dX10_isRepeat_18 : decode cX10_isRepeat 18 = .ok (.ldc 236, 2) := by decide +kernel
theorem dX10_isRepeat_20 : decode cX10_isRepeat 20 = .ok (.invokespecial 114, 3) := by decide +kernel
theorem dX10_isRepeat_23 : decode cX10_isRepeat 23 = .ok (.athrow, 1) := by decide +kernel
theorem dX10_isRepeat_24 : decode cX10_isRepeat 24 = .ok (.aload_n 0, 1) := by decide +kernel
theorem dX10_isRepeat_25 : decode cX10_isRepeat 25 = .ok (.getfield 10, 3) := by decide +kernel
theorem dX10_isRepeat_28 : decode cX10_isRepeat 28 = .ok (.getfield 158, 3) := by decide +kernel
theorem dX10_isRepeat_31 : decode cX10_isRepeat 31 = .ok (.iload_n 1, 1) := by decide +kernel
theorem dX10_isRepeat_32 : decode cX10_isRepeat 32 = .ok (.invokevirtual 238, 3) := by decide +kernel
theorem dX10_isRepeat_35 : decode cX10_isRepeat 35 = .ok (.ifCond .eq 7, 3) := by decide +kernel
theorem dX10_isRepeat_38 : decode cX10_isRepeat 38 = .ok (.iconst 1, 1) := by decide +kernel
theorem dX10_isRepeat_39 : decode cX10_isRepeat 39 = .ok (.goto 4, 3) := by decide +kernel
theorem dX10_isRepeat_42 : decode cX10_isRepeat 42 = .ok (.iconst 0, 1) := by decide +kernel
theorem dX10_isRepeat_43 : decode cX10_isRepeat 43 = .ok (.ireturn, 1) := by decide +kernel
theorem dX10_letterOf_0 : decode cX10_letterOf 0 = .ok (.aload_n 0, 1) := by decide +kernel
theorem dX10_letterOf_1 : decode cX10_letterOf 1 = .ok (.getfield 10, 3) := by decide +kernel
theorem dX10_letterOf_4 : decode cX10_letterOf 4 = .ok (.getfield 158, 3) := by decide +kernel
theorem dX10_letterOf_7 : decode cX10_letterOf 7 = .ok (.iload_n 1, 1) := by decide +kernel
theorem dX10_letterOf_8 : decode cX10_letterOf 8 = .ok (.invokevirtual 235, 3) := by decide +kernel
theorem dX10_letterOf_11 : decode cX10_letterOf 11 = .ok (.ifCond .ne 13, 3) := by decide +kernel
theorem dX10_letterOf_14 : decode cX10_letterOf 14 = .ok (.new 110, 3) := by decide +kernel
theorem dX10_letterOf_17 : decode cX10_letterOf 17 = .ok (.dup, 1) := by decide +kernel
theorem dX10_letterOf_18 : decode cX10_letterOf 18 = .ok (.ldc 236, 2) := by decide +kernel
theorem dX10_letterOf_20 : decode cX10_letterOf 20 = .ok (.invokespecial 114, 3) := by decide +kernel
theorem dX10_letterOf_23 : decode cX10_letterOf 23 = .ok (.athrow, 1) := by decide +kernel
theorem dX10_letterOf_24 : decode cX10_letterOf 24 = .ok (.aload_n 0, 1) := by decide +kernel
theorem dX10_letterOf_25 : decode cX10_letterOf 25 = .ok (.getfield 10, 3) := by decide +kernel
theorem dX10_letterOf_28 : decode cX10_letterOf 28 = .ok (.getfield 158, 3) := by decide +kernel
theorem dX10_letterOf_31 : decode cX10_letterOf 31 = .ok (.iload_n 1, 1) := by decide +kernel
theorem dX10_letterOf_32 : decode cX10_letterOf 32 = .ok (.invokevirtual 238, 3) := by decide +kernel
theorem dX10_letterOf_35 : decode cX10_letterOf 35 = .ok (.ifCond .eq 13, 3) := by decide +kernel
theorem dX10_letterOf_38 : decode cX10_letterOf 38 = .ok (.new 94, 3) := by decide +kernel
theorem dX10_letterOf_41 : decode cX10_letterOf 41 = .ok (.dup, 1) := by decide +kernel
theorem dX10_letterOf_42 : decode cX10_letterOf 42 = .ok (.ldc 241, 2) := by decide +kernel
theorem dX10_letterOf_44 : decode cX10_letterOf 44 = .ok (.invokespecial 98, 3) := by decide +kernel
theorem dX10_letterOf_47 : decode cX10_letterOf 47 = .ok (.athrow, 1) := by decide +kernel
theorem dX10_letterOf_48 : decode cX10_letterOf 48 = .ok (.aload_n 0, 1) := by decide +kernel
theorem dX10_letterOf_49 : decode cX10_letterOf 49 = .ok (.getfield 10, 3) := by decide +kernel
theorem dX10_letterOf_52 : decode cX10_letterOf 52 = .ok (.getfield 158, 3) := by decide +kernel
theorem dX10_letterOf_55 : decode cX10_letterOf 55 = .ok (.iload_n 1, 1) := by decide +kernel
theorem dX10_letterOf_56 : decode cX10_letterOf 56 = .ok (.invokevirtual 243, 3) := by decide +kernel
theorem dX10_letterOf_59 : decode cX10_letterOf 59 = .ok (.ireturn, 1) := by decide +kernel
theorem dX10_distanceOf_0 : decode cX10_distanceOf 0 = .ok (.aload_n 0, 1) := by decide +kernel
theorem dX10_distanceOf_1 : decode cX10_distanceOf 1 = .ok (.getfield 10, 3) := by decide +kernel
theorem dX10_distanceOf_4 : decode cX10_distanceOf 4 = .ok (.getfield 158, 3) := by decide +kernel
theorem dX10_distanceOf_7 : decode cX10_distanceOf 7 = .ok (.iload_n 1, 1) := by decide +kernel
theorem dX10_distanceOf_8 : decode cX10_distanceOf 8 = .ok (.invokevirtual 235, 3) := by decide +kernel
theorem dX10_distanceOf_11 : decode cX10_distanceOf 11 = .ok (.ifCond .ne 13, 3) := by decide +kernel
theorem dX10_distanceOf_14 : decode cX10_distanceOf 14 = .ok (.new 110, 3) := by decide +kernel
theorem dX10_distanceOf_17 : decode cX10_distanceOf 17 = .ok (.dup, 1) := by decide +kernel
theorem dX10_distanceOf_18 : decode cX10_distanceOf 18 = .ok (.ldc 236, 2) := by decide +kernel
theorem dX10_distanceOf_20 : decode cX10_distanceOf 20 = .ok (.invokespecial 114, 3) := by decide +kernel
theorem dX10_distanceOf_23 : decode cX10_distanceOf 23 = .ok (.athrow, 1) := by decide +kernel
theorem dX10_distanceOf_24 : decode cX10_distanceOf 24 = .ok (.aload_n 0, 1) := by decide +kernel
theorem dX10_distanceOf_25 : decode cX10_distanceOf 25 = .ok (.getfield 10, 3) := by decide +kernel
theorem dX10_distanceOf_28 : decode cX10_distanceOf 28 = .ok (.getfield 158, 3) := by decide +kernel
theorem dX10_distanceOf_31 : decode cX10_distanceOf 31 = .ok (.iload_n 1, 1) := by decide +kernel
theorem dX10_distanceOf_32 : decode cX10_distanceOf 32 = .ok (.invokevirtual 238, 3) := by decide +kernel
theorem dX10_distanceOf_35 : decode cX10_distanceOf 35 = .ok (.ifCond .ne 13, 3) := by decide +kernel
theorem dX10_distanceOf_38 : decode cX10_distanceOf 38 = .ok (.new 94, 3) := by decide +kernel
theorem dX10_distanceOf_41 : decode cX10_distanceOf 41 = .ok (.dup, 1) := by decide +kernel
theorem dX10_distanceOf_42 : decode cX10_distanceOf 42 = .ok (.ldc 246, 2) := by decide +kernel
theorem dX10_distanceOf_44 : decode cX10_distanceOf 44 = .ok (.invokespecial 98, 3) := by decide +kernel
theorem dX10_distanceOf_47 : decode cX10_distanceOf 47 = .ok (.athrow, 1) := by decide +kernel
theorem dX10_distanceOf_48 : decode cX10_distanceOf 48 = .ok (.aload_n 0, 1) := by decide +kernel
theorem dX10_distanceOf_49 : decode cX10_distanceOf 49 = .ok (.getfield 10, 3) := by decide +kernel
theorem dX10_distanceOf_52 : decode cX10_distanceOf 52 = .ok (.getfield 158, 3) := by decide +kernel
theorem dX10_distanceOf_55 : decode cX10_distanceOf 55 = .ok (.iload_n 1, 1) := by decide +kernel
theorem dX10_distanceOf_56 : decode cX10_distanceOf 56 = .ok (.invokevirtual 238, 3) := by decide +kernel
theorem dX10_distanceOf_59 : decode cX10_distanceOf 59 = .ok (.ireturn, 1) := by decide +kernel
theorem dX10_lengthOf_0 : decode cX10_lengthOf 0 = .ok (.aload_n 0, 1) := by decide +kernel
theorem dX10_lengthOf_1 : decode cX10_lengthOf 1 = .ok (.getfield 10, 3) := by decide +kernel
theorem dX10_lengthOf_4 : decode cX10_lengthOf 4 = .ok (.getfield 158, 3) := by decide +kernel
theorem dX10_lengthOf_7 : decode cX10_lengthOf 7 = .ok (.iload_n 1, 1) := by decide +kernel
theorem dX10_lengthOf_8 : decode cX10_lengthOf 8 = .ok (.invokevirtual 235, 3) := by decide +kernel
theorem dX10_lengthOf_11 : decode cX10_lengthOf 11 = .ok (.ifCond .ne 13, 3) := by decide +kernel
theorem dX10_lengthOf_14 : decode cX10_lengthOf 14 = .ok (.new 110, 3) := by decide +kernel
theorem dX10_lengthOf_17 : decode cX10_lengthOf 17 = .ok (.dup, 1) := by decide +kernel
theorem dX10_lengthOf_18 : decode cX10_lengthOf 18 = .ok (.ldc 236, 2) := by decide +kernel
theorem dX10_lengthOf_20 : decode cX10_lengthOf 20 = .ok (.invokespecial 114, 3) := by decide +kernel
theorem dX10_lengthOf_23 : decode cX10_lengthOf 23 = .ok (.athrow, 1) := by decide +kernel
theorem dX10_lengthOf_24 : decode cX10_lengthOf 24 = .ok (.aload_n 0, 1) := by decide +kernel
theorem dX10_lengthOf_25 : decode cX10_lengthOf 25 = .ok (.getfield 10, 3) := by decide +kernel
theorem dX10_lengthOf_28 : decode cX10_lengthOf 28 = .ok (.getfield 158, 3) := by decide +kernel
theorem dX10_lengthOf_31 : decode cX10_lengthOf 31 = .ok (.iload_n 1, 1) := by decide +kernel
theorem dX10_lengthOf_32 : decode cX10_lengthOf 32 = .ok (.invokevirtual 248, 3) := by decide +kernel
theorem dX10_lengthOf_35 : decode cX10_lengthOf 35 = .ok (.ireturn, 1) := by decide +kernel
theorem dX10_sackCost_0 : decode cX10_sackCost 0 = .ok (.aload_n 0, 1) := by decide +kernel
theorem dX10_sackCost_1 : decode cX10_sackCost 1 = .ok (.getfield 10, 3) := by decide +kernel
theorem dX10_sackCost_4 : decode cX10_sackCost 4 = .ok (.getfield 158, 3) := by decide +kernel
theorem dX10_sackCost_7 : decode cX10_sackCost 7 = .ok (.aload_n 0, 1) := by decide +kernel
theorem dX10_sackCost_8 : decode cX10_sackCost 8 = .ok (.getfield 10, 3) := by decide +kernel
theorem dX10_sackCost_11 : decode cX10_sackCost 11 = .ok (.getfield 43, 3) := by decide +kernel
theorem dX10_sackCost_14 : decode cX10_sackCost 14 = .ok (.invokevirtual 251, 3) := by decide +kernel
theorem dX10_sackCost_17 : decode cX10_sackCost 17 = .ok (.ireturn, 1) := by decide +kernel
theorem dX10_sackLetters_0 : decode cX10_sackLetters 0 = .ok (.aload_n 0, 1) := by decide +kernel
theorem dX10_sackLetters_1 : decode cX10_sackLetters 1 = .ok (.getfield 10, 3) := by decide +kernel
theorem dX10_sackLetters_4 : decode cX10_sackLetters 4 = .ok (.getfield 158, 3) := by decide +kernel
theorem dX10_sackLetters_7 : decode cX10_sackLetters 7 = .ok (.invokevirtual 255, 3) := by decide +kernel
theorem dX10_sackLetters_10 : decode cX10_sackLetters 10 = .ok (.ireturn, 1) := by decide +kernel
theorem dX10_wrongToken_0 : decode cX10_wrongToken 0 = .ok (.aload_n 0, 1) := by decide +kernel
theorem dX10_wrongToken_1 : decode cX10_wrongToken 1 = .ok (.getfield 73, 3) := by decide +kernel
theorem dX10_wrongToken_4 : decode cX10_wrongToken 4 = .ok (.aload_n 0, 1) := by decide +kernel
theorem dX10_wrongToken_5 : decode cX10_wrongToken 5 = .ok (.getfield 10, 3) := by decide +kernel
theorem dX10_wrongToken_8 : decode cX10_wrongToken 8 = .ok (.getfield 158, 3) := by decide +kernel
theorem dX10_wrongToken_11 : decode cX10_wrongToken 11 = .ok (.invokevirtual 166, 3) := by decide +kernel
theorem dX10_wrongToken_14 : decode cX10_wrongToken 14 = .ok (.aload_n 0, 1) := by decide +kernel
theorem dX10_wrongToken_15 : decode cX10_wrongToken 15 = .ok (.getfield 73, 3) := by decide +kernel
theorem dX10_wrongToken_18 : decode cX10_wrongToken 18 = .ok (.getfield 257, 3) := by decide +kernel
theorem dX10_wrongToken_21 : decode cX10_wrongToken 21 = .ok (.ireturn, 1) := by decide +kernel
theorem dX10_wrongReason_0 : decode cX10_wrongReason 0 = .ok (.aload_n 0, 1) := by decide +kernel
theorem dX10_wrongReason_1 : decode cX10_wrongReason 1 = .ok (.getfield 73, 3) := by decide +kernel
theorem dX10_wrongReason_4 : decode cX10_wrongReason 4 = .ok (.aload_n 0, 1) := by decide +kernel
theorem dX10_wrongReason_5 : decode cX10_wrongReason 5 = .ok (.getfield 10, 3) := by decide +kernel
theorem dX10_wrongReason_8 : decode cX10_wrongReason 8 = .ok (.getfield 158, 3) := by decide +kernel
theorem dX10_wrongReason_11 : decode cX10_wrongReason 11 = .ok (.invokevirtual 166, 3) := by decide +kernel
theorem dX10_wrongReason_14 : decode cX10_wrongReason 14 = .ok (.aload_n 0, 1) := by decide +kernel
theorem dX10_wrongReason_15 : decode cX10_wrongReason 15 = .ok (.getfield 73, 3) := by decide +kernel
theorem dX10_wrongReason_18 : decode cX10_wrongReason 18 = .ok (.getfield 170, 3) := by decide +kernel
theorem dX10_wrongReason_21 : decode cX10_wrongReason 21 = .ok (.ireturn, 1) := by decide +kernel
theorem dX10_isForText_0 : decode cX10_isForText 0 = .ok (.aload_n 0, 1) := by decide +kernel
theorem dX10_isForText_1 : decode cX10_isForText 1 = .ok (.getfield 73, 3) := by decide +kernel
theorem dX10_isForText_4 : decode cX10_isForText 4 = .ok (.aload_n 0, 1) := by decide +kernel
theorem dX10_isForText_5 : decode cX10_isForText 5 = .ok (.getfield 10, 3) := by decide +kernel
theorem dX10_isForText_8 : decode cX10_isForText 8 = .ok (.getfield 158, 3) := by decide +kernel
theorem dX10_isForText_11 : decode cX10_isForText 11 = .ok (.invokevirtual 166, 3) := by decide +kernel
theorem dX10_isForText_14 : decode cX10_isForText 14 = .ok (.aload_n 0, 1) := by decide +kernel
theorem dX10_isForText_15 : decode cX10_isForText 15 = .ok (.getfield 73, 3) := by decide +kernel
theorem dX10_isForText_18 : decode cX10_isForText 18 = .ok (.getfield 170, 3) := by decide +kernel
theorem dX10_isForText_21 : decode cX10_isForText 21 = .ok (.ifCond .ne 27, 3) := by decide +kernel
theorem dX10_isForText_24 : decode cX10_isForText 24 = .ok (.aload_n 0, 1) := by decide +kernel
theorem dX10_isForText_25 : decode cX10_isForText 25 = .ok (.getfield 73, 3) := by decide +kernel
theorem dX10_isForText_28 : decode cX10_isForText 28 = .ok (.getfield 175, 3) := by decide +kernel
theorem dX10_isForText_31 : decode cX10_isForText 31 = .ok (.aload_n 0, 1) := by decide +kernel
theorem dX10_isForText_32 : decode cX10_isForText 32 = .ok (.getfield 10, 3) := by decide +kernel
theorem dX10_isForText_35 : decode cX10_isForText 35 = .ok (.getfield 39, 3) := by decide +kernel
theorem dX10_isForText_38 : decode cX10_isForText 38 = .ok (.invokevirtual 260, 3) := by decide +kernel
theorem dX10_isForText_41 : decode cX10_isForText 41 = .ok (.ifCond .eq 7, 3) := by decide +kernel
theorem dX10_isForText_44 : decode cX10_isForText 44 = .ok (.iconst 1, 1) := by decide +kernel
theorem dX10_isForText_45 : decode cX10_isForText 45 = .ok (.goto 4, 3) := by decide +kernel
theorem dX10_isForText_48 : decode cX10_isForText 48 = .ok (.iconst 0, 1) := by decide +kernel
theorem dX10_isForText_49 : decode cX10_isForText 49 = .ok (.ireturn, 1) := by decide +kernel
theorem dX10_repeatLength_0 : decode cX10_repeatLength 0 = .ok (.aload_n 0, 1) := by decide +kernel
theorem dX10_repeatLength_1 : decode cX10_repeatLength 1 = .ok (.getfield 10, 3) := by decide +kernel
theorem dX10_repeatLength_4 : decode cX10_repeatLength 4 = .ok (.getfield 39, 3) := by decide +kernel
theorem dX10_repeatLength_7 : decode cX10_repeatLength 7 = .ok (.iload_n 1, 1) := by decide +kernel
theorem dX10_repeatLength_8 : decode cX10_repeatLength 8 = .ok (.invokevirtual 107, 3) := by decide +kernel
theorem dX10_repeatLength_11 : decode cX10_repeatLength 11 = .ok (.ifCond .ne 13, 3) := by decide +kernel
theorem dX10_repeatLength_14 : decode cX10_repeatLength 14 = .ok (.new 110, 3) := by decide +kernel
theorem dX10_repeatLength_17 : decode cX10_repeatLength 17 = .ok (.dup, 1) := by decide +kernel
theorem dX10_repeatLength_18 : decode cX10_repeatLength 18 = .ok (.ldc 112, 2) := by decide +kernel
theorem dX10_repeatLength_20 : decode cX10_repeatLength 20 = .ok (.invokespecial 114, 3) := by decide +kernel
theorem dX10_repeatLength_23 : decode cX10_repeatLength 23 = .ok (.athrow, 1) := by decide +kernel
theorem dX10_repeatLength_24 : decode cX10_repeatLength 24 = .ok (.aload_n 0, 1) := by decide +kernel
theorem dX10_repeatLength_25 : decode cX10_repeatLength 25 = .ok (.getfield 50, 3) := by decide +kernel
theorem dX10_repeatLength_28 : decode cX10_repeatLength 28 = .ok (.iload_n 1, 1) := by decide +kernel
theorem dX10_repeatLength_29 : decode cX10_repeatLength 29 = .ok (.aload_n 0, 1) := by decide +kernel
theorem dX10_repeatLength_30 : decode cX10_repeatLength 30 = .ok (.getfield 10, 3) := by decide +kernel
theorem dX10_repeatLength_33 : decode cX10_repeatLength 33 = .ok (.getfield 43, 3) := by decide +kernel
theorem dX10_repeatLength_36 : decode cX10_repeatLength 36 = .ok (.getfield 132, 3) := by decide +kernel
theorem dX10_repeatLength_39 : decode cX10_repeatLength 39 = .ok (.invokevirtual 264, 3) := by decide +kernel
theorem dX10_repeatLength_42 : decode cX10_repeatLength 42 = .ok (.ireturn, 1) := by decide +kernel
theorem dX10_repeatLengthByPairs_0 : decode cX10_repeatLengthByPairs 0 = .ok (.aload_n 0, 1) := by decide +kernel
theorem dX10_repeatLengthByPairs_1 : decode cX10_repeatLengthByPairs 1 = .ok (.getfield 10, 3) := by decide +kernel
theorem dX10_repeatLengthByPairs_4 : decode cX10_repeatLengthByPairs 4 = .ok (.getfield 39, 3) := by decide +kernel
theorem dX10_repeatLengthByPairs_7 : decode cX10_repeatLengthByPairs 7 = .ok (.iload_n 1, 1) := by decide +kernel
theorem dX10_repeatLengthByPairs_8 : decode cX10_repeatLengthByPairs 8 = .ok (.invokevirtual 107, 3) := by decide +kernel
theorem dX10_repeatLengthByPairs_11 : decode cX10_repeatLengthByPairs 11 = .ok (.ifCond .ne 13, 3) := by decide +kernel
theorem dX10_repeatLengthByPairs_14 : decode cX10_repeatLengthByPairs 14 = .ok (.new 110, 3) := by decide +kernel
theorem dX10_repeatLengthByPairs_17 : decode cX10_repeatLengthByPairs 17 = .ok (.dup, 1) := by decide +kernel
theorem dX10_repeatLengthByPairs_18 : decode cX10_repeatLengthByPairs 18 = .ok (.ldc 112, 2) := by decide +kernel
theorem dX10_repeatLengthByPairs_20 : decode cX10_repeatLengthByPairs 20 = .ok (.invokespecial 114, 3) := by decide +kernel
theorem dX10_repeatLengthByPairs_23 : decode cX10_repeatLengthByPairs 23 = .ok (.athrow, 1) := by decide +kernel
theorem dX10_repeatLengthByPairs_24 : decode cX10_repeatLengthByPairs 24 = .ok (.aload_n 0, 1) := by decide +kernel
theorem dX10_repeatLengthByPairs_25 : decode cX10_repeatLengthByPairs 25 = .ok (.getfield 50, 3) := by decide +kernel
theorem dX10_repeatLengthByPairs_28 : decode cX10_repeatLengthByPairs 28 = .ok (.getfield 268, 3) := by decide +kernel
theorem dX10_repeatLengthByPairs_31 : decode cX10_repeatLengthByPairs 31 = .ok (.aload_n 0, 1) := by decide +kernel
theorem dX10_repeatLengthByPairs_32 : decode cX10_repeatLengthByPairs 32 = .ok (.getfield 10, 3) := by decide +kernel
theorem dX10_repeatLengthByPairs_35 : decode cX10_repeatLengthByPairs 35 = .ok (.getfield 39, 3) := by decide +kernel
theorem dX10_repeatLengthByPairs_38 : decode cX10_repeatLengthByPairs 38 = .ok (.invokevirtual 272, 3) := by decide +kernel
theorem dX10_repeatLengthByPairs_41 : decode cX10_repeatLengthByPairs 41 = .ok (.aload_n 0, 1) := by decide +kernel
theorem dX10_repeatLengthByPairs_42 : decode cX10_repeatLengthByPairs 42 = .ok (.getfield 50, 3) := by decide +kernel
theorem dX10_repeatLengthByPairs_45 : decode cX10_repeatLengthByPairs 45 = .ok (.iload_n 1, 1) := by decide +kernel
theorem dX10_repeatLengthByPairs_46 : decode cX10_repeatLengthByPairs 46 = .ok (.invokevirtual 277, 3) := by decide +kernel
theorem dX10_repeatLengthByPairs_49 : decode cX10_repeatLengthByPairs 49 = .ok (.ireturn, 1) := by decide +kernel
theorem dX10_repeatDistance_0 : decode cX10_repeatDistance 0 = .ok (.aload_n 0, 1) := by decide +kernel
theorem dX10_repeatDistance_1 : decode cX10_repeatDistance 1 = .ok (.getfield 10, 3) := by decide +kernel
theorem dX10_repeatDistance_4 : decode cX10_repeatDistance 4 = .ok (.getfield 39, 3) := by decide +kernel
theorem dX10_repeatDistance_7 : decode cX10_repeatDistance 7 = .ok (.iload_n 1, 1) := by decide +kernel
theorem dX10_repeatDistance_8 : decode cX10_repeatDistance 8 = .ok (.invokevirtual 107, 3) := by decide +kernel
theorem dX10_repeatDistance_11 : decode cX10_repeatDistance 11 = .ok (.ifCond .ne 13, 3) := by decide +kernel
theorem dX10_repeatDistance_14 : decode cX10_repeatDistance 14 = .ok (.new 110, 3) := by decide +kernel
theorem dX10_repeatDistance_17 : decode cX10_repeatDistance 17 = .ok (.dup, 1) := by decide +kernel
theorem dX10_repeatDistance_18 : decode cX10_repeatDistance 18 = .ok (.ldc 112, 2) := by decide +kernel
theorem dX10_repeatDistance_20 : decode cX10_repeatDistance 20 = .ok (.invokespecial 114, 3) := by decide +kernel
theorem dX10_repeatDistance_23 : decode cX10_repeatDistance 23 = .ok (.athrow, 1) := by decide +kernel
theorem dX10_repeatDistance_24 : decode cX10_repeatDistance 24 = .ok (.aload_n 0, 1) := by decide +kernel
theorem dX10_repeatDistance_25 : decode cX10_repeatDistance 25 = .ok (.getfield 50, 3) := by decide +kernel
theorem dX10_repeatDistance_28 : decode cX10_repeatDistance 28 = .ok (.iload_n 1, 1) := by decide +kernel
theorem dX10_repeatDistance_29 : decode cX10_repeatDistance 29 = .ok (.aload_n 0, 1) := by decide +kernel
theorem dX10_repeatDistance_30 : decode cX10_repeatDistance 30 = .ok (.getfield 10, 3) := by decide +kernel
theorem dX10_repeatDistance_33 : decode cX10_repeatDistance 33 = .ok (.getfield 43, 3) := by decide +kernel
theorem dX10_repeatDistance_36 : decode cX10_repeatDistance 36 = .ok (.getfield 132, 3) := by decide +kernel
theorem dX10_repeatDistance_39 : decode cX10_repeatDistance 39 = .ok (.invokevirtual 264, 3) := by decide +kernel
theorem dX10_repeatDistance_42 : decode cX10_repeatDistance 42 = .ok (.istore_n 2, 1) := by decide +kernel
theorem dX10_repeatDistance_43 : decode cX10_repeatDistance 43 = .ok (.aload_n 0, 1) := by decide +kernel
theorem dX10_repeatDistance_44 : decode cX10_repeatDistance 44 = .ok (.getfield 50, 3) := by decide +kernel
theorem dX10_repeatDistance_47 : decode cX10_repeatDistance 47 = .ok (.iload_n 1, 1) := by decide +kernel
theorem dX10_repeatDistance_48 : decode cX10_repeatDistance 48 = .ok (.iload_n 2, 1) := by decide +kernel
theorem dX10_repeatDistance_49 : decode cX10_repeatDistance 49 = .ok (.invokevirtual 280, 3) := by decide +kernel
theorem dX10_repeatDistance_52 : decode cX10_repeatDistance 52 = .ok (.ireturn, 1) := by decide +kernel
theorem dX10_costBy_0 : decode cX10_costBy 0 = .ok (.iload_n 1, 1) := by decide +kernel
theorem dX10_costBy_1 : decode cX10_costBy 1 = .ok (.invokestatic 153, 3) := by decide +kernel
theorem dX10_costBy_4 : decode cX10_costBy 4 = .ok (.ifCond .ne 13, 3) := by decide +kernel
theorem dX10_costBy_7 : decode cX10_costBy 7 = .ok (.new 81, 3) := by decide +kernel
theorem dX10_costBy_10 : decode cX10_costBy 10 = .ok (.dup, 1) := by decide +kernel
theorem dX10_costBy_11 : decode cX10_costBy 11 = .ok (.ldc 156, 2) := by decide +kernel
theorem dX10_costBy_13 : decode cX10_costBy 13 = .ok (.invokespecial 85, 3) := by decide +kernel
theorem dX10_costBy_16 : decode cX10_costBy 16 = .ok (.athrow, 1) := by decide +kernel
theorem dX10_costBy_17 : decode cX10_costBy 17 = .ok (.aload_n 0, 1) := by decide +kernel
theorem dX10_costBy_18 : decode cX10_costBy 18 = .ok (.getfield 59, 3) := by decide +kernel
theorem dX10_costBy_21 : decode cX10_costBy 21 = .ok (.iload_n 1, 1) := by decide +kernel
theorem dX10_costBy_22 : decode cX10_costBy 22 = .ok (.aload_n 0, 1) := by decide +kernel
theorem dX10_costBy_23 : decode cX10_costBy 23 = .ok (.getfield 66, 3) := by decide +kernel
theorem dX10_costBy_26 : decode cX10_costBy 26 = .ok (.invokevirtual 161, 3) := by decide +kernel
theorem dX10_costBy_29 : decode cX10_costBy 29 = .ok (.aload_n 0, 1) := by decide +kernel
theorem dX10_costBy_30 : decode cX10_costBy 30 = .ok (.getfield 66, 3) := by decide +kernel
theorem dX10_costBy_33 : decode cX10_costBy 33 = .ok (.aload_n 0, 1) := by decide +kernel
theorem dX10_costBy_34 : decode cX10_costBy 34 = .ok (.getfield 10, 3) := by decide +kernel
theorem dX10_costBy_37 : decode cX10_costBy 37 = .ok (.getfield 43, 3) := by decide +kernel
theorem dX10_costBy_40 : decode cX10_costBy 40 = .ok (.invokevirtual 251, 3) := by decide +kernel
theorem dX10_costBy_43 : decode cX10_costBy 43 = .ok (.ireturn, 1) := by decide +kernel
theorem dX10_tokensBy_0 : decode cX10_tokensBy 0 = .ok (.iload_n 1, 1) := by decide +kernel
theorem dX10_tokensBy_1 : decode cX10_tokensBy 1 = .ok (.invokestatic 153, 3) := by decide +kernel
theorem dX10_tokensBy_4 : decode cX10_tokensBy 4 = .ok (.ifCond .ne 13, 3) := by decide +kernel
theorem dX10_tokensBy_7 : decode cX10_tokensBy 7 = .ok (.new 81, 3) := by decide +kernel
theorem dX10_tokensBy_10 : decode cX10_tokensBy 10 = .ok (.dup, 1) := by decide +kernel
theorem dX10_tokensBy_11 : decode cX10_tokensBy 11 = .ok (.ldc 156, 2) := by decide +kernel
theorem dX10_tokensBy_13 : decode cX10_tokensBy 13 = .ok (.invokespecial 85, 3) := by decide +kernel
theorem dX10_tokensBy_16 : decode cX10_tokensBy 16 = .ok (.athrow, 1) := by decide +kernel
theorem dX10_tokensBy_17 : decode cX10_tokensBy 17 = .ok (.aload_n 0, 1) := by decide +kernel
theorem dX10_tokensBy_18 : decode cX10_tokensBy 18 = .ok (.getfield 59, 3) := by decide +kernel
theorem dX10_tokensBy_21 : decode cX10_tokensBy 21 = .ok (.iload_n 1, 1) := by decide +kernel
theorem dX10_tokensBy_22 : decode cX10_tokensBy 22 = .ok (.aload_n 0, 1) := by decide +kernel
theorem dX10_tokensBy_23 : decode cX10_tokensBy 23 = .ok (.getfield 66, 3) := by decide +kernel
theorem dX10_tokensBy_26 : decode cX10_tokensBy 26 = .ok (.invokevirtual 161, 3) := by decide +kernel
theorem dX10_tokensBy_29 : decode cX10_tokensBy 29 = .ok (.aload_n 0, 1) := by decide +kernel
theorem dX10_tokensBy_30 : decode cX10_tokensBy 30 = .ok (.getfield 66, 3) := by decide +kernel
theorem dX10_tokensBy_33 : decode cX10_tokensBy 33 = .ok (.getfield 165, 3) := by decide +kernel
theorem dX10_tokensBy_36 : decode cX10_tokensBy 36 = .ok (.ireturn, 1) := by decide +kernel
theorem dX10_leastCost_0 : decode cX10_leastCost 0 = .ok (.aload_n 0, 1) := by decide +kernel
theorem dX10_leastCost_1 : decode cX10_leastCost 1 = .ok (.getfield 59, 3) := by decide +kernel
theorem dX10_leastCost_4 : decode cX10_leastCost 4 = .ok (.aload_n 0, 1) := by decide +kernel
theorem dX10_leastCost_5 : decode cX10_leastCost 5 = .ok (.getfield 10, 3) := by decide +kernel
theorem dX10_leastCost_8 : decode cX10_leastCost 8 = .ok (.getfield 43, 3) := by decide +kernel
theorem dX10_leastCost_11 : decode cX10_leastCost 11 = .ok (.getfield 132, 3) := by decide +kernel
theorem dX10_leastCost_14 : decode cX10_leastCost 14 = .ok (.invokevirtual 283, 3) := by decide +kernel
theorem dX10_leastCost_17 : decode cX10_leastCost 17 = .ok (.ireturn, 1) := by decide +kernel
theorem dX10_leastCostFromBeginning_0 : decode cX10_leastCostFromBeginning 0 = .ok (.aload_n 0, 1) := by decide +kernel
theorem dX10_leastCostFromBeginning_1 : decode cX10_leastCostFromBeginning 1 = .ok (.getfield 59, 3) := by decide +kernel
theorem dX10_leastCostFromBeginning_4 : decode cX10_leastCostFromBeginning 4 = .ok (.invokevirtual 286, 3) := by decide +kernel
theorem dX10_leastCostFromBeginning_7 : decode cX10_leastCostFromBeginning 7 = .ok (.ireturn, 1) := by decide +kernel
theorem dX10_leastCostWith_0 : decode cX10_leastCostWith 0 = .ok (.iload_n 1, 1) := by decide +kernel
theorem dX10_leastCostWith_1 : decode cX10_leastCostWith 1 = .ok (.iconst 1, 1) := by decide +kernel
theorem dX10_leastCostWith_2 : decode cX10_leastCostWith 2 = .ok (.bipush 32, 2) := by decide +kernel
theorem dX10_leastCostWith_4 : decode cX10_leastCostWith 4 = .ok (.invokestatic 126, 3) := by decide +kernel
theorem dX10_leastCostWith_7 : decode cX10_leastCostWith 7 = .ok (.ifCond .ne 13, 3) := by decide +kernel
theorem dX10_leastCostWith_10 : decode cX10_leastCostWith 10 = .ok (.new 81, 3) := by decide +kernel
theorem dX10_leastCostWith_13 : decode cX10_leastCostWith 13 = .ok (.dup, 1) := by decide +kernel
theorem dX10_leastCostWith_14 : decode cX10_leastCostWith 14 = .ok (.ldc 130, 2) := by decide +kernel
theorem dX10_leastCostWith_16 : decode cX10_leastCostWith 16 = .ok (.invokespecial 85, 3) := by decide +kernel
theorem dX10_leastCostWith_19 : decode cX10_leastCostWith 19 = .ok (.athrow, 1) := by decide +kernel
theorem dX10_leastCostWith_20 : decode cX10_leastCostWith 20 = .ok (.aload_n 0, 1) := by decide +kernel
theorem dX10_leastCostWith_21 : decode cX10_leastCostWith 21 = .ok (.getfield 59, 3) := by decide +kernel
theorem dX10_leastCostWith_24 : decode cX10_leastCostWith 24 = .ok (.iload_n 1, 1) := by decide +kernel
theorem dX10_leastCostWith_25 : decode cX10_leastCostWith 25 = .ok (.invokevirtual 283, 3) := by decide +kernel
theorem dX10_leastCostWith_28 : decode cX10_leastCostWith 28 = .ok (.ireturn, 1) := by decide +kernel
theorem dX10_isPair_0 : decode cX10_isPair 0 = .ok (.iload_n 0, 1) := by decide +kernel
theorem dX10_isPair_1 : decode cX10_isPair 1 = .ok (.ifCond .lt 13, 3) := by decide +kernel
theorem dX10_isPair_4 : decode cX10_isPair 4 = .ok (.iload_n 0, 1) := by decide +kernel
theorem dX10_isPair_5 : decode cX10_isPair 5 = .ok (.bipush 16, 2) := by decide +kernel
theorem dX10_isPair_7 : decode cX10_isPair 7 = .ok (.if_icmp .ge 7, 3) := by decide +kernel
theorem dX10_isPair_10 : decode cX10_isPair 10 = .ok (.iconst 1, 1) := by decide +kernel
theorem dX10_isPair_11 : decode cX10_isPair 11 = .ok (.goto 4, 3) := by decide +kernel
theorem dX10_isPair_14 : decode cX10_isPair 14 = .ok (.iconst 0, 1) := by decide +kernel
theorem dX10_isPair_15 : decode cX10_isPair 15 = .ok (.ireturn, 1) := by decide +kernel
theorem dX10_pairs_0 : decode cX10_pairs 0 = .ok (.iload_n 1, 1) := by decide +kernel
theorem dX10_pairs_1 : decode cX10_pairs 1 = .ok (.invokestatic 289, 3) := by decide +kernel
theorem dX10_pairs_4 : decode cX10_pairs 4 = .ok (.ifCond .ne 14, 3) := by decide +kernel
theorem dX10_pairs_7 : decode cX10_pairs 7 = .ok (.new 81, 3) := by decide +kernel
theorem dX10_pairs_10 : decode cX10_pairs 10 = .ok (.dup, 1) := by decide +kernel
theorem dX10_pairs_11 : decode cX10_pairs 11 = .ok (.ldc_w 292, 3) := by decide +kernel
theorem dX10_pairs_14 : decode cX10_pairs 14 = .ok (.invokespecial 85, 3) := by decide +kernel
theorem dX10_pairs_17 : decode cX10_pairs 17 = .ok (.athrow, 1) := by decide +kernel
theorem dX10_pairs_18 : decode cX10_pairs 18 = .ok (.aload_n 0, 1) := by decide +kernel
theorem dX10_pairs_19 : decode cX10_pairs 19 = .ok (.getfield 50, 3) := by decide +kernel
theorem dX10_pairs_22 : decode cX10_pairs 22 = .ok (.getfield 268, 3) := by decide +kernel
theorem dX10_pairs_25 : decode cX10_pairs 25 = .ok (.aload_n 0, 1) := by decide +kernel
theorem dX10_pairs_26 : decode cX10_pairs 26 = .ok (.getfield 10, 3) := by decide +kernel
theorem dX10_pairs_29 : decode cX10_pairs 29 = .ok (.getfield 39, 3) := by decide +kernel
theorem dX10_pairs_32 : decode cX10_pairs 32 = .ok (.invokevirtual 272, 3) := by decide +kernel
theorem dX10_pairs_35 : decode cX10_pairs 35 = .ok (.aload_n 0, 1) := by decide +kernel
theorem dX10_pairs_36 : decode cX10_pairs 36 = .ok (.getfield 50, 3) := by decide +kernel
theorem dX10_pairs_39 : decode cX10_pairs 39 = .ok (.getfield 268, 3) := by decide +kernel
theorem dX10_pairs_42 : decode cX10_pairs 42 = .ok (.iload_n 1, 1) := by decide +kernel
theorem dX10_pairs_43 : decode cX10_pairs 43 = .ok (.invokevirtual 294, 3) := by decide +kernel
theorem dX10_pairs_46 : decode cX10_pairs 46 = .ok (.ireturn, 1) := by decide +kernel
theorem dX10_lastPlaceOf_0 : decode cX10_lastPlaceOf 0 = .ok (.iload_n 1, 1) := by decide +kernel
theorem dX10_lastPlaceOf_1 : decode cX10_lastPlaceOf 1 = .ok (.invokestatic 289, 3) := by decide +kernel
theorem dX10_lastPlaceOf_4 : decode cX10_lastPlaceOf 4 = .ok (.ifCond .ne 14, 3) := by decide +kernel
theorem dX10_lastPlaceOf_7 : decode cX10_lastPlaceOf 7 = .ok (.new 81, 3) := by decide +kernel
theorem dX10_lastPlaceOf_10 : decode cX10_lastPlaceOf 10 = .ok (.dup, 1) := by decide +kernel
theorem dX10_lastPlaceOf_11 : decode cX10_lastPlaceOf 11 = .ok (.ldc_w 292, 3) := by decide +kernel
theorem dX10_lastPlaceOf_14 : decode cX10_lastPlaceOf 14 = .ok (.invokespecial 85, 3) := by decide +kernel
theorem dX10_lastPlaceOf_17 : decode cX10_lastPlaceOf 17 = .ok (.athrow, 1) := by decide +kernel
theorem dX10_lastPlaceOf_18 : decode cX10_lastPlaceOf 18 = .ok (.aload_n 0, 1) := by decide +kernel
theorem dX10_lastPlaceOf_19 : decode cX10_lastPlaceOf 19 = .ok (.getfield 50, 3) := by decide +kernel
theorem dX10_lastPlaceOf_22 : decode cX10_lastPlaceOf 22 = .ok (.getfield 268, 3) := by decide +kernel
theorem dX10_lastPlaceOf_25 : decode cX10_lastPlaceOf 25 = .ok (.aload_n 0, 1) := by decide +kernel
theorem dX10_lastPlaceOf_26 : decode cX10_lastPlaceOf 26 = .ok (.getfield 10, 3) := by decide +kernel
theorem dX10_lastPlaceOf_29 : decode cX10_lastPlaceOf 29 = .ok (.getfield 39, 3) := by decide +kernel
theorem dX10_lastPlaceOf_32 : decode cX10_lastPlaceOf 32 = .ok (.invokevirtual 272, 3) := by decide +kernel
theorem dX10_lastPlaceOf_35 : decode cX10_lastPlaceOf 35 = .ok (.aload_n 0, 1) := by decide +kernel
theorem dX10_lastPlaceOf_36 : decode cX10_lastPlaceOf 36 = .ok (.getfield 50, 3) := by decide +kernel
theorem dX10_lastPlaceOf_39 : decode cX10_lastPlaceOf 39 = .ok (.getfield 268, 3) := by decide +kernel
theorem dX10_lastPlaceOf_42 : decode cX10_lastPlaceOf 42 = .ok (.iload_n 1, 1) := by decide +kernel
theorem dX10_lastPlaceOf_43 : decode cX10_lastPlaceOf 43 = .ok (.invokevirtual 297, 3) := by decide +kernel
theorem dX10_lastPlaceOf_46 : decode cX10_lastPlaceOf 46 = .ok (.ireturn, 1) := by decide +kernel
theorem dX10_mostFrequent_0 : decode cX10_mostFrequent 0 = .ok (.aload_n 0, 1) := by decide +kernel
theorem dX10_mostFrequent_1 : decode cX10_mostFrequent 1 = .ok (.getfield 10, 3) := by decide +kernel
theorem dX10_mostFrequent_4 : decode cX10_mostFrequent 4 = .ok (.getfield 39, 3) := by decide +kernel
theorem dX10_mostFrequent_7 : decode cX10_mostFrequent 7 = .ok (.getfield 88, 3) := by decide +kernel
theorem dX10_mostFrequent_10 : decode cX10_mostFrequent 10 = .ok (.iconst 2, 1) := by decide +kernel
theorem dX10_mostFrequent_11 : decode cX10_mostFrequent 11 = .ok (.if_icmp .ge 14, 3) := by decide +kernel
theorem dX10_mostFrequent_14 : decode cX10_mostFrequent 14 = .ok (.new 94, 3) := by decide +kernel
theorem dX10_mostFrequent_17 : decode cX10_mostFrequent 17 = .ok (.dup, 1) := by decide +kernel
theorem dX10_mostFrequent_18 : decode cX10_mostFrequent 18 = .ok (.ldc_w 300, 3) := by decide +kernel
theorem dX10_mostFrequent_21 : decode cX10_mostFrequent 21 = .ok (.invokespecial 98, 3) := by decide +kernel
theorem dX10_mostFrequent_24 : decode cX10_mostFrequent 24 = .ok (.athrow, 1) := by decide +kernel
theorem dX10_mostFrequent_25 : decode cX10_mostFrequent 25 = .ok (.aload_n 0, 1) := by decide +kernel
theorem dX10_mostFrequent_26 : decode cX10_mostFrequent 26 = .ok (.getfield 50, 3) := by decide +kernel
theorem dX10_mostFrequent_29 : decode cX10_mostFrequent 29 = .ok (.getfield 268, 3) := by decide +kernel
theorem dX10_mostFrequent_32 : decode cX10_mostFrequent 32 = .ok (.aload_n 0, 1) := by decide +kernel
theorem dX10_mostFrequent_33 : decode cX10_mostFrequent 33 = .ok (.getfield 10, 3) := by decide +kernel
theorem dX10_mostFrequent_36 : decode cX10_mostFrequent 36 = .ok (.getfield 39, 3) := by decide +kernel
theorem dX10_mostFrequent_39 : decode cX10_mostFrequent 39 = .ok (.invokevirtual 272, 3) := by decide +kernel
theorem dX10_mostFrequent_42 : decode cX10_mostFrequent 42 = .ok (.aload_n 0, 1) := by decide +kernel
theorem dX10_mostFrequent_43 : decode cX10_mostFrequent 43 = .ok (.getfield 50, 3) := by decide +kernel
theorem dX10_mostFrequent_46 : decode cX10_mostFrequent 46 = .ok (.getfield 268, 3) := by decide +kernel
theorem dX10_mostFrequent_49 : decode cX10_mostFrequent 49 = .ok (.invokevirtual 302, 3) := by decide +kernel
theorem dX10_mostFrequent_52 : decode cX10_mostFrequent 52 = .ok (.ireturn, 1) := by decide +kernel
theorem dX10_packedShare_0 : decode cX10_packedShare 0 = .ok (.aload_n 0, 1) := by decide +kernel
theorem dX10_packedShare_1 : decode cX10_packedShare 1 = .ok (.getfield 10, 3) := by decide +kernel
theorem dX10_packedShare_4 : decode cX10_packedShare 4 = .ok (.getfield 43, 3) := by decide +kernel
theorem dX10_packedShare_7 : decode cX10_packedShare 7 = .ok (.getfield 147, 3) := by decide +kernel
theorem dX10_packedShare_10 : decode cX10_packedShare 10 = .ok (.aload_n 0, 1) := by decide +kernel
theorem dX10_packedShare_11 : decode cX10_packedShare 11 = .ok (.getfield 10, 3) := by decide +kernel
theorem dX10_packedShare_14 : decode cX10_packedShare 14 = .ok (.getfield 158, 3) := by decide +kernel
theorem dX10_packedShare_17 : decode cX10_packedShare 17 = .ok (.invokevirtual 255, 3) := by decide +kernel
theorem dX10_packedShare_20 : decode cX10_packedShare 20 = .ok (.imul, 1) := by decide +kernel
theorem dX10_packedShare_21 : decode cX10_packedShare 21 = .ok (.istore_n 1, 1) := by decide +kernel
theorem dX10_packedShare_22 : decode cX10_packedShare 22 = .ok (.aload_n 0, 1) := by decide +kernel
theorem dX10_packedShare_23 : decode cX10_packedShare 23 = .ok (.getfield 10, 3) := by decide +kernel
theorem dX10_packedShare_26 : decode cX10_packedShare 26 = .ok (.getfield 158, 3) := by decide +kernel
theorem dX10_packedShare_29 : decode cX10_packedShare 29 = .ok (.getfield 165, 3) := by decide +kernel
theorem dX10_packedShare_32 : decode cX10_packedShare 32 = .ok (.ifCond .le 7, 3) := by decide +kernel
theorem dX10_packedShare_35 : decode cX10_packedShare 35 = .ok (.iload_n 1, 1) := by decide +kernel
theorem dX10_packedShare_36 : decode cX10_packedShare 36 = .ok (.ifCond .gt 5, 3) := by decide +kernel
theorem dX10_packedShare_39 : decode cX10_packedShare 39 = .ok (.dconst 1, 1) := by decide +kernel
theorem dX10_packedShare_40 : decode cX10_packedShare 40 = .ok (.dreturn, 1) := by decide +kernel
theorem dX10_packedShare_41 : decode cX10_packedShare 41 = .ok (.aload_n 0, 1) := by decide +kernel
theorem dX10_packedShare_42 : decode cX10_packedShare 42 = .ok (.getfield 10, 3) := by decide +kernel
theorem dX10_packedShare_45 : decode cX10_packedShare 45 = .ok (.getfield 158, 3) := by decide +kernel
theorem dX10_packedShare_48 : decode cX10_packedShare 48 = .ok (.aload_n 0, 1) := by decide +kernel
theorem dX10_packedShare_49 : decode cX10_packedShare 49 = .ok (.getfield 10, 3) := by decide +kernel
theorem dX10_packedShare_52 : decode cX10_packedShare 52 = .ok (.getfield 43, 3) := by decide +kernel
theorem dX10_packedShare_55 : decode cX10_packedShare 55 = .ok (.invokevirtual 251, 3) := by decide +kernel
theorem dX10_packedShare_58 : decode cX10_packedShare 58 = .ok (.i2d, 1) := by decide +kernel
theorem dX10_packedShare_59 : decode cX10_packedShare 59 = .ok (.iload_n 1, 1) := by decide +kernel
theorem dX10_packedShare_60 : decode cX10_packedShare 60 = .ok (.i2d, 1) := by decide +kernel
theorem dX10_packedShare_61 : decode cX10_packedShare 61 = .ok (.ddiv, 1) := by decide +kernel
theorem dX10_packedShare_62 : decode cX10_packedShare 62 = .ok (.dreturn, 1) := by decide +kernel
