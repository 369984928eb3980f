/-! decode rows, out of the printed names -/
theorem dX10_isLetter_0 : decode cX10_isLetter 0 = .ok (.iload_n 0, 1) := by decide +kernel
theorem dX10_isLetter_1 : decode cX10_isLetter 1 = .ok (.ifCond .lt 12, 3) := by decide +kernel
theorem dX10_isLetter_4 : decode cX10_isLetter 4 = .ok (.iload_n 0, 1) := by decide +kernel
theorem dX10_isLetter_5 : decode cX10_isLetter 5 = .ok (.iconst 4, 1) := by decide +kernel
theorem dX10_isLetter_6 : decode cX10_isLetter 6 = .ok (.if_icmp .ge 7, 3) := by decide +kernel
theorem dX10_isLetter_9 : decode cX10_isLetter 9 = .ok (.iconst 1, 1) := by decide +kernel
theorem dX10_isLetter_10 : decode cX10_isLetter 10 = .ok (.goto 4, 3) := by decide +kernel
theorem dX10_isLetter_13 : decode cX10_isLetter 13 = .ok (.iconst 0, 1) := by decide +kernel
theorem dX10_isLetter_14 : decode cX10_isLetter 14 = .ok (.ireturn, 1) := by decide +kernel
theorem dX10_addLetter_0 : decode cX10_addLetter 0 = .ok (.iload_n 1, 1) := by decide +kernel
theorem dX10_addLetter_1 : decode cX10_addLetter 1 = .ok (.invokestatic 77, 3) := by decide +kernel
theorem dX10_addLetter_4 : decode cX10_addLetter 4 = .ok (.ifCond .ne 13, 3) := by decide +kernel
theorem dX10_addLetter_7 : decode cX10_addLetter 7 = .ok (.new 81, 3) := by decide +kernel
theorem dX10_addLetter_10 : decode cX10_addLetter 10 = .ok (.dup, 1) := by decide +kernel
theorem dX10_addLetter_11 : decode cX10_addLetter 11 = .ok (.ldc 83, 2) := by decide +kernel
theorem dX10_addLetter_13 : decode cX10_addLetter 13 = .ok (.invokespecial 85, 3) := by decide +kernel
theorem dX10_addLetter_16 : decode cX10_addLetter 16 = .ok (.athrow, 1) := by decide +kernel
theorem dX10_addLetter_17 : decode cX10_addLetter 17 = .ok (.aload_n 0, 1) := by decide +kernel
theorem dX10_addLetter_18 : decode cX10_addLetter 18 = .ok (.getfield 10, 3) := by decide +kernel
theorem dX10_addLetter_21 : decode cX10_addLetter 21 = .ok (.getfield 39, 3) := by decide +kernel
theorem dX10_addLetter_24 : decode cX10_addLetter 24 = .ok (.getfield 88, 3) := by decide +kernel
theorem dX10_addLetter_27 : decode cX10_addLetter 27 = .ok (.bipush 40, 2) := by decide +kernel
theorem dX10_addLetter_29 : decode cX10_addLetter 29 = .ok (.if_icmp .lt 13, 3) := by decide +kernel
theorem dX10_addLetter_32 : decode cX10_addLetter 32 = .ok (.new 94, 3) := by decide +kernel
theorem dX10_addLetter_35 : decode cX10_addLetter 35 = .ok (.dup, 1) := by decide +kernel
theorem dX10_addLetter_36 : decode cX10_addLetter 36 = .ok (.ldc 96, 2) := by decide +kernel
theorem dX10_addLetter_38 : decode cX10_addLetter 38 = .ok (.invokespecial 98, 3) := by decide +kernel
theorem dX10_addLetter_41 : decode cX10_addLetter 41 = .ok (.athrow, 1) := by decide +kernel
theorem dX10_addLetter_42 : decode cX10_addLetter 42 = .ok (.aload_n 0, 1) := by decide +kernel
theorem dX10_addLetter_43 : decode cX10_addLetter 43 = .ok (.getfield 26, 3) := by decide +kernel
theorem dX10_addLetter_46 : decode cX10_addLetter 46 = .ok (.aload_n 0, 1) := by decide +kernel
theorem dX10_addLetter_47 : decode cX10_addLetter 47 = .ok (.getfield 10, 3) := by decide +kernel
theorem dX10_addLetter_50 : decode cX10_addLetter 50 = .ok (.invokevirtual 99, 3) := by decide +kernel
theorem dX10_addLetter_53 : decode cX10_addLetter 53 = .ok (.aload_n 0, 1) := by decide +kernel
theorem dX10_addLetter_54 : decode cX10_addLetter 54 = .ok (.getfield 10, 3) := by decide +kernel
theorem dX10_addLetter_57 : decode cX10_addLetter 57 = .ok (.getfield 39, 3) := by decide +kernel
theorem dX10_addLetter_60 : decode cX10_addLetter 60 = .ok (.iload_n 1, 1) := by decide +kernel
theorem dX10_addLetter_61 : decode cX10_addLetter 61 = .ok (.invokevirtual 103, 3) := by decide +kernel
theorem dX10_addLetter_64 : decode cX10_addLetter 64 = .ok (.aload_n 0, 1) := by decide +kernel
theorem dX10_addLetter_65 : decode cX10_addLetter 65 = .ok (.getfield 10, 3) := by decide +kernel
theorem dX10_addLetter_68 : decode cX10_addLetter 68 = .ok (.getfield 39, 3) := by decide +kernel
theorem dX10_addLetter_71 : decode cX10_addLetter 71 = .ok (.getfield 88, 3) := by decide +kernel
theorem dX10_addLetter_74 : decode cX10_addLetter 74 = .ok (.ireturn, 1) := by decide +kernel
theorem dX10_setLetter_0 : decode cX10_setLetter 0 = .ok (.aload_n 0, 1) := by decide +kernel
theorem dX10_setLetter_1 : decode cX10_setLetter 1 = .ok (.getfield 10, 3) := by decide +kernel
theorem dX10_setLetter_4 : decode cX10_setLetter 4 = .ok (.getfield 39, 3) := by decide +kernel
theorem dX10_setLetter_7 : decode cX10_setLetter 7 = .ok (.iload_n 1, 1) := by decide +kernel
theorem dX10_setLetter_8 : decode cX10_setLetter 8 = .ok (.invokevirtual 107, 3) := by decide +kernel
theorem dX10_setLetter_11 : decode cX10_setLetter 11 = .ok (.ifCond .ne 13, 3) := by decide +kernel
theorem dX10_setLetter_14 : decode cX10_setLetter 14 = .ok (.new 110, 3) := by decide +kernel
theorem dX10_setLetter_17 : decode cX10_setLetter 17 = .ok (.dup, 1) := by decide +kernel
theorem dX10_setLetter_18 : decode cX10_setLetter 18 = .ok (.ldc 112, 2) := by decide +kernel
theorem dX10_setLetter_20 : decode cX10_setLetter 20 = .ok (.invokespecial 114, 3) := by decide +kernel
theorem dX10_setLetter_23 : decode cX10_setLetter 23 = .ok (.athrow, 1) := by decide +kernel
theorem dX10_setLetter_24 : decode cX10_setLetter 24 = .ok (.iload_n 2, 1) := by decide +kernel
theorem dX10_setLetter_25 : decode cX10_setLetter 25 = .ok (.invokestatic 77, 3) := by decide +kernel
theorem dX10_setLetter_28 : decode cX10_setLetter 28 = .ok (.ifCond .ne 13, 3) := by decide +kernel
theorem dX10_setLetter_31 : decode cX10_setLetter 31 = .ok (.new 81, 3) := by decide +kernel
theorem dX10_setLetter_34 : decode cX10_setLetter 34 = .ok (.dup, 1) := by decide +kernel
theorem dX10_setLetter_35 : decode cX10_setLetter 35 = .ok (.ldc 83, 2) := by decide +kernel
theorem dX10_setLetter_37 : decode cX10_setLetter 37 = .ok (.invokespecial 85, 3) := by decide +kernel
theorem dX10_setLetter_40 : decode cX10_setLetter 40 = .ok (.athrow, 1) := by decide +kernel
theorem dX10_setLetter_41 : decode cX10_setLetter 41 = .ok (.aload_n 0, 1) := by decide +kernel
theorem dX10_setLetter_42 : decode cX10_setLetter 42 = .ok (.getfield 26, 3) := by decide +kernel
theorem dX10_setLetter_45 : decode cX10_setLetter 45 = .ok (.aload_n 0, 1) := by decide +kernel
theorem dX10_setLetter_46 : decode cX10_setLetter 46 = .ok (.getfield 10, 3) := by decide +kernel
theorem dX10_setLetter_49 : decode cX10_setLetter 49 = .ok (.invokevirtual 99, 3) := by decide +kernel
theorem dX10_setLetter_52 : decode cX10_setLetter 52 = .ok (.aload_n 0, 1) := by decide +kernel
theorem dX10_setLetter_53 : decode cX10_setLetter 53 = .ok (.getfield 10, 3) := by decide +kernel
theorem dX10_setLetter_56 : decode cX10_setLetter 56 = .ok (.getfield 39, 3) := by decide +kernel
theorem dX10_setLetter_59 : decode cX10_setLetter 59 = .ok (.iload_n 1, 1) := by decide +kernel
theorem dX10_setLetter_60 : decode cX10_setLetter 60 = .ok (.invokevirtual 115, 3) := by decide +kernel
theorem dX10_setLetter_63 : decode cX10_setLetter 63 = .ok (.istore_n 3, 1) := by decide +kernel
theorem dX10_setLetter_64 : decode cX10_setLetter 64 = .ok (.aload_n 0, 1) := by decide +kernel
theorem dX10_setLetter_65 : decode cX10_setLetter 65 = .ok (.getfield 10, 3) := by decide +kernel
theorem dX10_setLetter_68 : decode cX10_setLetter 68 = .ok (.getfield 39, 3) := by decide +kernel
theorem dX10_setLetter_71 : decode cX10_setLetter 71 = .ok (.iload_n 1, 1) := by decide +kernel
theorem dX10_setLetter_72 : decode cX10_setLetter 72 = .ok (.iload_n 2, 1) := by decide +kernel
theorem dX10_setLetter_73 : decode cX10_setLetter 73 = .ok (.invokevirtual 119, 3) := by decide +kernel
theorem dX10_setLetter_76 : decode cX10_setLetter 76 = .ok (.iload_n 3, 1) := by decide +kernel
theorem dX10_setLetter_77 : decode cX10_setLetter 77 = .ok (.ireturn, 1) := by decide +kernel
theorem dX10_emptyText_0 : decode cX10_emptyText 0 = .ok (.aload_n 0, 1) := by decide +kernel
theorem dX10_emptyText_1 : decode cX10_emptyText 1 = .ok (.getfield 26, 3) := by decide +kernel
theorem dX10_emptyText_4 : decode cX10_emptyText 4 = .ok (.aload_n 0, 1) := by decide +kernel
theorem dX10_emptyText_5 : decode cX10_emptyText 5 = .ok (.getfield 10, 3) := by decide +kernel
theorem dX10_emptyText_8 : decode cX10_emptyText 8 = .ok (.invokevirtual 99, 3) := by decide +kernel
theorem dX10_emptyText_11 : decode cX10_emptyText 11 = .ok (.aload_n 0, 1) := by decide +kernel
theorem dX10_emptyText_12 : decode cX10_emptyText 12 = .ok (.getfield 10, 3) := by decide +kernel
theorem dX10_emptyText_15 : decode cX10_emptyText 15 = .ok (.getfield 39, 3) := by decide +kernel
theorem dX10_emptyText_18 : decode cX10_emptyText 18 = .ok (.getfield 88, 3) := by decide +kernel
theorem dX10_emptyText_21 : decode cX10_emptyText 21 = .ok (.istore_n 1, 1) := by decide +kernel
theorem dX10_emptyText_22 : decode cX10_emptyText 22 = .ok (.aload_n 0, 1) := by decide +kernel
theorem dX10_emptyText_23 : decode cX10_emptyText 23 = .ok (.getfield 10, 3) := by decide +kernel
theorem dX10_emptyText_26 : decode cX10_emptyText 26 = .ok (.getfield 39, 3) := by decide +kernel
theorem dX10_emptyText_29 : decode cX10_emptyText 29 = .ok (.invokevirtual 123, 3) := by decide +kernel
theorem dX10_emptyText_32 : decode cX10_emptyText 32 = .ok (.iload_n 1, 1) := by decide +kernel
theorem dX10_emptyText_33 : decode cX10_emptyText 33 = .ok (.ireturn, 1) := by decide +kernel
theorem dX10_isBetween_0 : decode cX10_isBetween 0 = .ok (.iload_n 0, 1) := by decide +kernel
theorem dX10_isBetween_1 : decode cX10_isBetween 1 = .ok (.iload_n 1, 1) := by decide +kernel
theorem dX10_isBetween_2 : decode cX10_isBetween 2 = .ok (.if_icmp .lt 12, 3) := by decide +kernel
theorem dX10_isBetween_5 : decode cX10_isBetween 5 = .ok (.iload_n 0, 1) := by decide +kernel
theorem dX10_isBetween_6 : decode cX10_isBetween 6 = .ok (.iload_n 2, 1) := by decide +kernel
theorem dX10_isBetween_7 : decode cX10_isBetween 7 = .ok (.if_icmp .gt 7, 3) := by decide +kernel
theorem dX10_isBetween_10 : decode cX10_isBetween 10 = .ok (.iconst 1, 1) := by decide +kernel
theorem dX10_isBetween_11 : decode cX10_isBetween 11 = .ok (.goto 4, 3) := by decide +kernel
theorem dX10_isBetween_14 : decode cX10_isBetween 14 = .ok (.iconst 0, 1) := by decide +kernel
theorem dX10_isBetween_15 : decode cX10_isBetween 15 = .ok (.ireturn, 1) := by decide +kernel
theorem dX10_setWindow_0 : decode cX10_setWindow 0 = .ok (.iload_n 1, 1) := by decide +kernel
theorem dX10_setWindow_1 : decode cX10_setWindow 1 = .ok (.iconst 1, 1) := by decide +kernel
theorem dX10_setWindow_2 : decode cX10_setWindow 2 = .ok (.bipush 32, 2) := by decide +kernel
theorem dX10_setWindow_4 : decode cX10_setWindow 4 = .ok (.invokestatic 126, 3) := by decide +kernel
theorem dX10_setWindow_7 : decode cX10_setWindow 7 = .ok (.ifCond .ne 13, 3) := by decide +kernel
theorem dX10_setWindow_10 : decode cX10_setWindow 10 = .ok (.new 81, 3) := by decide +kernel
theorem dX10_setWindow_13 : decode cX10_setWindow 13 = .ok (.dup, 1) := by decide +kernel
theorem dX10_setWindow_14 : decode cX10_setWindow 14 = .ok (.ldc 130, 2) := by decide +kernel
theorem dX10_setWindow_16 : decode cX10_setWindow 16 = .ok (.invokespecial 85, 3) := by decide +kernel
theorem dX10_setWindow_19 : decode cX10_setWindow 19 = .ok (.athrow, 1) := by decide +kernel
theorem dX10_setWindow_20 : decode cX10_setWindow 20 = .ok (.aload_n 0, 1) := by decide +kernel
theorem dX10_setWindow_21 : decode cX10_setWindow 21 = .ok (.getfield 26, 3) := by decide +kernel
theorem dX10_setWindow_24 : decode cX10_setWindow 24 = .ok (.aload_n 0, 1) := by decide +kernel
theorem dX10_setWindow_25 : decode cX10_setWindow 25 = .ok (.getfield 10, 3) := by decide +kernel
theorem dX10_setWindow_28 : decode cX10_setWindow 28 = .ok (.invokevirtual 99, 3) := by decide +kernel
theorem dX10_setWindow_31 : decode cX10_setWindow 31 = .ok (.aload_n 0, 1) := by decide +kernel
theorem dX10_setWindow_32 : decode cX10_setWindow 32 = .ok (.getfield 10, 3) := by decide +kernel
theorem dX10_setWindow_35 : decode cX10_setWindow 35 = .ok (.getfield 43, 3) := by decide +kernel
theorem dX10_setWindow_38 : decode cX10_setWindow 38 = .ok (.getfield 132, 3) := by decide +kernel
theorem dX10_setWindow_41 : decode cX10_setWindow 41 = .ok (.istore_n 2, 1) := by decide +kernel
theorem dX10_setWindow_42 : decode cX10_setWindow 42 = .ok (.aload_n 0, 1) := by decide +kernel
theorem dX10_setWindow_43 : decode cX10_setWindow 43 = .ok (.getfield 10, 3) := by decide +kernel
theorem dX10_setWindow_46 : decode cX10_setWindow 46 = .ok (.getfield 43, 3) := by decide +kernel
theorem dX10_setWindow_49 : decode cX10_setWindow 49 = .ok (.iload_n 1, 1) := by decide +kernel
theorem dX10_setWindow_50 : decode cX10_setWindow 50 = .ok (.putfield 132, 3) := by decide +kernel
theorem dX10_setWindow_53 : decode cX10_setWindow 53 = .ok (.iload_n 2, 1) := by decide +kernel
theorem dX10_setWindow_54 : decode cX10_setWindow 54 = .ok (.ireturn, 1) := by decide +kernel
theorem dX10_setShortest_0 : decode cX10_setShortest 0 = .ok (.iload_n 1, 1) := by decide +kernel
theorem dX10_setShortest_1 : decode cX10_setShortest 1 = .ok (.iconst 2, 1) := by decide +kernel
theorem dX10_setShortest_2 : decode cX10_setShortest 2 = .ok (.iconst 4, 1) := by decide +kernel
theorem dX10_setShortest_3 : decode cX10_setShortest 3 = .ok (.invokestatic 126, 3) := by decide +kernel
theorem dX10_setShortest_6 : decode cX10_setShortest 6 = .ok (.ifCond .ne 13, 3) := by decide +kernel
theorem dX10_setShortest_9 : decode cX10_setShortest 9 = .ok (.new 81, 3) := by decide +kernel
theorem dX10_setShortest_12 : decode cX10_setShortest 12 = .ok (.dup, 1) := by decide +kernel
theorem dX10_setShortest_13 : decode cX10_setShortest 13 = .ok (.ldc 137, 2) := by decide +kernel
theorem dX10_setShortest_15 : decode cX10_setShortest 15 = .ok (.invokespecial 85, 3) := by decide +kernel
theorem dX10_setShortest_18 : decode cX10_setShortest 18 = .ok (.athrow, 1) := by decide +kernel
theorem dX10_setShortest_19 : decode cX10_setShortest 19 = .ok (.aload_n 0, 1) := by decide +kernel
theorem dX10_setShortest_20 : decode cX10_setShortest 20 = .ok (.getfield 26, 3) := by decide +kernel
theorem dX10_setShortest_23 : decode cX10_setShortest 23 = .ok (.aload_n 0, 1) := by decide +kernel
theorem dX10_setShortest_24 : decode cX10_setShortest 24 = .ok (.getfield 10, 3) := by decide +kernel
theorem dX10_setShortest_27 : decode cX10_setShortest 27 = .ok (.invokevirtual 99, 3) := by decide +kernel
theorem dX10_setShortest_30 : decode cX10_setShortest 30 = .ok (.aload_n 0, 1) := by decide +kernel
theorem dX10_setShortest_31 : decode cX10_setShortest 31 = .ok (.getfield 10, 3) := by decide +kernel
theorem dX10_setShortest_34 : decode cX10_setShortest 34 = .ok (.getfield 43, 3) := by decide +kernel
theorem dX10_setShortest_37 : decode cX10_setShortest 37 = .ok (.getfield 139, 3) := by decide +kernel
theorem dX10_setShortest_40 : decode cX10_setShortest 40 = .ok (.istore_n 2, 1) := by decide +kernel
theorem dX10_setShortest_41 : decode cX10_setShortest 41 = .ok (.aload_n 0, 1) := by decide +kernel
theorem dX10_setShortest_42 : decode cX10_setShortest 42 = .ok (.getfield 10, 3) := by decide +kernel
theorem dX10_setShortest_45 : decode cX10_setShortest 45 = .ok (.getfield 43, 3) := by decide +kernel
theorem dX10_setShortest_48 : decode cX10_setShortest 48 = .ok (.iload_n 1, 1) := by decide +kernel
theorem dX10_setShortest_49 : decode cX10_setShortest 49 = .ok (.putfield 139, 3) := by decide +kernel
theorem dX10_setShortest_52 : decode cX10_setShortest 52 = .ok (.iload_n 2, 1) := by decide +kernel
theorem dX10_setShortest_53 : decode cX10_setShortest 53 = .ok (.ireturn, 1) := by decide +kernel
theorem dX10_setLongest_0 : decode cX10_setLongest 0 = .ok (.iload_n 1, 1) := by decide +kernel
theorem dX10_setLongest_1 : decode cX10_setLongest 1 = .ok (.iconst 4, 1) := by decide +kernel
theorem dX10_setLongest_2 : decode cX10_setLongest 2 = .ok (.bipush 9, 2) := by decide +kernel
theorem dX10_setLongest_4 : decode cX10_setLongest 4 = .ok (.invokestatic 126, 3) := by decide +kernel
theorem dX10_setLongest_7 : decode cX10_setLongest 7 = .ok (.ifCond .ne 13, 3) := by decide +kernel
theorem dX10_setLongest_10 : decode cX10_setLongest 10 = .ok (.new 81, 3) := by decide +kernel
theorem dX10_setLongest_13 : decode cX10_setLongest 13 = .ok (.dup, 1) := by decide +kernel
theorem dX10_setLongest_14 : decode cX10_setLongest 14 = .ok (.ldc 137, 2) := by decide +kernel
theorem dX10_setLongest_16 : decode cX10_setLongest 16 = .ok (.invokespecial 85, 3) := by decide +kernel
theorem dX10_setLongest_19 : decode cX10_setLongest 19 = .ok (.athrow, 1) := by decide +kernel
theorem dX10_setLongest_20 : decode cX10_setLongest 20 = .ok (.aload_n 0, 1) := by decide +kernel
theorem dX10_setLongest_21 : decode cX10_setLongest 21 = .ok (.getfield 26, 3) := by decide +kernel
theorem dX10_setLongest_24 : decode cX10_setLongest 24 = .ok (.aload_n 0, 1) := by decide +kernel
theorem dX10_setLongest_25 : decode cX10_setLongest 25 = .ok (.getfield 10, 3) := by decide +kernel
theorem dX10_setLongest_28 : decode cX10_setLongest 28 = .ok (.invokevirtual 99, 3) := by decide +kernel
theorem dX10_setLongest_31 : decode cX10_setLongest 31 = .ok (.aload_n 0, 1) := by decide +kernel
theorem dX10_setLongest_32 : decode cX10_setLongest 32 = .ok (.getfield 10, 3) := by decide +kernel
theorem dX10_setLongest_35 : decode cX10_setLongest 35 = .ok (.getfield 43, 3) := by decide +kernel
theorem dX10_setLongest_38 : decode cX10_setLongest 38 = .ok (.getfield 142, 3) := by decide +kernel
theorem dX10_setLongest_41 : decode cX10_setLongest 41 = .ok (.istore_n 2, 1) := by decide +kernel
theorem dX10_setLongest_42 : decode cX10_setLongest 42 = .ok (.aload_n 0, 1) := by decide +kernel
theorem dX10_setLongest_43 : decode cX10_setLongest 43 = .ok (.getfield 10, 3) := by decide +kernel
theorem dX10_setLongest_46 : decode cX10_setLongest 46 = .ok (.getfield 43, 3) := by decide +kernel
theorem dX10_setLongest_49 : decode cX10_setLongest 49 = .ok (.iload_n 1, 1) := by decide +kernel
theorem dX10_setLongest_50 : decode cX10_setLongest 50 = .ok (.putfield 142, 3) := by decide +kernel
theorem dX10_setLongest_53 : decode cX10_setLongest 53 = .ok (.iload_n 2, 1) := by decide +kernel
theorem dX10_setLongest_54 : decode cX10_setLongest 54 = .ok (.ireturn, 1) := by decide +kernel
theorem dX10_setLetterPrice_0 : decode cX10_setLetterPrice 0 = .ok (.iload_n 1, 1) := by decide +kernel
theorem dX10_setLetterPrice_1 : decode cX10_setLetterPrice 1 = .ok (.iconst 1, 1) := by decide +kernel
theorem dX10_setLetterPrice_2 : decode cX10_setLetterPrice 2 = .ok (.bipush 9, 2) := by decide +kernel
theorem dX10_setLetterPrice_4 : decode cX10_setLetterPrice 4 = .ok (.invokestatic 126, 3) := by decide +kernel
theorem dX10_setLetterPrice_7 : decode cX10_setLetterPrice 7 = .ok (.ifCond .ne 13, 3) := by decide +kernel
theorem dX10_setLetterPrice_10 : decode cX10_setLetterPrice 10 = .ok (.new 81, 3) := by decide +kernel
theorem dX10_setLetterPrice_13 : decode cX10_setLetterPrice 13 = .ok (.dup, 1) := by decide +kernel
theorem dX10_setLetterPrice_14 : decode cX10_setLetterPrice 14 = .ok (.ldc 145, 2) := by decide +kernel
theorem dX10_setLetterPrice_16 : decode cX10_setLetterPrice 16 = .ok (.invokespecial 85, 3) := by decide +kernel
theorem dX10_setLetterPrice_19 : decode cX10_setLetterPrice 19 = .ok (.athrow, 1) := by decide +kernel
theorem dX10_setLetterPrice_20 : decode cX10_setLetterPrice 20 = .ok (.aload_n 0, 1) := by decide +kernel
theorem dX10_setLetterPrice_21 : decode cX10_setLetterPrice 21 = .ok (.getfield 26, 3) := by decide +kernel
theorem dX10_setLetterPrice_24 : decode cX10_setLetterPrice 24 = .ok (.aload_n 0, 1) := by decide +kernel
theorem dX10_setLetterPrice_25 : decode cX10_setLetterPrice 25 = .ok (.getfield 10, 3) := by decide +kernel
theorem dX10_setLetterPrice_28 : decode cX10_setLetterPrice 28 = .ok (.invokevirtual 99, 3) := by decide +kernel
theorem dX10_setLetterPrice_31 : decode cX10_setLetterPrice 31 = .ok (.aload_n 0, 1) := by decide +kernel
theorem dX10_setLetterPrice_32 : decode cX10_setLetterPrice 32 = .ok (.getfield 10, 3) := by decide +kernel
theorem dX10_setLetterPrice_35 : decode cX10_setLetterPrice 35 = .ok (.getfield 43, 3) := by decide +kernel
theorem dX10_setLetterPrice_38 : decode cX10_setLetterPrice 38 = .ok (.getfield 147, 3) := by decide +kernel
theorem dX10_setLetterPrice_41 : decode cX10_setLetterPrice 41 = .ok (.istore_n 2, 1) := by decide +kernel
theorem dX10_setLetterPrice_42 : decode cX10_setLetterPrice 42 = .ok (.aload_n 0, 1) := by decide +kernel
theorem dX10_setLetterPrice_43 : decode cX10_setLetterPrice 43 = .ok (.getfield 10, 3) := by decide +kernel
theorem dX10_setLetterPrice_46 : decode cX10_setLetterPrice 46 = .ok (.getfield 43, 3) := by decide +kernel
theorem dX10_setLetterPrice_49 : decode cX10_setLetterPrice 49 = .ok (.iload_n 1, 1) := by decide +kernel
theorem dX10_setLetterPrice_50 : decode cX10_setLetterPrice 50 = .ok (.putfield 147, 3) := by decide +kernel
theorem dX10_setLetterPrice_53 : decode cX10_setLetterPrice 53 = .ok (.iload_n 2, 1) := by decide +kernel
theorem dX10_setLetterPrice_54 : decode cX10_setLetterPrice 54 = .ok (.ireturn, 1) := by decide +kernel
theorem dX10_setRepeatPrice_0 : decode cX10_setRepeatPrice 0 = .ok (.iload_n 1, 1) := by decide +kernel
theorem dX10_setRepeatPrice_1 : decode cX10_setRepeatPrice 1 = .ok (.iconst 1, 1) := by decide +kernel
theorem dX10_setRepeatPrice_2 : decode cX10_setRepeatPrice 2 = .ok (.bipush 20, 2) := by decide +kernel
theorem dX10_setRepeatPrice_4 : decode cX10_setRepeatPrice 4 = .ok (.invokestatic 126, 3) := by decide +kernel
theorem dX10_setRepeatPrice_7 : decode cX10_setRepeatPrice 7 = .ok (.ifCond .ne 13, 3) := by decide +kernel
theorem dX10_setRepeatPrice_10 : decode cX10_setRepeatPrice 10 = .ok (.new 81, 3) := by decide +kernel
theorem dX10_setRepeatPrice_13 : decode cX10_setRepeatPrice 13 = .ok (.dup, 1) := by decide +kernel
theorem dX10_setRepeatPrice_14 : decode cX10_setRepeatPrice 14 = .ok (.ldc 145, 2) := by decide +kernel
theorem dX10_setRepeatPrice_16 : decode cX10_setRepeatPrice 16 = .ok (.invokespecial 85, 3) := by decide +kernel
theorem dX10_setRepeatPrice_19 : decode cX10_setRepeatPrice 19 = .ok (.athrow, 1) := by decide +kernel
theorem dX10_setRepeatPrice_20 : decode cX10_setRepeatPrice 20 = .ok (.aload_n 0, 1) := by decide +kernel
theorem dX10_setRepeatPrice_21 : decode cX10_setRepeatPrice 21 = .ok (.getfield 26, 3) := by decide +kernel
theorem dX10_setRepeatPrice_24 : decode cX10_setRepeatPrice 24 = .ok (.aload_n 0, 1) := by decide +kernel
theorem dX10_setRepeatPrice_25 : decode cX10_setRepeatPrice 25 = .ok (.getfield 10, 3) := by decide +kernel
theorem dX10_setRepeatPrice_28 : decode cX10_setRepeatPrice 28 = .ok (.invokevirtual 99, 3) := by decide +kernel
theorem dX10_setRepeatPrice_31 : decode cX10_setRepeatPrice 31 = .ok (.aload_n 0, 1) := by decide +kernel
theorem dX10_setRepeatPrice_32 : decode cX10_setRepeatPrice 32 = .ok (.getfield 10, 3) := by decide +kernel
theorem dX10_setRepeatPrice_35 : decode cX10_setRepeatPrice 35 = .ok (.getfield 43, 3) := by decide +kernel
theorem dX10_setRepeatPrice_38 : decode cX10_setRepeatPrice 38 = .ok (.getfield 150, 3) := by decide +kernel
theorem dX10_setRepeatPrice_41 : decode cX10_setRepeatPrice 41 = .ok (.istore_n 2, 1) := by decide +kernel
theorem dX10_setRepeatPrice_42 : decode cX10_setRepeatPrice 42 = .ok (.aload_n 0, 1) := by decide +kernel
theorem dX10_setRepeatPrice_43 : decode cX10_setRepeatPrice 43 = .ok (.getfield 10, 3) := by decide +kernel
theorem dX10_setRepeatPrice_46 : decode cX10_setRepeatPrice 46 = .ok (.getfield 43, 3) := by decide +kernel
theorem dX10_setRepeatPrice_49 : decode cX10_setRepeatPrice 49 = .ok (.iload_n 1, 1) := by decide +kernel
theorem dX10_setRepeatPrice_50 : decode cX10_setRepeatPrice 50 = .ok (.putfield 150, 3) := by decide +kernel
theorem dX10_setRepeatPrice_53 : decode cX10_setRepeatPrice 53 = .ok (.iload_n 2, 1) := by decide +kernel
theorem dX10_setRepeatPrice_54 : decode cX10_setRepeatPrice 54 = .ok (.ireturn, 1) := by decide +kernel
theorem dX10_isWay_0 : decode cX10_isWay 0 = .ok (.iload_n 0, 1) := by decide +kernel
theorem dX10_isWay_1 : decode cX10_isWay 1 = .ok (.ifCond .lt 12, 3) := by decide +kernel
theorem dX10_isWay_4 : decode cX10_isWay 4 = .ok (.iload_n 0, 1) := by decide +kernel
theorem dX10_isWay_5 : decode cX10_isWay 5 = .ok (.iconst 2, 1) := by decide +kernel
theorem dX10_isWay_6 : decode cX10_isWay 6 = .ok (.if_icmp .gt 7, 3) := by decide +kernel
theorem dX10_isWay_9 : decode cX10_isWay 9 = .ok (.iconst 1, 1) := by decide +kernel
theorem dX10_isWay_10 : decode cX10_isWay 10 = .ok (.goto 4, 3) := by decide +kernel
theorem dX10_isWay_13 : decode cX10_isWay 13 = .ok (.iconst 0, 1) := by decide +kernel
theorem dX10_isWay_14 : decode cX10_isWay 14 = .ok (.ireturn, 1) := by decide +kernel
theorem dX10_pack_0 : decode cX10_pack 0 = .ok (.iload_n 1, 1) := by decide +kernel
theorem dX10_pack_1 : decode cX10_pack 1 = .ok (.invokestatic 153, 3) := by decide +kernel
theorem dX10_pack_4 : decode cX10_pack 4 = .ok (.ifCond .ne 13, 3) := by decide +kernel
theorem dX10_pack_7 : decode cX10_pack 7 = .ok (.new 81, 3) := by decide +kernel
theorem dX10_pack_10 : decode cX10_pack 10 = .ok (.dup, 1) := by decide +kernel
theorem dX10_pack_11 : decode cX10_pack 11 = .ok (.ldc 156, 2) := by decide +kernel
theorem dX10_pack_13 : decode cX10_pack 13 = .ok (.invokespecial 85, 3) := by decide +kernel
theorem dX10_pack_16 : decode cX10_pack 16 = .ok (.athrow, 1) := by decide +kernel
theorem dX10_pack_17 : decode cX10_pack 17 = .ok (.aload_n 0, 1) := by decide +kernel
theorem dX10_pack_18 : decode cX10_pack 18 = .ok (.getfield 26, 3) := by decide +kernel
theorem dX10_pack_21 : decode cX10_pack 21 = .ok (.aload_n 0, 1) := by decide +kernel
theorem dX10_pack_22 : decode cX10_pack 22 = .ok (.getfield 10, 3) := by decide +kernel
theorem dX10_pack_25 : decode cX10_pack 25 = .ok (.invokevirtual 99, 3) := by decide +kernel
theorem dX10_pack_28 : decode cX10_pack 28 = .ok (.aload_n 0, 1) := by decide +kernel
theorem dX10_pack_29 : decode cX10_pack 29 = .ok (.getfield 59, 3) := by decide +kernel
theorem dX10_pack_32 : decode cX10_pack 32 = .ok (.iload_n 1, 1) := by decide +kernel
theorem dX10_pack_33 : decode cX10_pack 33 = .ok (.aload_n 0, 1) := by decide +kernel
theorem dX10_pack_34 : decode cX10_pack 34 = .ok (.getfield 10, 3) := by decide +kernel
theorem dX10_pack_37 : decode cX10_pack 37 = .ok (.getfield 158, 3) := by decide +kernel
theorem dX10_pack_40 : decode cX10_pack 40 = .ok (.invokevirtual 161, 3) := by decide +kernel
theorem dX10_pack_43 : decode cX10_pack 43 = .ok (.aload_n 0, 1) := by decide +kernel
theorem dX10_pack_44 : decode cX10_pack 44 = .ok (.getfield 10, 3) := by decide +kernel
theorem dX10_pack_47 : decode cX10_pack 47 = .ok (.getfield 158, 3) := by decide +kernel
theorem dX10_pack_50 : decode cX10_pack 50 = .ok (.getfield 165, 3) := by decide +kernel
theorem dX10_pack_53 : decode cX10_pack 53 = .ok (.ireturn, 1) := by decide +kernel
theorem dX10_unpack_0 : decode cX10_unpack 0 = .ok (.aload_n 0, 1) := by decide +kernel
theorem dX10_unpack_1 : decode cX10_unpack 1 = .ok (.getfield 73, 3) := by decide +kernel
theorem dX10_unpack_4 : decode cX10_unpack 4 = .ok (.aload_n 0, 1) := by decide +kernel
theorem dX10_unpack_5 : decode cX10_unpack 5 = .ok (.getfield 10, 3) := by decide +kernel
theorem dX10_unpack_8 : decode cX10_unpack 8 = .ok (.getfield 158, 3) := by decide +kernel
theorem dX10_unpack_11 : decode cX10_unpack 11 = .ok (.invokevirtual 166, 3) := by decide +kernel
theorem dX10_unpack_14 : decode cX10_unpack 14 = .ok (.aload_n 0, 1) := by decide +kernel
theorem dX10_unpack_15 : decode cX10_unpack 15 = .ok (.getfield 73, 3) := by decide +kernel
theorem dX10_unpack_18 : decode cX10_unpack 18 = .ok (.getfield 170, 3) := by decide +kernel
theorem dX10_unpack_21 : decode cX10_unpack 21 = .ok (.ifCond .eq 13, 3) := by decide +kernel
theorem dX10_unpack_24 : decode cX10_unpack 24 = .ok (.new 94, 3) := by decide +kernel
theorem dX10_unpack_27 : decode cX10_unpack 27 = .ok (.dup, 1) := by decide +kernel
theorem dX10_unpack_28 : decode cX10_unpack 28 = .ok (.ldc 173, 2) := by decide +kernel
theorem dX10_unpack_30 : decode cX10_unpack 30 = .ok (.invokespecial 98, 3) := by decide +kernel
theorem dX10_unpack_33 : decode cX10_unpack 33 = .ok (.athrow, 1) := by decide +kernel
theorem dX10_unpack_34 : decode cX10_unpack 34 = .ok (.aload_n 0, 1) := by decide +kernel
theorem dX10_unpack_35 : decode cX10_unpack 35 = .ok (.getfield 26, 3) := by decide +kernel
theorem dX10_unpack_38 : decode cX10_unpack 38 = .ok (.aload_n 0, 1) := by decide +kernel
theorem dX10_unpack_39 : decode cX10_unpack 39 = .ok (.getfield 10, 3) := by decide +kernel
theorem dX10_unpack_42 : decode cX10_unpack 42 = .ok (.invokevirtual 99, 3) := by decide +kernel
theorem dX10_unpack_45 : decode cX10_unpack 45 = .ok (.aload_n 0, 1) := by decide +kernel
theorem dX10_unpack_46 : decode cX10_unpack 46 = .ok (.getfield 10, 3) := by decide +kernel
theorem dX10_unpack_49 : decode cX10_unpack 49 = .ok (.getfield 39, 3) := by decide +kernel
theorem dX10_unpack_52 : decode cX10_unpack 52 = .ok (.aload_n 0, 1) := by decide +kernel
theorem dX10_unpack_53 : decode cX10_unpack 53 = .ok (.getfield 73, 3) := by decide +kernel
theorem dX10_unpack_56 : decode cX10_unpack 56 = .ok (.getfield 175, 3) := by decide +kernel
theorem dX10_unpack_59 : decode cX10_unpack 59 = .ok (.invokevirtual 178, 3) := by decide +kernel
theorem dX10_unpack_62 : decode cX10_unpack 62 = .ok (.aload_n 0, 1) := by decide +kernel
theorem dX10_unpack_63 : decode cX10_unpack 63 = .ok (.getfield 10, 3) := by decide +kernel
theorem dX10_unpack_66 : decode cX10_unpack 66 = .ok (.getfield 39, 3) := by decide +kernel
theorem dX10_unpack_69 : decode cX10_unpack 69 = .ok (.getfield 88, 3) := by decide +kernel
theorem dX10_unpack_72 : decode cX10_unpack 72 = .ok (.ireturn, 1) := by decide +kernel
theorem dX10_addToken_0 : decode cX10_addToken 0 = .ok (.iload_n 1, 1) := by decide +kernel
theorem dX10_addToken_1 : decode cX10_addToken 1 = .ok (.invokestatic 77, 3) := by decide +kernel
theorem dX10_addToken_4 : decode cX10_addToken 4 = .ok (.ifCond .ne 13, 3) := by decide +kernel
theorem dX10_addToken_7 : decode cX10_addToken 7 = .ok (.new 81, 3) := by decide +kernel
theorem dX10_addToken_10 : decode cX10_addToken 10 = .ok (.dup, 1) := by decide +kernel
theorem dX10_addToken_11 : decode cX10_addToken 11 = .ok (.ldc 83, 2) := by decide +kernel
theorem dX10_addToken_13 : decode cX10_addToken 13 = .ok (.invokespecial 85, 3) := by decide +kernel
theorem dX10_addToken_16 : decode cX10_addToken 16 = .ok (.athrow, 1) := by decide +kernel
theorem dX10_addToken_17 : decode cX10_addToken 17 = .ok (.aload_n 0, 1) := by decide +kernel
theorem dX10_addToken_18 : decode cX10_addToken 18 = .ok (.getfield 10, 3) := by decide +kernel
theorem dX10_addToken_21 : decode cX10_addToken 21 = .ok (.getfield 158, 3) := by decide +kernel
theorem dX10_addToken_24 : decode cX10_addToken 24 = .ok (.invokevirtual 182, 3) := by decide +kernel
theorem dX10_addToken_27 : decode cX10_addToken 27 = .ok (.ifCond .eq 13, 3) := by decide +kernel
theorem dX10_addToken_30 : decode cX10_addToken 30 = .ok (.new 94, 3) := by decide +kernel
theorem dX10_addToken_33 : decode cX10_addToken 33 = .ok (.dup, 1) := by decide +kernel
theorem dX10_addToken_34 : decode cX10_addToken 34 = .ok (.ldc 186, 2) := by decide +kernel
theorem dX10_addToken_36 : decode cX10_addToken 36 = .ok (.invokespecial 98, 3) := by decide +kernel
theorem dX10_addToken_39 : decode cX10_addToken 39 = .ok (.athrow, 1) := by decide +kernel
theorem dX10_addToken_40 : decode cX10_addToken 40 = .ok (.aload_n 0, 1) := by decide +kernel
theorem dX10_addToken_41 : decode cX10_addToken 41 = .ok (.getfield 26, 3) := by decide +kernel
theorem dX10_addToken_44 : decode cX10_addToken 44 = .ok (.aload_n 0, 1) := by decide +kernel
theorem dX10_addToken_45 : decode cX10_addToken 45 = .ok (.getfield 10, 3) := by decide +kernel
theorem dX10_addToken_48 : decode cX10_addToken 48 = .ok (.invokevirtual 99, 3) := by decide +kernel
theorem dX10_addToken_51 : decode cX10_addToken 51 = .ok (.aload_n 0, 1) := by decide +kernel
theorem dX10_addToken_52 : decode cX10_addToken 52 = .ok (.getfield 10, 3) := by decide +kernel
theorem dX10_addToken_55 : decode cX10_addToken 55 = .ok (.getfield 158, 3) := by decide +kernel
theorem dX10_addToken_58 : decode cX10_addToken 58 = .ok (.iconst 0, 1) := by decide +kernel
theorem dX10_addToken_59 : decode cX10_addToken 59 = .ok (.iload_n 1, 1) := by decide +kernel
theorem dX10_addToken_60 : decode cX10_addToken 60 = .ok (.invokevirtual 188, 3) := by decide +kernel
theorem dX10_addToken_63 : decode cX10_addToken 63 = .ok (.aload_n 0, 1) := by decide +kernel
theorem dX10_addToken_64 : decode cX10_addToken 64 = .ok (.getfield 10, 3) := by decide +kernel
theorem dX10_addToken_67 : decode cX10_addToken 67 = .ok (.getfield 158, 3) := by decide +kernel
theorem dX10_addToken_70 : decode cX10_addToken 70 = .ok (.getfield 165, 3) := by decide +kernel
theorem dX10_addToken_73 : decode cX10_addToken 73 = .ok (.ireturn, 1) := by decide +kernel
theorem dX10_addRepeat_0 : decode cX10_addRepeat 0 = .ok (.iload_n 1, 1) := by decide +kernel
theorem dX10_addRepeat_1 : decode cX10_addRepeat 1 = .ok (.iconst 1, 1) := by decide +kernel
theorem dX10_addRepeat_2 : decode cX10_addRepeat 2 = .ok (.bipush 39, 2) := by decide +kernel
theorem dX10_addRepeat_4 : decode cX10_addRepeat 4 = .ok (.invokestatic 126, 3) := by decide +kernel
theorem dX10_addRepeat_7 : decode cX10_addRepeat 7 = .ok (.ifCond .eq 13, 3) := by decide +kernel
theorem dX10_addRepeat_10 : decode cX10_addRepeat 10 = .ok (.iload_n 2, 1) := by decide +kernel
theorem dX10_addRepeat_11 : decode cX10_addRepeat 11 = .ok (.iconst 1, 1) := by decide +kernel
theorem dX10_addRepeat_12 : decode cX10_addRepeat 12 = .ok (.bipush 40, 2) := by decide +kernel
theorem dX10_addRepeat_14 : decode cX10_addRepeat 14 = .ok (.invokestatic 126, 3) := by decide +kernel
theorem dX10_addRepeat_17 : decode cX10_addRepeat 17 = .ok (.ifCond .ne 13, 3) := by decide +kernel
theorem dX10_addRepeat_20 : decode cX10_addRepeat 20 = .ok (.new 81, 3) := by decide +kernel
theorem dX10_addRepeat_23 : decode cX10_addRepeat 23 = .ok (.dup, 1) := by decide +kernel
theorem dX10_addRepeat_24 : decode cX10_addRepeat 24 = .ok (.ldc 190, 2) := by decide +kernel
theorem dX10_addRepeat_26 : decode cX10_addRepeat 26 = .ok (.invokespecial 85, 3) := by decide +kernel
theorem dX10_addRepeat_29 : decode cX10_addRepeat 29 = .ok (.athrow, 1) := by decide +kernel
theorem dX10_addRepeat_30 : decode cX10_addRepeat 30 = .ok (.aload_n 0, 1) := by decide +kernel
theorem dX10_addRepeat_31 : decode cX10_addRepeat 31 = .ok (.getfield 10, 3) := by decide +kernel
theorem dX10_addRepeat_34 : decode cX10_addRepeat 34 = .ok (.getfield 158, 3) := by decide +kernel
theorem dX10_addRepeat_37 : decode cX10_addRepeat 37 = .ok (.invokevirtual 182, 3) := by decide +kernel
theorem dX10_addRepeat_40 : decode cX10_addRepeat 40 = .ok (.ifCond .eq 13, 3) := by decide +kernel
theorem dX10_addRepeat_43 : decode cX10_addRepeat 43 = .ok (.new 94, 3) := by decide +kernel
theorem dX10_addRepeat_46 : decode cX10_addRepeat 46 = .ok (.dup, 1) := by decide +kernel
theorem dX10_addRepeat_47 : decode cX10_addRepeat 47 = .ok (.ldc 186, 2) := by decide +kernel
theorem dX10_addRepeat_49 : decode cX10_addRepeat 49 = .ok (.invokespecial 98, 3) := by decide +kernel
theorem dX10_addRepeat_52 : decode cX10_addRepeat 52 = .ok (.athrow, 1) := by decide +kernel
theorem dX10_addRepeat_53 : decode cX10_addRepeat 53 = .ok (.aload_n 0, 1) := by decide +kernel
theorem dX10_addRepeat_54 : decode cX10_addRepeat 54 = .ok (.getfield 26, 3) := by decide +kernel
theorem dX10_addRepeat_57 : decode cX10_addRepeat 57 = .ok (.aload_n 0, 1) := by decide +kernel
theorem dX10_addRepeat_58 : decode cX10_addRepeat 58 = .ok (.getfield 10, 3) := by decide +kernel
theorem dX10_addRepeat_61 : decode cX10_addRepeat 61 = .ok (.invokevirtual 99, 3) := by decide +kernel
theorem dX10_addRepeat_64 : decode cX10_addRepeat 64 = .ok (.aload_n 0, 1) := by decide +kernel
theorem dX10_addRepeat_65 : decode cX10_addRepeat 65 = .ok (.getfield 10, 3) := by decide +kernel
theorem dX10_addRepeat_68 : decode cX10_addRepeat 68 = .ok (.getfield 158, 3) := by decide +kernel
theorem dX10_addRepeat_71 : decode cX10_addRepeat 71 = .ok (.iload_n 1, 1) := by decide +kernel
theorem dX10_addRepeat_72 : decode cX10_addRepeat 72 = .ok (.iload_n 2, 1) := by decide +kernel
theorem dX10_addRepeat_73 : decode cX10_addRepeat 73 = .ok (.invokevirtual 188, 3) := by decide +kernel
theorem dX10_addRepeat_76 : decode cX10_addRepeat 76 = .ok (.aload_n 0, 1) := by decide +kernel
theorem dX10_addRepeat_77 : decode cX10_addRepeat 77 = .ok (.getfield 10, 3) := by decide +kernel
theorem dX10_addRepeat_80 : decode cX10_addRepeat 80 = .ok (.getfield 158, 3) := by decide +kernel
theorem dX10_addRepeat_83 : decode cX10_addRepeat 83 = .ok (.getfield 165, 3) := by decide +kernel
theorem dX10_addRepeat_86 : decode cX10_addRepeat 86 = .ok (.ireturn, 1) := by decide +kernel
theorem dX10_takeLast_0 : decode cX10_takeLast 0 = .ok (.aload_n 0, 1) := by decide +kernel
theorem dX10_takeLast_1 : decode cX10_takeLast 1 = .ok (.getfield 10, 3) := by decide +kernel
theorem dX10_takeLast_4 : decode cX10_takeLast 4 = .ok (.getfield 158, 3) := by decide +kernel
theorem dX10_takeLast_7 : decode cX10_takeLast 7 = .ok (.getfield 165, 3) := by decide +kernel
theorem dX10_takeLast_10 : decode cX10_takeLast 10 = .ok (.ifCond .gt 13, 3) := by decide +kernel
theorem dX10_takeLast_13 : decode cX10_takeLast 13 = .ok (.new 94, 3) := by decide +kernel
theorem dX10_takeLast_16 : decode cX10_takeLast 16 = .ok (.dup, 1) := by decide +kernel
theorem dX10_takeLast_17 : decode cX10_takeLast 17 = .ok (.ldc 192, 2) := by decide +kernel
theorem dX10_takeLast_19 : decode cX10_takeLast 19 = .ok (.invokespecial 98, 3) := by decide +kernel
theorem dX10_takeLast_22 : decode cX10_takeLast 22 = .ok (.athrow, 1) := by decide +kernel
theorem dX10_takeLast_23 : decode cX10_takeLast 23 = .ok (.aload_n 0, 1) := by decide +kernel
theorem dX10_takeLast_24 : decode cX10_takeLast 24 = .ok (.getfield 26, 3) := by decide +kernel
theorem dX10_takeLast_27 : decode cX10_takeLast 27 = .ok (.aload_n 0, 1) := by decide +kernel
theorem dX10_takeLast_28 : decode cX10_takeLast 28 = .ok (.getfield 10, 3) := by decide +kernel
theorem dX10_takeLast_31 : decode cX10_takeLast 31 = .ok (.invokevirtual 99, 3) := by decide +kernel
theorem dX10_takeLast_34 : decode cX10_takeLast 34 = .ok (.aload_n 0, 1) := by decide +kernel
theorem dX10_takeLast_35 : decode cX10_takeLast 35 = .ok (.getfield 10, 3) := by decide +kernel
theorem dX10_takeLast_38 : decode cX10_takeLast 38 = .ok (.getfield 158, 3) := by decide +kernel
theorem dX10_takeLast_41 : decode cX10_takeLast 41 = .ok (.dup, 1) := by decide +kernel
theorem dX10_takeLast_42 : decode cX10_takeLast 42 = .ok (.getfield 165, 3) := by decide +kernel
theorem dX10_takeLast_45 : decode cX10_takeLast 45 = .ok (.iconst 1, 1) := by decide +kernel
theorem dX10_takeLast_46 : decode cX10_takeLast 46 = .ok (.isub, 1) := by decide +kernel
theorem dX10_takeLast_47 : decode cX10_takeLast 47 = .ok (.putfield 165, 3) := by decide +kernel
theorem dX10_takeLast_50 : decode cX10_takeLast 50 = .ok (.aload_n 0, 1) := by decide +kernel
theorem dX10_takeLast_51 : decode cX10_takeLast 51 = .ok (.getfield 10, 3) := by decide +kernel
theorem dX10_takeLast_54 : decode cX10_takeLast 54 = .ok (.getfield 158, 3) := by decide +kernel
theorem dX10_takeLast_57 : decode cX10_takeLast 57 = .ok (.getfield 165, 3) := by decide +kernel
theorem dX10_takeLast_60 : decode cX10_takeLast 60 = .ok (.ireturn, 1) := by decide +kernel
theorem dX10_emptySack_0 : decode cX10_emptySack 0 = .ok (.aload_n 0, 1) := by decide +kernel
theorem dX10_emptySack_1 : decode cX10_emptySack 1 = .ok (.getfield 26, 3) := by decide +kernel
theorem dX10_emptySack_4 : decode cX10_emptySack 4 = .ok (.aload_n 0, 1) := by decide +kernel
theorem dX10_emptySack_5 : decode cX10_emptySack 5 = .ok (.getfield 10, 3) := by decide +kernel
theorem dX10_emptySack_8 : decode cX10_emptySack 8 = .ok (.invokevirtual 99, 3) := by decide +kernel
theorem dX10_emptySack_11 : decode cX10_emptySack 11 = .ok (.aload_n 0, 1) := by decide +kernel
theorem dX10_emptySack_12 : decode cX10_emptySack 12 = .ok (.getfield 10, 3) := by decide +kernel
theorem dX10_emptySack_15 : decode cX10_emptySack 15 = .ok (.getfield 158, 3) := by decide +kernel
theorem dX10_emptySack_18 : decode cX10_emptySack 18 = .ok (.getfield 165, 3) := by decide +kernel
theorem dX10_emptySack_21 : decode cX10_emptySack 21 = .ok (.istore_n 1, 1) := by decide +kernel
theorem dX10_emptySack_22 : decode cX10_emptySack 22 = .ok (.aload_n 0, 1) := by decide +kernel
theorem dX10_emptySack_23 : decode cX10_emptySack 23 = .ok (.getfield 10, 3) := by decide +kernel
theorem dX10_emptySack_26 : decode cX10_emptySack 26 = .ok (.getfield 158, 3) := by decide +kernel
theorem dX10_emptySack_29 : decode cX10_emptySack 29 = .ok (.invokevirtual 194, 3) := by decide +kernel
theorem dX10_emptySack_32 : decode cX10_emptySack 32 = .ok (.iload_n 1, 1) := by decide +kernel
theorem dX10_emptySack_33 : decode cX10_emptySack 33 = .ok (.ireturn, 1) := by decide +kernel
theorem dX10_append_0 : decode cX10_append 0 = .ok (.iload_n 1, 1) := by decide +kernel
theorem dX10_append_1 : decode cX10_append 1 = .ok (.bipush 33, 2) := by decide +kernel
theorem dX10_append_3 : decode cX10_append 3 = .ok (.bipush 126, 2) := by decide +kernel
theorem dX10_append_5 : decode cX10_append 5 = .ok (.invokestatic 126, 3) := by decide +kernel
theorem dX10_append_8 : decode cX10_append 8 = .ok (.ifCond .ne 13, 3) := by decide +kernel
theorem dX10_append_11 : decode cX10_append 11 = .ok (.new 81, 3) := by decide +kernel
theorem dX10_append_14 : decode cX10_append 14 = .ok (.dup, 1) := by decide +kernel
theorem dX10_append_15 : decode cX10_append 15 = .ok (.ldc 195, 2) := by decide +kernel
theorem dX10_append_17 : decode cX10_append 17 = .ok (.invokespecial 85, 3) := by decide +kernel
theorem dX10_append_20 : decode cX10_append 20 = .ok (.athrow, 1) := by decide +kernel
theorem dX10_append_21 : decode cX10_append 21 = .ok (.aload_n 0, 1) := by decide +kernel
theorem dX10_append_22 : decode cX10_append 22 = .ok (.getfield 33, 3) := by decide +kernel
theorem dX10_append_25 : decode cX10_append 25 = .ok (.getfield 197, 3) := by decide +kernel
theorem dX10_append_28 : decode cX10_append 28 = .ok (.bipush 60, 2) := by decide +kernel
theorem dX10_append_30 : decode cX10_append 30 = .ok (.if_icmp .lt 13, 3) := by decide +kernel
theorem dX10_append_33 : decode cX10_append 33 = .ok (.new 94, 3) := by decide +kernel
theorem dX10_append_36 : decode cX10_append 36 = .ok (.dup, 1) := by decide +kernel
theorem dX10_append_37 : decode cX10_append 37 = .ok (.ldc 198, 2) := by decide +kernel
theorem dX10_append_39 : decode cX10_append 39 = .ok (.invokespecial 98, 3) := by decide +kernel
theorem dX10_append_42 : decode cX10_append 42 = .ok (.athrow, 1) := by decide +kernel
theorem dX10_append_43 : decode cX10_append 43 = .ok (.aload_n 0, 1) := by decide +kernel
theorem dX10_append_44 : decode cX10_append 44 = .ok (.getfield 33, 3) := by decide +kernel
theorem dX10_append_47 : decode cX10_append 47 = .ok (.iload_n 1, 1) := by decide +kernel
theorem dX10_append_48 : decode cX10_append 48 = .ok (.invokevirtual 200, 3) := by decide +kernel
theorem dX10_append_51 : decode cX10_append 51 = .ok (.aload_n 0, 1) := by decide +kernel
theorem dX10_append_52 : decode cX10_append 52 = .ok (.getfield 33, 3) := by decide +kernel
theorem dX10_append_55 : decode cX10_append 55 = .ok (.getfield 197, 3) := by decide +kernel
theorem dX10_append_58 : decode cX10_append 58 = .ok (.ireturn, 1) := by decide +kernel
theorem dX10_clearBuffer_0 : decode cX10_clearBuffer 0 = .ok (.aload_n 0, 1) := by decide +kernel
theorem dX10_clearBuffer_1 : decode cX10_clearBuffer 1 = .ok (.getfield 33, 3) := by decide +kernel
theorem dX10_clearBuffer_4 : decode cX10_clearBuffer 4 = .ok (.getfield 197, 3) := by decide +kernel
theorem dX10_clearBuffer_7 : decode cX10_clearBuffer 7 = .ok (.istore_n 1, 1) := by decide +kernel
theorem dX10_clearBuffer_8 : decode cX10_clearBuffer 8 = .ok (.aload_n 0, 1) := by decide +kernel
theorem dX10_clearBuffer_9 : decode cX10_clearBuffer 9 = .ok (.getfield 33, 3) := by decide +kernel
theorem dX10_clearBuffer_12 : decode cX10_clearBuffer 12 = .ok (.invokevirtual 201, 3) := by decide +kernel
theorem dX10_clearBuffer_15 : decode cX10_clearBuffer 15 = .ok (.iload_n 1, 1) := by decide +kernel
theorem dX10_clearBuffer_16 : decode cX10_clearBuffer 16 = .ok (.ireturn, 1) := by decide +kernel
theorem dX10_firstError_0 : decode cX10_firstError 0 = .ok (.aload_n 0, 1) := by decide +kernel
theorem dX10_firstError_1 : decode cX10_firstError 1 = .ok (.getfield 33, 3) := by decide +kernel
theorem dX10_firstError_4 : decode cX10_firstError 4 = .ok (.invokevirtual 202, 3) := by decide +kernel
theorem dX10_firstError_7 : decode cX10_firstError 7 = .ok (.ireturn, 1) := by decide +kernel
theorem dX10_putLetters_0 : decode cX10_putLetters 0 = .ok (.iload_n 2, 1) := by decide +kernel
theorem dX10_putLetters_1 : decode cX10_putLetters 1 = .ok (.iload_n 1, 1) := by decide +kernel
theorem dX10_putLetters_2 : decode cX10_putLetters 2 = .ok (.isub, 1) := by decide +kernel
theorem dX10_putLetters_3 : decode cX10_putLetters 3 = .ok (.bipush 40, 2) := by decide +kernel
theorem dX10_putLetters_5 : decode cX10_putLetters 5 = .ok (.aload_n 0, 1) := by decide +kernel
theorem dX10_putLetters_6 : decode cX10_putLetters 6 = .ok (.getfield 10, 3) := by decide +kernel
theorem dX10_putLetters_9 : decode cX10_putLetters 9 = .ok (.getfield 39, 3) := by decide +kernel
theorem dX10_putLetters_12 : decode cX10_putLetters 12 = .ok (.getfield 88, 3) := by decide +kernel
theorem dX10_putLetters_15 : decode cX10_putLetters 15 = .ok (.isub, 1) := by decide +kernel
theorem dX10_putLetters_16 : decode cX10_putLetters 16 = .ok (.if_icmp .le 5, 3) := by decide +kernel
theorem dX10_putLetters_19 : decode cX10_putLetters 19 = .ok (.iconst 3, 1) := by decide +kernel
theorem dX10_putLetters_20 : decode cX10_putLetters 20 = .ok (.ireturn, 1) := by decide +kernel
theorem dX10_putLetters_21 : decode cX10_putLetters 21 = .ok (.iload_n 1, 1) := by decide +kernel
theorem dX10_putLetters_22 : decode cX10_putLetters 22 = .ok (.istore_n 3, 1) := by decide +kernel
theorem dX10_putLetters_23 : decode cX10_putLetters 23 = .ok (.iload_n 3, 1) := by decide +kernel
theorem dX10_putLetters_24 : decode cX10_putLetters 24 = .ok (.iload_n 2, 1) := by decide +kernel
theorem dX10_putLetters_25 : decode cX10_putLetters 25 = .ok (.if_icmp .ge 30, 3) := by decide +kernel
theorem dX10_putLetters_28 : decode cX10_putLetters 28 = .ok (.aload_n 0, 1) := by decide +kernel
theorem dX10_putLetters_29 : decode cX10_putLetters 29 = .ok (.getfield 10, 3) := by decide +kernel
theorem dX10_putLetters_32 : decode cX10_putLetters 32 = .ok (.getfield 39, 3) := by decide +kernel
theorem dX10_putLetters_35 : decode cX10_putLetters 35 = .ok (.aload_n 0, 1) := by decide +kernel
theorem dX10_putLetters_36 : decode cX10_putLetters 36 = .ok (.getfield 33, 3) := by decide +kernel
theorem dX10_putLetters_39 : decode cX10_putLetters 39 = .ok (.iload_n 3, 1) := by decide +kernel
theorem dX10_putLetters_40 : decode cX10_putLetters 40 = .ok (.invokevirtual 344, 3) := by decide +kernel
theorem dX10_putLetters_43 : decode cX10_putLetters 43 = .ok (.bipush 97, 2) := by decide +kernel
theorem dX10_putLetters_45 : decode cX10_putLetters 45 = .ok (.isub, 1) := by decide +kernel
theorem dX10_putLetters_46 : decode cX10_putLetters 46 = .ok (.invokevirtual 103, 3) := by decide +kernel
theorem dX10_putLetters_49 : decode cX10_putLetters 49 = .ok (.iinc 3 1, 3) := by decide +kernel
theorem dX10_putLetters_52 : decode cX10_putLetters 52 = .ok (.goto (-29), 3) := by decide +kernel
theorem dX10_putLetters_55 : decode cX10_putLetters 55 = .ok (.iconst 0, 1) := by decide +kernel
theorem dX10_putLetters_56 : decode cX10_putLetters 56 = .ok (.ireturn, 1) := by decide +kernel
theorem dX10_unpackIfPossible_0 : decode cX10_unpackIfPossible 0 = .ok (.aload_n 0, 1) := by decide +kernel
theorem dX10_unpackIfPossible_1 : decode cX10_unpackIfPossible 1 = .ok (.getfield 73, 3) := by decide +kernel
theorem dX10_unpackIfPossible_4 : decode cX10_unpackIfPossible 4 = .ok (.aload_n 0, 1) := by decide +kernel
theorem dX10_unpackIfPossible_5 : decode cX10_unpackIfPossible 5 = .ok (.getfield 10, 3) := by decide +kernel
theorem dX10_unpackIfPossible_8 : decode cX10_unpackIfPossible 8 = .ok (.getfield 158, 3) := by decide +kernel
theorem dX10_unpackIfPossible_11 : decode cX10_unpackIfPossible 11 = .ok (.invokevirtual 166, 3) := by decide +kernel
theorem dX10_unpackIfPossible_14 : decode cX10_unpackIfPossible 14 = .ok (.aload_n 0, 1) := by decide +kernel
theorem dX10_unpackIfPossible_15 : decode cX10_unpackIfPossible 15 = .ok (.getfield 73, 3) := by decide +kernel
theorem dX10_unpackIfPossible_18 : decode cX10_unpackIfPossible 18 = .ok (.getfield 170, 3) := by decide +kernel
theorem dX10_unpackIfPossible_21 : decode cX10_unpackIfPossible 21 = .ok (.ifCond .ne 20, 3) := by decide +kernel
theorem dX10_unpackIfPossible_24 : decode cX10_unpackIfPossible 24 = .ok (.aload_n 0, 1) := by decide +kernel
theorem dX10_unpackIfPossible_25 : decode cX10_unpackIfPossible 25 = .ok (.getfield 10, 3) := by decide +kernel
theorem dX10_unpackIfPossible_28 : decode cX10_unpackIfPossible 28 = .ok (.getfield 39, 3) := by decide +kernel
theorem dX10_unpackIfPossible_31 : decode cX10_unpackIfPossible 31 = .ok (.aload_n 0, 1) := by decide +kernel
theorem dX10_unpackIfPossible_32 : decode cX10_unpackIfPossible 32 = .ok (.getfield 73, 3) := by decide +kernel
theorem dX10_unpackIfPossible_35 : decode cX10_unpackIfPossible 35 = .ok (.getfield 175, 3) := by decide +kernel
theorem dX10_unpackIfPossible_38 : decode cX10_unpackIfPossible 38 = .ok (.invokevirtual 178, 3) := by decide +kernel
theorem dX10_unpackIfPossible_41 : decode cX10_unpackIfPossible 41 = .ok (.aload_n 0, 1) := by decide +kernel
theorem dX10_unpackIfPossible_42 : decode cX10_unpackIfPossible 42 = .ok (.getfield 73, 3) := by decide +kernel
theorem dX10_unpackIfPossible_45 : decode cX10_unpackIfPossible 45 = .ok (.getfield 170, 3) := by decide +kernel
theorem dX10_unpackIfPossible_48 : decode cX10_unpackIfPossible 48 = .ok (.ireturn, 1) := by decide +kernel
theorem dX10_putToken_0 : decode cX10_putToken 0 = .ok (.aload_n 0, 1) := by decide +kernel
theorem dX10_putToken_1 : decode cX10_putToken 1 = .ok (.getfield 10, 3) := by decide +kernel
theorem dX10_putToken_4 : decode cX10_putToken 4 = .ok (.getfield 158, 3) := by decide +kernel
theorem dX10_putToken_7 : decode cX10_putToken 7 = .ok (.invokevirtual 182, 3) := by decide +kernel
theorem dX10_putToken_10 : decode cX10_putToken 10 = .ok (.ifCond .eq 5, 3) := by decide +kernel
theorem dX10_putToken_13 : decode cX10_putToken 13 = .ok (.iconst 4, 1) := by decide +kernel
theorem dX10_putToken_14 : decode cX10_putToken 14 = .ok (.ireturn, 1) := by decide +kernel
theorem dX10_putToken_15 : decode cX10_putToken 15 = .ok (.aload_n 0, 1) := by decide +kernel
theorem dX10_putToken_16 : decode cX10_putToken 16 = .ok (.getfield 10, 3) := by decide +kernel
theorem dX10_putToken_19 : decode cX10_putToken 19 = .ok (.getfield 158, 3) := by decide +kernel
theorem dX10_putToken_22 : decode cX10_putToken 22 = .ok (.iload_n 1, 1) := by decide +kernel
theorem dX10_putToken_23 : decode cX10_putToken 23 = .ok (.iload_n 2, 1) := by decide +kernel
theorem dX10_putToken_24 : decode cX10_putToken 24 = .ok (.invokevirtual 188, 3) := by decide +kernel
theorem dX10_putToken_27 : decode cX10_putToken 27 = .ok (.iconst 0, 1) := by decide +kernel
theorem dX10_putToken_28 : decode cX10_putToken 28 = .ok (.ireturn, 1) := by decide +kernel
theorem dX10_doPart_0 : decode cX10_doPart 0 = .ok (.aload_n 0, 1) := by decide +kernel
theorem dX10_doPart_1 : decode cX10_doPart 1 = .ok (.getfield 33, 3) := by decide +kernel
theorem dX10_doPart_4 : decode cX10_doPart 4 = .ok (.iload_n 1, 1) := by decide +kernel
theorem dX10_doPart_5 : decode cX10_doPart 5 = .ok (.invokevirtual 344, 3) := by decide +kernel
theorem dX10_doPart_8 : decode cX10_doPart 8 = .ok (.lookupswitch 197 #[(43, 68), (45, 84), (101, 130), (108, 142), (112, 96), (114, 161), (117, 125)], 68) := by decide +kernel
theorem dX10_doPart_76 : decode cX10_doPart 76 = .ok (.aload_n 0, 1) := by decide +kernel
theorem dX10_doPart_77 : decode cX10_doPart 77 = .ok (.iload_n 1, 1) := by decide +kernel
theorem dX10_doPart_78 : decode cX10_doPart 78 = .ok (.iconst 1, 1) := by decide +kernel
theorem dX10_doPart_79 : decode cX10_doPart 79 = .ok (.iadd, 1) := by decide +kernel
theorem dX10_doPart_80 : decode cX10_doPart 80 = .ok (.aload_n 0, 1) := by decide +kernel
theorem dX10_doPart_81 : decode cX10_doPart 81 = .ok (.getfield 33, 3) := by decide +kernel
theorem dX10_doPart_84 : decode cX10_doPart 84 = .ok (.iload_n 1, 1) := by decide +kernel
theorem dX10_doPart_85 : decode cX10_doPart 85 = .ok (.invokevirtual 214, 3) := by decide +kernel
theorem dX10_doPart_88 : decode cX10_doPart 88 = .ok (.invokevirtual 347, 3) := by decide +kernel
theorem dX10_doPart_91 : decode cX10_doPart 91 = .ok (.ireturn, 1) := by decide +kernel
theorem dX10_doPart_92 : decode cX10_doPart 92 = .ok (.aload_n 0, 1) := by decide +kernel
theorem dX10_doPart_93 : decode cX10_doPart 93 = .ok (.getfield 10, 3) := by decide +kernel
theorem dX10_doPart_96 : decode cX10_doPart 96 = .ok (.getfield 39, 3) := by decide +kernel
theorem dX10_doPart_99 : decode cX10_doPart 99 = .ok (.invokevirtual 123, 3) := by decide +kernel
theorem dX10_doPart_102 : decode cX10_doPart 102 = .ok (.iconst 0, 1) := by decide +kernel
theorem dX10_doPart_103 : decode cX10_doPart 103 = .ok (.ireturn, 1) := by decide +kernel
theorem dX10_doPart_104 : decode cX10_doPart 104 = .ok (.aload_n 0, 1) := by decide +kernel
theorem dX10_doPart_105 : decode cX10_doPart 105 = .ok (.getfield 59, 3) := by decide +kernel
theorem dX10_doPart_108 : decode cX10_doPart 108 = .ok (.aload_n 0, 1) := by decide +kernel
theorem dX10_doPart_109 : decode cX10_doPart 109 = .ok (.getfield 33, 3) := by decide +kernel
theorem dX10_doPart_112 : decode cX10_doPart 112 = .ok (.iload_n 1, 1) := by decide +kernel
theorem dX10_doPart_113 : decode cX10_doPart 113 = .ok (.iconst 1, 1) := by decide +kernel
theorem dX10_doPart_114 : decode cX10_doPart 114 = .ok (.iadd, 1) := by decide +kernel
theorem dX10_doPart_115 : decode cX10_doPart 115 = .ok (.invokevirtual 344, 3) := by decide +kernel
theorem dX10_doPart_118 : decode cX10_doPart 118 = .ok (.bipush 48, 2) := by decide +kernel
theorem dX10_doPart_120 : decode cX10_doPart 120 = .ok (.isub, 1) := by decide +kernel
theorem dX10_doPart_121 : decode cX10_doPart 121 = .ok (.aload_n 0, 1) := by decide +kernel
theorem dX10_doPart_122 : decode cX10_doPart 122 = .ok (.getfield 10, 3) := by decide +kernel
theorem dX10_doPart_125 : decode cX10_doPart 125 = .ok (.getfield 158, 3) := by decide +kernel
theorem dX10_doPart_128 : decode cX10_doPart 128 = .ok (.invokevirtual 161, 3) := by decide +kernel
theorem dX10_doPart_131 : decode cX10_doPart 131 = .ok (.iconst 0, 1) := by decide +kernel
theorem dX10_doPart_132 : decode cX10_doPart 132 = .ok (.ireturn, 1) := by decide +kernel
theorem dX10_doPart_133 : decode cX10_doPart 133 = .ok (.aload_n 0, 1) := by decide +kernel
theorem dX10_doPart_134 : decode cX10_doPart 134 = .ok (.invokevirtual 350, 3) := by decide +kernel
theorem dX10_doPart_137 : decode cX10_doPart 137 = .ok (.ireturn, 1) := by decide +kernel
theorem dX10_doPart_138 : decode cX10_doPart 138 = .ok (.aload_n 0, 1) := by decide +kernel
theorem dX10_doPart_139 : decode cX10_doPart 139 = .ok (.getfield 10, 3) := by decide +kernel
theorem dX10_doPart_142 : decode cX10_doPart 142 = .ok (.getfield 158, 3) := by decide +kernel
theorem dX10_doPart_145 : decode cX10_doPart 145 = .ok (.invokevirtual 194, 3) := by decide +kernel
theorem dX10_doPart_148 : decode cX10_doPart 148 = .ok (.iconst 0, 1) := by decide +kernel
theorem dX10_doPart_149 : decode cX10_doPart 149 = .ok (.ireturn, 1) := by decide +kernel
theorem dX10_doPart_150 : decode cX10_doPart 150 = .ok (.aload_n 0, 1) := by decide +kernel
theorem dX10_doPart_151 : decode cX10_doPart 151 = .ok (.iconst 0, 1) := by decide +kernel
theorem dX10_doPart_152 : decode cX10_doPart 152 = .ok (.aload_n 0, 1) := by decide +kernel
theorem dX10_doPart_153 : decode cX10_doPart 153 = .ok (.getfield 33, 3) := by decide +kernel
theorem dX10_doPart_156 : decode cX10_doPart 156 = .ok (.iload_n 1, 1) := by decide +kernel
theorem dX10_doPart_157 : decode cX10_doPart 157 = .ok (.iconst 1, 1) := by decide +kernel
theorem dX10_doPart_158 : decode cX10_doPart 158 = .ok (.iadd, 1) := by decide +kernel
theorem dX10_doPart_159 : decode cX10_doPart 159 = .ok (.invokevirtual 344, 3) := by decide +kernel
theorem dX10_doPart_162 : decode cX10_doPart 162 = .ok (.bipush 97, 2) := by decide +kernel
theorem dX10_doPart_164 : decode cX10_doPart 164 = .ok (.isub, 1) := by decide +kernel
theorem dX10_doPart_165 : decode cX10_doPart 165 = .ok (.invokevirtual 353, 3) := by decide +kernel
theorem dX10_doPart_168 : decode cX10_doPart 168 = .ok (.ireturn, 1) := by decide +kernel
theorem dX10_doPart_169 : decode cX10_doPart 169 = .ok (.aload_n 0, 1) := by decide +kernel
theorem dX10_doPart_170 : decode cX10_doPart 170 = .ok (.getfield 33, 3) := by decide +kernel
theorem dX10_doPart_173 : decode cX10_doPart 173 = .ok (.iload_n 1, 1) := by decide +kernel
theorem dX10_doPart_174 : decode cX10_doPart 174 = .ok (.iconst 1, 1) := by decide +kernel
theorem dX10_doPart_175 : decode cX10_doPart 175 = .ok (.iadd, 1) := by decide +kernel
theorem dX10_doPart_176 : decode cX10_doPart 176 = .ok (.invokevirtual 356, 3) := by decide +kernel
theorem dX10_doPart_179 : decode cX10_doPart 179 = .ok (.istore_n 2, 1) := by decide +kernel
theorem dX10_doPart_180 : decode cX10_doPart 180 = .ok (.aload_n 0, 1) := by decide +kernel
theorem dX10_doPart_181 : decode cX10_doPart 181 = .ok (.aload_n 0, 1) := by decide +kernel
theorem dX10_doPart_182 : decode cX10_doPart 182 = .ok (.getfield 33, 3) := by decide +kernel
theorem dX10_doPart_185 : decode cX10_doPart 185 = .ok (.iload_n 1, 1) := by decide +kernel
theorem dX10_doPart_186 : decode cX10_doPart 186 = .ok (.iconst 1, 1) := by decide +kernel
theorem dX10_doPart_187 : decode cX10_doPart 187 = .ok (.iadd, 1) := by decide +kernel
theorem dX10_doPart_188 : decode cX10_doPart 188 = .ok (.invokevirtual 359, 3) := by decide +kernel
theorem dX10_doPart_191 : decode cX10_doPart 191 = .ok (.aload_n 0, 1) := by decide +kernel
theorem dX10_doPart_192 : decode cX10_doPart 192 = .ok (.getfield 33, 3) := by decide +kernel
theorem dX10_doPart_195 : decode cX10_doPart 195 = .ok (.iload_n 2, 1) := by decide +kernel
theorem dX10_doPart_196 : decode cX10_doPart 196 = .ok (.iconst 1, 1) := by decide +kernel
theorem dX10_doPart_197 : decode cX10_doPart 197 = .ok (.iadd, 1) := by decide +kernel
theorem dX10_doPart_198 : decode cX10_doPart 198 = .ok (.invokevirtual 359, 3) := by decide +kernel
theorem dX10_doPart_201 : decode cX10_doPart 201 = .ok (.invokevirtual 353, 3) := by decide +kernel
theorem dX10_doPart_204 : decode cX10_doPart 204 = .ok (.ireturn, 1) := by decide +kernel
theorem dX10_doPart_205 : decode cX10_doPart 205 = .ok (.iconst 0, 1) := by decide +kernel
theorem dX10_doPart_206 : decode cX10_doPart 206 = .ok (.ireturn, 1) := by decide +kernel
theorem dX10_work_0 : decode cX10_work 0 = .ok (.aload_n 0, 1) := by decide +kernel
theorem dX10_work_1 : decode cX10_work 1 = .ok (.getfield 33, 3) := by decide +kernel
theorem dX10_work_4 : decode cX10_work 4 = .ok (.invokevirtual 206, 3) := by decide +kernel
theorem dX10_work_7 : decode cX10_work 7 = .ok (.ifCond .ne 13, 3) := by decide +kernel
theorem dX10_work_10 : decode cX10_work 10 = .ok (.new 81, 3) := by decide +kernel
theorem dX10_work_13 : decode cX10_work 13 = .ok (.dup, 1) := by decide +kernel
theorem dX10_work_14 : decode cX10_work 14 = .ok (.ldc 209, 2) := by decide +kernel
theorem dX10_work_16 : decode cX10_work 16 = .ok (.invokespecial 85, 3) := by decide +kernel
theorem dX10_work_19 : decode cX10_work 19 = .ok (.athrow, 1) := by decide +kernel
theorem dX10_work_20 : decode cX10_work 20 = .ok (.aload_n 0, 1) := by decide +kernel
theorem dX10_work_21 : decode cX10_work 21 = .ok (.getfield 26, 3) := by decide +kernel
theorem dX10_work_24 : decode cX10_work 24 = .ok (.aload_n 0, 1) := by decide +kernel
theorem dX10_work_25 : decode cX10_work 25 = .ok (.getfield 10, 3) := by decide +kernel
theorem dX10_work_28 : decode cX10_work 28 = .ok (.invokevirtual 99, 3) := by decide +kernel
theorem dX10_work_31 : decode cX10_work 31 = .ok (.iconst 0, 1) := by decide +kernel
theorem dX10_work_32 : decode cX10_work 32 = .ok (.istore_n 1, 1) := by decide +kernel
theorem dX10_work_33 : decode cX10_work 33 = .ok (.iconst 0, 1) := by decide +kernel
theorem dX10_work_34 : decode cX10_work 34 = .ok (.istore_n 2, 1) := by decide +kernel
theorem dX10_work_35 : decode cX10_work 35 = .ok (.iconst 0, 1) := by decide +kernel
theorem dX10_work_36 : decode cX10_work 36 = .ok (.istore_n 3, 1) := by decide +kernel
theorem dX10_work_37 : decode cX10_work 37 = .ok (.iconst 0, 1) := by decide +kernel
theorem dX10_work_38 : decode cX10_work 38 = .ok (.istore 4, 2) := by decide +kernel
theorem dX10_work_40 : decode cX10_work 40 = .ok (.iload 4, 2) := by decide +kernel
theorem dX10_work_42 : decode cX10_work 42 = .ok (.bipush 60, 2) := by decide +kernel
theorem dX10_work_44 : decode cX10_work 44 = .ok (.if_icmp .ge 48, 3) := by decide +kernel
theorem dX10_work_47 : decode cX10_work 47 = .ok (.iload_n 3, 1) := by decide +kernel
theorem dX10_work_48 : decode cX10_work 48 = .ok (.aload_n 0, 1) := by decide +kernel
theorem dX10_work_49 : decode cX10_work 49 = .ok (.getfield 33, 3) := by decide +kernel
theorem dX10_work_52 : decode cX10_work 52 = .ok (.getfield 197, 3) := by decide +kernel
theorem dX10_work_55 : decode cX10_work 55 = .ok (.if_icmp .ge 37, 3) := by decide +kernel
theorem dX10_work_58 : decode cX10_work 58 = .ok (.iload_n 2, 1) := by decide +kernel
theorem dX10_work_59 : decode cX10_work 59 = .ok (.ifCond .ne 33, 3) := by decide +kernel
theorem dX10_work_62 : decode cX10_work 62 = .ok (.aload_n 0, 1) := by decide +kernel
theorem dX10_work_63 : decode cX10_work 63 = .ok (.iload_n 3, 1) := by decide +kernel
theorem dX10_work_64 : decode cX10_work 64 = .ok (.invokevirtual 211, 3) := by decide +kernel
theorem dX10_work_67 : decode cX10_work 67 = .ok (.istore_n 2, 1) := by decide +kernel
theorem dX10_work_68 : decode cX10_work 68 = .ok (.iload_n 2, 1) := by decide +kernel
theorem dX10_work_69 : decode cX10_work 69 = .ok (.ifCond .ne 17, 3) := by decide +kernel
theorem dX10_work_72 : decode cX10_work 72 = .ok (.iinc 1 1, 3) := by decide +kernel
theorem dX10_work_75 : decode cX10_work 75 = .ok (.aload_n 0, 1) := by decide +kernel
theorem dX10_work_76 : decode cX10_work 76 = .ok (.getfield 33, 3) := by decide +kernel
theorem dX10_work_79 : decode cX10_work 79 = .ok (.iload_n 3, 1) := by decide +kernel
theorem dX10_work_80 : decode cX10_work 80 = .ok (.invokevirtual 214, 3) := by decide +kernel
theorem dX10_work_83 : decode cX10_work 83 = .ok (.iconst 1, 1) := by decide +kernel
theorem dX10_work_84 : decode cX10_work 84 = .ok (.iadd, 1) := by decide +kernel
theorem dX10_work_85 : decode cX10_work 85 = .ok (.istore_n 3, 1) := by decide +kernel
theorem dX10_work_86 : decode cX10_work 86 = .ok (.iinc 4 1, 3) := by decide +kernel
theorem dX10_work_89 : decode cX10_work 89 = .ok (.goto (-49), 3) := by decide +kernel
theorem dX10_work_92 : decode cX10_work 92 = .ok (.aload_n 0, 1) := by decide +kernel
theorem dX10_work_93 : decode cX10_work 93 = .ok (.getfield 10, 3) := by decide +kernel
theorem dX10_work_96 : decode cX10_work 96 = .ok (.iload_n 2, 1) := by decide +kernel
theorem dX10_work_97 : decode cX10_work 97 = .ok (.putfield 217, 3) := by decide +kernel
theorem dX10_work_100 : decode cX10_work 100 = .ok (.aload_n 0, 1) := by decide +kernel
theorem dX10_work_101 : decode cX10_work 101 = .ok (.getfield 10, 3) := by decide +kernel
theorem dX10_work_104 : decode cX10_work 104 = .ok (.iload_n 2, 1) := by decide +kernel
theorem dX10_work_105 : decode cX10_work 105 = .ok (.ifCond .ne 7, 3) := by decide +kernel
theorem dX10_work_108 : decode cX10_work 108 = .ok (.iconst 0, 1) := by decide +kernel
theorem dX10_work_109 : decode cX10_work 109 = .ok (.goto 4, 3) := by decide +kernel
theorem dX10_work_112 : decode cX10_work 112 = .ok (.iload_n 1, 1) := by decide +kernel
theorem dX10_work_113 : decode cX10_work 113 = .ok (.putfield 220, 3) := by decide +kernel
theorem dX10_work_116 : decode cX10_work 116 = .ok (.aload_n 0, 1) := by decide +kernel
theorem dX10_work_117 : decode cX10_work 117 = .ok (.getfield 33, 3) := by decide +kernel
theorem dX10_work_120 : decode cX10_work 120 = .ok (.invokevirtual 201, 3) := by decide +kernel
theorem dX10_work_123 : decode cX10_work 123 = .ok (.iload_n 1, 1) := by decide +kernel
theorem dX10_work_124 : decode cX10_work 124 = .ok (.ireturn, 1) := by decide +kernel
theorem dX10_hasStopped_0 : decode cX10_hasStopped 0 = .ok (.aload_n 0, 1) := by decide +kernel
theorem dX10_hasStopped_1 : decode cX10_hasStopped 1 = .ok (.getfield 10, 3) := by decide +kernel
theorem dX10_hasStopped_4 : decode cX10_hasStopped 4 = .ok (.getfield 217, 3) := by decide +kernel
theorem dX10_hasStopped_7 : decode cX10_hasStopped 7 = .ok (.ifCond .eq 7, 3) := by decide +kernel
theorem dX10_hasStopped_10 : decode cX10_hasStopped 10 = .ok (.iconst 1, 1) := by decide +kernel
theorem dX10_hasStopped_11 : decode cX10_hasStopped 11 = .ok (.goto 4, 3) := by decide +kernel
theorem dX10_hasStopped_14 : decode cX10_hasStopped 14 = .ok (.iconst 0, 1) := by decide +kernel
theorem dX10_hasStopped_15 : decode cX10_hasStopped 15 = .ok (.ireturn, 1) := by decide +kernel
theorem dX10_stoppedPart_0 : decode cX10_stoppedPart 0 = .ok (.aload_n 0, 1) := by decide +kernel
theorem dX10_stoppedPart_1 : decode cX10_stoppedPart 1 = .ok (.getfield 10, 3) := by decide +kernel
theorem dX10_stoppedPart_4 : decode cX10_stoppedPart 4 = .ok (.getfield 217, 3) := by decide +kernel
theorem dX10_stoppedPart_7 : decode cX10_stoppedPart 7 = .ok (.ifCond .ne 13, 3) := by decide +kernel
theorem dX10_stoppedPart_10 : decode cX10_stoppedPart 10 = .ok (.new 94, 3) := by decide +kernel
theorem dX10_stoppedPart_13 : decode cX10_stoppedPart 13 = .ok (.dup, 1) := by decide +kernel
theorem dX10_stoppedPart_14 : decode cX10_stoppedPart 14 = .ok (.ldc 223, 2) := by decide +kernel
theorem dX10_stoppedPart_16 : decode cX10_stoppedPart 16 = .ok (.invokespecial 98, 3) := by decide +kernel
theorem dX10_stoppedPart_19 : decode cX10_stoppedPart 19 = .ok (.athrow, 1) := by decide +kernel
theorem dX10_stoppedPart_20 : decode cX10_stoppedPart 20 = .ok (.aload_n 0, 1) := by decide +kernel
theorem dX10_stoppedPart_21 : decode cX10_stoppedPart 21 = .ok (.getfield 10, 3) := by decide +kernel
theorem dX10_stoppedPart_24 : decode cX10_stoppedPart 24 = .ok (.getfield 220, 3) := by decide +kernel
theorem dX10_stoppedPart_27 : decode cX10_stoppedPart 27 = .ok (.ireturn, 1) := by decide +kernel
theorem dX10_whyStopped_0 : decode cX10_whyStopped 0 = .ok (.aload_n 0, 1) := by decide +kernel
theorem dX10_whyStopped_1 : decode cX10_whyStopped 1 = .ok (.getfield 10, 3) := by decide +kernel
theorem dX10_whyStopped_4 : decode cX10_whyStopped 4 = .ok (.getfield 217, 3) := by decide +kernel
theorem dX10_whyStopped_7 : decode cX10_whyStopped 7 = .ok (.ifCond .ne 13, 3) := by decide +kernel
theorem dX10_whyStopped_10 : decode cX10_whyStopped 10 = .ok (.new 94, 3) := by decide +kernel
theorem dX10_whyStopped_13 : decode cX10_whyStopped 13 = .ok (.dup, 1) := by decide +kernel
theorem dX10_whyStopped_14 : decode cX10_whyStopped 14 = .ok (.ldc 223, 2) := by decide +kernel
theorem dX10_whyStopped_16 : decode cX10_whyStopped 16 = .ok (.invokespecial 98, 3) := by decide +kernel
theorem dX10_whyStopped_19 : decode cX10_whyStopped 19 = .ok (.athrow, 1) := by decide +kernel
theorem dX10_whyStopped_20 : decode cX10_whyStopped 20 = .ok (.aload_n 0, 1) := by decide +kernel
theorem dX10_whyStopped_21 : decode cX10_whyStopped 21 = .ok (.getfield 10, 3) := by decide +kernel
theorem dX10_whyStopped_24 : decode cX10_whyStopped 24 = .ok (.getfield 217, 3) := by decide +kernel
theorem dX10_whyStopped_27 : decode cX10_whyStopped 27 = .ok (.ireturn, 1) := by decide +kernel
theorem dX10_undo_0 : decode cX10_undo 0 = .ok (.aload_n 0, 1) := by decide +kernel
theorem dX10_undo_1 : decode cX10_undo 1 = .ok (.getfield 26, 3) := by decide +kernel
theorem dX10_undo_4 : decode cX10_undo 4 = .ok (.getfield 225, 3) := by decide +kernel
theorem dX10_undo_7 : decode cX10_undo 7 = .ok (.ifCond .gt 13, 3) := by decide +kernel
theorem dX10_undo_10 : decode cX10_undo 10 = .ok (.new 94, 3) := by decide +kernel
theorem dX10_undo_13 : decode cX10_undo 13 = .ok (.dup, 1) := by decide +kernel
theorem dX10_undo_14 : decode cX10_undo 14 = .ok (.ldc 226, 2) := by decide +kernel
theorem dX10_undo_16 : decode cX10_undo 16 = .ok (.invokespecial 98, 3) := by decide +kernel
theorem dX10_undo_19 : decode cX10_undo 19 = .ok (.athrow, 1) := by decide +kernel
theorem dX10_undo_20 : decode cX10_undo 20 = .ok (.aload_n 0, 1) := by decide +kernel
theorem dX10_undo_21 : decode cX10_undo 21 = .ok (.getfield 26, 3) := by decide +kernel
theorem dX10_undo_24 : decode cX10_undo 24 = .ok (.aload_n 0, 1) := by decide +kernel
theorem dX10_undo_25 : decode cX10_undo 25 = .ok (.getfield 10, 3) := by decide +kernel
theorem dX10_undo_28 : decode cX10_undo 28 = .ok (.invokevirtual 228, 3) := by decide +kernel
theorem dX10_undo_31 : decode cX10_undo 31 = .ok (.aload_n 0, 1) := by decide +kernel
theorem dX10_undo_32 : decode cX10_undo 32 = .ok (.getfield 26, 3) := by decide +kernel
theorem dX10_undo_35 : decode cX10_undo 35 = .ok (.getfield 225, 3) := by decide +kernel
theorem dX10_undo_38 : decode cX10_undo 38 = .ok (.ireturn, 1) := by decide +kernel
theorem dX10_keep_0 : decode cX10_keep 0 = .ok (.aload_n 0, 1) := by decide +kernel
theorem dX10_keep_1 : decode cX10_keep 1 = .ok (.getfield 16, 3) := by decide +kernel
theorem dX10_keep_4 : decode cX10_keep 4 = .ok (.aload_n 0, 1) := by decide +kernel
theorem dX10_keep_5 : decode cX10_keep 5 = .ok (.getfield 10, 3) := by decide +kernel
theorem dX10_keep_8 : decode cX10_keep 8 = .ok (.invokevirtual 231, 3) := by decide +kernel
theorem dX10_keep_11 : decode cX10_keep 11 = .ok (.aload_n 0, 1) := by decide +kernel
theorem dX10_keep_12 : decode cX10_keep 12 = .ok (.iconst 1, 1) := by decide +kernel
theorem dX10_keep_13 : decode cX10_keep 13 = .ok (.putfield 19, 3) := by decide +kernel
theorem dX10_keep_16 : decode cX10_keep 16 = .ok (.aload_n 0, 1) := by decide +kernel
theorem dX10_keep_17 : decode cX10_keep 17 = .ok (.getfield 10, 3) := by decide +kernel
theorem dX10_keep_20 : decode cX10_keep 20 = .ok (.getfield 39, 3) := by decide +kernel
theorem dX10_keep_23 : decode cX10_keep 23 = .ok (.getfield 88, 3) := by decide +kernel
theorem dX10_keep_26 : decode cX10_keep 26 = .ok (.ireturn, 1) := by decide +kernel
theorem dX10_restore_0 : decode cX10_restore 0 = .ok (.aload_n 0, 1) := by decide +kernel
theorem dX10_restore_1 : decode cX10_restore 1 = .ok (.getfield 19, 3) := by decide +kernel
theorem dX10_restore_4 : decode cX10_restore 4 = .ok (.ifCond .ne 13, 3) := by decide +kernel
theorem dX10_restore_7 : decode cX10_restore 7 = .ok (.new 94, 3) := by decide +kernel
theorem dX10_restore_10 : decode cX10_restore 10 = .ok (.dup, 1) := by decide +kernel
theorem dX10_restore_11 : decode cX10_restore 11 = .ok (.ldc 233, 2) := by decide +kernel
theorem dX10_restore_13 : decode cX10_restore 13 = .ok (.invokespecial 98, 3) := by decide +kernel
theorem dX10_restore_16 : decode cX10_restore 16 = .ok (.athrow, 1) := by decide +kernel
theorem dX10_restore_17 : decode cX10_restore 17 = .ok (.aload_n 0, 1) := by decide +kernel
theorem dX10_restore_18 : decode cX10_restore 18 = .ok (.getfield 26, 3) := by decide +kernel
theorem dX10_restore_21 : decode cX10_restore 21 = .ok (.aload_n 0, 1) := by decide +kernel
theorem dX10_restore_22 : decode cX10_restore 22 = .ok (.getfield 10, 3) := by decide +kernel
theorem dX10_restore_25 : decode cX10_restore 25 = .ok (.invokevirtual 99, 3) := by decide +kernel
theorem dX10_restore_28 : decode cX10_restore 28 = .ok (.aload_n 0, 1) := by decide +kernel
theorem dX10_restore_29 : decode cX10_restore 29 = .ok (.getfield 10, 3) := by decide +kernel
theorem dX10_restore_32 : decode cX10_restore 32 = .ok (.aload_n 0, 1) := by decide +kernel
theorem dX10_restore_33 : decode cX10_restore 33 = .ok (.getfield 16, 3) := by decide +kernel
theorem dX10_restore_36 : decode cX10_restore 36 = .ok (.invokevirtual 231, 3) := by decide +kernel
theorem dX10_restore_39 : decode cX10_restore 39 = .ok (.aload_n 0, 1) := by decide +kernel
theorem dX10_restore_40 : decode cX10_restore 40 = .ok (.getfield 10, 3) := by decide +kernel
theorem dX10_restore_43 : decode cX10_restore 43 = .ok (.getfield 39, 3) := by decide +kernel
theorem dX10_restore_46 : decode cX10_restore 46 = .ok (.getfield 88, 3) := by decide +kernel
theorem dX10_restore_49 : decode cX10_restore 49 = .ok (.ireturn, 1) := by decide +kernel
theorem dX10_savedStates_0 : decode cX10_savedStates 0 = .ok (.aload_n 0, 1) := by decide +kernel
theorem dX10_savedStates_1 : decode cX10_savedStates 1 = .ok (.getfield 26, 3) := by decide +kernel
theorem dX10_savedStates_4 : decode cX10_savedStates 4 = .ok (.getfield 225, 3) := by decide +kernel
theorem dX10_savedStates_7 : decode cX10_savedStates 7 = .ok (.ireturn, 1) := by decide +kernel
theorem dX10_textLength_0 : decode cX10_textLength 0 = .ok (.aload_n 0, 1) := by decide +kernel
theorem dX10_textLength_1 : decode cX10_textLength 1 = .ok (.getfield 10, 3) := by decide +kernel
theorem dX10_textLength_4 : decode cX10_textLength 4 = .ok (.getfield 39, 3) := by decide +kernel
theorem dX10_textLength_7 : decode cX10_textLength 7 = .ok (.getfield 88, 3) := by decide +kernel
theorem dX10_textLength_10 : decode cX10_textLength 10 = .ok (.ireturn, 1) := by decide +kernel
theorem dX10_letterAt_0 : decode cX10_letterAt 0 = .ok (.aload_n 0, 1) := by decide +kernel
theorem dX10_letterAt_1 : decode cX10_letterAt 1 = .ok (.getfield 10, 3) := by decide +kernel
theorem dX10_letterAt_4 : decode cX10_letterAt 4 = .ok (.getfield 39, 3) := by decide +kernel
theorem dX10_letterAt_7 : decode cX10_letterAt 7 = .ok (.iload_n 1, 1) := by decide +kernel
theorem dX10_letterAt_8 : decode cX10_letterAt 8 = .ok (.invokevirtual 107, 3) := by decide +kernel
theorem dX10_letterAt_11 : decode cX10_letterAt 11 = .ok (.ifCond .ne 13, 3) := by decide +kernel
theorem dX10_letterAt_14 : decode cX10_letterAt 14 = .ok (.new 110, 3) := by decide +kernel
theorem dX10_letterAt_17 : decode cX10_letterAt 17 = .ok (.dup, 1) := by decide +kernel
theorem dX10_letterAt_18 : decode cX10_letterAt 18 = .ok (.ldc 112, 2) := by decide +kernel
theorem dX10_letterAt_20 : decode cX10_letterAt 20 = .ok (.invokespecial 114, 3) := by decide +kernel
theorem dX10_letterAt_23 : decode cX10_letterAt 23 = .ok (.athrow, 1) := by decide +kernel
theorem dX10_letterAt_24 : decode cX10_letterAt 24 = .ok (.aload_n 0, 1) := by decide +kernel
theorem dX10_letterAt_25 : decode cX10_letterAt 25 = .ok (.getfield 10, 3) := by decide +kernel
theorem dX10_letterAt_28 : decode cX10_letterAt 28 = .ok (.getfield 39, 3) := by decide +kernel
theorem dX10_letterAt_31 : decode cX10_letterAt 31 = .ok (.iload_n 1, 1) := by decide +kernel
theorem dX10_letterAt_32 : decode cX10_letterAt 32 = .ok (.invokevirtual 115, 3) := by decide +kernel
theorem dX10_letterAt_35 : decode cX10_letterAt 35 = .ok (.ireturn, 1) := by decide +kernel
theorem dX10_window_0 : decode cX10_window 0 = .ok (.aload_n 0, 1) := by decide +kernel
theorem dX10_window_1 : decode cX10_window 1 = .ok (.getfield 10, 3) := by decide +kernel
theorem dX10_window_4 : decode cX10_window 4 = .ok (.getfield 43, 3) := by decide +kernel
theorem dX10_window_7 : decode cX10_window 7 = .ok (.getfield 132, 3) := by decide +kernel
theorem dX10_window_10 : decode cX10_window 10 = .ok (.ireturn, 1) := by decide +kernel
theorem dX10_shortest_0 : decode cX10_shortest 0 = .ok (.aload_n 0, 1) := by decide +kernel
theorem dX10_shortest_1 : decode cX10_shortest 1 = .ok (.getfield 10, 3) := by decide +kernel
theorem dX10_shortest_4 : decode cX10_shortest 4 = .ok (.getfield 43, 3) := by decide +kernel
theorem dX10_shortest_7 : decode cX10_shortest 7 = .ok (.getfield 139, 3) := by decide +kernel
theorem dX10_shortest_10 : decode cX10_shortest 10 = .ok (.ireturn, 1) := by decide +kernel
theorem dX10_longest_0 : decode cX10_longest 0 = .ok (.aload_n 0, 1) := by decide +kernel
theorem dX10_longest_1 : decode cX10_longest 1 = .ok (.getfield 10, 3) := by decide +kernel
theorem dX10_longest_4 : decode cX10_longest 4 = .ok (.getfield 43, 3) := by decide +kernel
theorem dX10_longest_7 : decode cX10_longest 7 = .ok (.getfield 142, 3) := by decide +kernel
theorem dX10_longest_10 : decode cX10_longest 10 = .ok (.ireturn, 1) := by decide +kernel
theorem dX10_tokens_0 : decode cX10_tokens 0 = .ok (.aload_n 0, 1) := by decide +kernel
theorem dX10_tokens_1 : decode cX10_tokens 1 = .ok (.getfield 10, 3) := by decide +kernel
theorem dX10_tokens_4 : decode cX10_tokens 4 = .ok (.getfield 158, 3) := by decide +kernel
theorem dX10_tokens_7 : decode cX10_tokens 7 = .ok (.getfield 165, 3) := by decide +kernel
theorem dX10_tokens_10 : decode cX10_tokens 10 = .ok (.ireturn, 1) := by decide +kernel
theorem dX10_isRepeat_0 : decode cX10_isRepeat 0 = .ok (.aload_n 0, 1) := by decide +kernel
theorem dX10_isRepeat_1 : decode cX10_isRepeat 1 = .ok (.getfield 10, 3) := by decide +kernel
theorem dX10_isRepeat_4 : decode cX10_isRepeat 4 = .ok (.getfield 158, 3) := by decide +kernel
theorem dX10_isRepeat_7 : decode cX10_isRepeat 7 = .ok (.iload_n 1, 1) := by decide +kernel
theorem dX10_isRepeat_8 : decode cX10_isRepeat 8 = .ok (.invokevirtual 235, 3) := by decide +kernel
theorem dX10_isRepeat_11 : decode cX10_isRepeat 11 = .ok (.ifCond .ne 13, 3) := by decide +kernel
theorem dX10_isRepeat_14 : decode cX10_isRepeat 14 = .ok (.new 110, 3) := by decide +kernel
theorem dX10_isRepeat_17 : decode cX10_isRepeat 17 = .ok (.dup, 1) := by decide +kernel
theorem dX10_isRepeat_18 : decode cX10_isRepeat 18 = .ok (.ldc 236, 2) := by decide +kernel
theorem dX10_isRepeat_20 : decode cX10_isRepeat 20 = .ok (.invokespecial 114, 3) := by decide +kernel
theorem dX10_isRepeat_23 : decode cX10_isRepeat 23 = .ok (.athrow, 1) := by decide +kernel
theorem dX10_isRepeat_24 : decode cX10_isRepeat 24 = .ok (.aload_n 0, 1) := by decide +kernel
theorem dX10_isRepeat_25 : decode cX10_isRepeat 25 = .ok (.getfield 10, 3) := by decide +kernel
theorem dX10_isRepeat_28 : decode cX10_isRepeat 28 = .ok (.getfield 158, 3) := by decide +kernel
theorem dX10_isRepeat_31 : decode cX10_isRepeat 31 = .ok (.iload_n 1, 1) := by decide +kernel
theorem dX10_isRepeat_32 : decode cX10_isRepeat 32 = .ok (.invokevirtual 238, 3) := by decide +kernel
theorem dX10_isRepeat_35 : decode cX10_isRepeat 35 = .ok (.ifCond .eq 7, 3) := by decide +kernel
theorem dX10_isRepeat_38 : decode cX10_isRepeat 38 = .ok (.iconst 1, 1) := by decide +kernel
theorem dX10_isRepeat_39 : decode cX10_isRepeat 39 = .ok (.goto 4, 3) := by decide +kernel
theorem dX10_isRepeat_42 : decode cX10_isRepeat 42 = .ok (.iconst 0, 1) := by decide +kernel
theorem dX10_isRepeat_43 : decode cX10_isRepeat 43 = .ok (.ireturn, 1) := by decide +kernel
theorem dX10_letterOf_0 : decode cX10_letterOf 0 = .ok (.aload_n 0, 1) := by decide +kernel
theorem dX10_letterOf_1 : decode cX10_letterOf 1 = .ok (.getfield 10, 3) := by decide +kernel
theorem dX10_letterOf_4 : decode cX10_letterOf 4 = .ok (.getfield 158, 3) := by decide +kernel
theorem dX10_letterOf_7 : decode cX10_letterOf 7 = .ok (.iload_n 1, 1) := by decide +kernel
theorem dX10_letterOf_8 : decode cX10_letterOf 8 = .ok (.invokevirtual 235, 3) := by decide +kernel
theorem dX10_letterOf_11 : decode cX10_letterOf 11 = .ok (.ifCond .ne 13, 3) := by decide +kernel
theorem dX10_letterOf_14 : decode cX10_letterOf 14 = .ok (.new 110, 3) := by decide +kernel
theorem dX10_letterOf_17 : decode cX10_letterOf 17 = .ok (.dup, 1) := by decide +kernel
theorem dX10_letterOf_18 : decode cX10_letterOf 18 = .ok (.ldc 236, 2) := by decide +kernel
theorem dX10_letterOf_20 : decode cX10_letterOf 20 = .ok (.invokespecial 114, 3) := by decide +kernel
theorem dX10_letterOf_23 : decode cX10_letterOf 23 = .ok (.athrow, 1) := by decide +kernel
theorem dX10_letterOf_24 : decode cX10_letterOf 24 = .ok (.aload_n 0, 1) := by decide +kernel
theorem dX10_letterOf_25 : decode cX10_letterOf 25 = .ok (.getfield 10, 3) := by decide +kernel
theorem dX10_letterOf_28 : decode cX10_letterOf 28 = .ok (.getfield 158, 3) := by decide +kernel
theorem dX10_letterOf_31 : decode cX10_letterOf 31 = .ok (.iload_n 1, 1) := by decide +kernel
theorem dX10_letterOf_32 : decode cX10_letterOf 32 = .ok (.invokevirtual 238, 3) := by decide +kernel
theorem dX10_letterOf_35 : decode cX10_letterOf 35 = .ok (.ifCond .eq 13, 3) := by decide +kernel
theorem dX10_letterOf_38 : decode cX10_letterOf 38 = .ok (.new 94, 3) := by decide +kernel
theorem dX10_letterOf_41 : decode cX10_letterOf 41 = .ok (.dup, 1) := by decide +kernel
theorem dX10_letterOf_42 : decode cX10_letterOf 42 = .ok (.ldc 241, 2) := by decide +kernel
theorem dX10_letterOf_44 : decode cX10_letterOf 44 = .ok (.invokespecial 98, 3) := by decide +kernel
theorem dX10_letterOf_47 : decode cX10_letterOf 47 = .ok (.athrow, 1) := by decide +kernel
theorem dX10_letterOf_48 : decode cX10_letterOf 48 = .ok (.aload_n 0, 1) := by decide +kernel
theorem dX10_letterOf_49 : decode cX10_letterOf 49 = .ok (.getfield 10, 3) := by decide +kernel
theorem dX10_letterOf_52 : decode cX10_letterOf 52 = .ok (.getfield 158, 3) := by decide +kernel
theorem dX10_letterOf_55 : decode cX10_letterOf 55 = .ok (.iload_n 1, 1) := by decide +kernel
theorem dX10_letterOf_56 : decode cX10_letterOf 56 = .ok (.invokevirtual 243, 3) := by decide +kernel
theorem dX10_letterOf_59 : decode cX10_letterOf 59 = .ok (.ireturn, 1) := by decide +kernel
theorem dX10_distanceOf_0 : decode cX10_distanceOf 0 = .ok (.aload_n 0, 1) := by decide +kernel
theorem dX10_distanceOf_1 : decode cX10_distanceOf 1 = .ok (.getfield 10, 3) := by decide +kernel
theorem dX10_distanceOf_4 : decode cX10_distanceOf 4 = .ok (.getfield 158, 3) := by decide +kernel
theorem dX10_distanceOf_7 : decode cX10_distanceOf 7 = .ok (.iload_n 1, 1) := by decide +kernel
theorem dX10_distanceOf_8 : decode cX10_distanceOf 8 = .ok (.invokevirtual 235, 3) := by decide +kernel
theorem dX10_distanceOf_11 : decode cX10_distanceOf 11 = .ok (.ifCond .ne 13, 3) := by decide +kernel
theorem dX10_distanceOf_14 : decode cX10_distanceOf 14 = .ok (.new 110, 3) := by decide +kernel
theorem dX10_distanceOf_17 : decode cX10_distanceOf 17 = .ok (.dup, 1) := by decide +kernel
theorem dX10_distanceOf_18 : decode cX10_distanceOf 18 = .ok (.ldc 236, 2) := by decide +kernel
theorem dX10_distanceOf_20 : decode cX10_distanceOf 20 = .ok (.invokespecial 114, 3) := by decide +kernel
theorem dX10_distanceOf_23 : decode cX10_distanceOf 23 = .ok (.athrow, 1) := by decide +kernel
theorem dX10_distanceOf_24 : decode cX10_distanceOf 24 = .ok (.aload_n 0, 1) := by decide +kernel
theorem dX10_distanceOf_25 : decode cX10_distanceOf 25 = .ok (.getfield 10, 3) := by decide +kernel
theorem dX10_distanceOf_28 : decode cX10_distanceOf 28 = .ok (.getfield 158, 3) := by decide +kernel
theorem dX10_distanceOf_31 : decode cX10_distanceOf 31 = .ok (.iload_n 1, 1) := by decide +kernel
theorem dX10_distanceOf_32 : decode cX10_distanceOf 32 = .ok (.invokevirtual 238, 3) := by decide +kernel
theorem dX10_distanceOf_35 : decode cX10_distanceOf 35 = .ok (.ifCond .ne 13, 3) := by decide +kernel
theorem dX10_distanceOf_38 : decode cX10_distanceOf 38 = .ok (.new 94, 3) := by decide +kernel
theorem dX10_distanceOf_41 : decode cX10_distanceOf 41 = .ok (.dup, 1) := by decide +kernel
theorem dX10_distanceOf_42 : decode cX10_distanceOf 42 = .ok (.ldc 246, 2) := by decide +kernel
theorem dX10_distanceOf_44 : decode cX10_distanceOf 44 = .ok (.invokespecial 98, 3) := by decide +kernel
theorem dX10_distanceOf_47 : decode cX10_distanceOf 47 = .ok (.athrow, 1) := by decide +kernel
theorem dX10_distanceOf_48 : decode cX10_distanceOf 48 = .ok (.aload_n 0, 1) := by decide +kernel
theorem dX10_distanceOf_49 : decode cX10_distanceOf 49 = .ok (.getfield 10, 3) := by decide +kernel
theorem dX10_distanceOf_52 : decode cX10_distanceOf 52 = .ok (.getfield 158, 3) := by decide +kernel
theorem dX10_distanceOf_55 : decode cX10_distanceOf 55 = .ok (.iload_n 1, 1) := by decide +kernel
theorem dX10_distanceOf_56 : decode cX10_distanceOf 56 = .ok (.invokevirtual 238, 3) := by decide +kernel
theorem dX10_distanceOf_59 : decode cX10_distanceOf 59 = .ok (.ireturn, 1) := by decide +kernel
theorem dX10_lengthOf_0 : decode cX10_lengthOf 0 = .ok (.aload_n 0, 1) := by decide +kernel
theorem dX10_lengthOf_1 : decode cX10_lengthOf 1 = .ok (.getfield 10, 3) := by decide +kernel
theorem dX10_lengthOf_4 : decode cX10_lengthOf 4 = .ok (.getfield 158, 3) := by decide +kernel
theorem dX10_lengthOf_7 : decode cX10_lengthOf 7 = .ok (.iload_n 1, 1) := by decide +kernel
theorem dX10_lengthOf_8 : decode cX10_lengthOf 8 = .ok (.invokevirtual 235, 3) := by decide +kernel
theorem dX10_lengthOf_11 : decode cX10_lengthOf 11 = .ok (.ifCond .ne 13, 3) := by decide +kernel
theorem dX10_lengthOf_14 : decode cX10_lengthOf 14 = .ok (.new 110, 3) := by decide +kernel
theorem dX10_lengthOf_17 : decode cX10_lengthOf 17 = .ok (.dup, 1) := by decide +kernel
theorem dX10_lengthOf_18 : decode cX10_lengthOf 18 = .ok (.ldc 236, 2) := by decide +kernel
theorem dX10_lengthOf_20 : decode cX10_lengthOf 20 = .ok (.invokespecial 114, 3) := by decide +kernel
theorem dX10_lengthOf_23 : decode cX10_lengthOf 23 = .ok (.athrow, 1) := by decide +kernel
theorem dX10_lengthOf_24 : decode cX10_lengthOf 24 = .ok (.aload_n 0, 1) := by decide +kernel
theorem dX10_lengthOf_25 : decode cX10_lengthOf 25 = .ok (.getfield 10, 3) := by decide +kernel
theorem dX10_lengthOf_28 : decode cX10_lengthOf 28 = .ok (.getfield 158, 3) := by decide +kernel
theorem dX10_lengthOf_31 : decode cX10_lengthOf 31 = .ok (.iload_n 1, 1) := by decide +kernel
theorem dX10_lengthOf_32 : decode cX10_lengthOf 32 = .ok (.invokevirtual 248, 3) := by decide +kernel
theorem dX10_lengthOf_35 : decode cX10_lengthOf 35 = .ok (.ireturn, 1) := by decide +kernel
theorem dX10_sackCost_0 : decode cX10_sackCost 0 = .ok (.aload_n 0, 1) := by decide +kernel
theorem dX10_sackCost_1 : decode cX10_sackCost 1 = .ok (.getfield 10, 3) := by decide +kernel
theorem dX10_sackCost_4 : decode cX10_sackCost 4 = .ok (.getfield 158, 3) := by decide +kernel
theorem dX10_sackCost_7 : decode cX10_sackCost 7 = .ok (.aload_n 0, 1) := by decide +kernel
theorem dX10_sackCost_8 : decode cX10_sackCost 8 = .ok (.getfield 10, 3) := by decide +kernel
theorem dX10_sackCost_11 : decode cX10_sackCost 11 = .ok (.getfield 43, 3) := by decide +kernel
theorem dX10_sackCost_14 : decode cX10_sackCost 14 = .ok (.invokevirtual 251, 3) := by decide +kernel
theorem dX10_sackCost_17 : decode cX10_sackCost 17 = .ok (.ireturn, 1) := by decide +kernel
theorem dX10_sackLetters_0 : decode cX10_sackLetters 0 = .ok (.aload_n 0, 1) := by decide +kernel
theorem dX10_sackLetters_1 : decode cX10_sackLetters 1 = .ok (.getfield 10, 3) := by decide +kernel
theorem dX10_sackLetters_4 : decode cX10_sackLetters 4 = .ok (.getfield 158, 3) := by decide +kernel
theorem dX10_sackLetters_7 : decode cX10_sackLetters 7 = .ok (.invokevirtual 255, 3) := by decide +kernel
theorem dX10_sackLetters_10 : decode cX10_sackLetters 10 = .ok (.ireturn, 1) := by decide +kernel
theorem dX10_wrongToken_0 : decode cX10_wrongToken 0 = .ok (.aload_n 0, 1) := by decide +kernel
theorem dX10_wrongToken_1 : decode cX10_wrongToken 1 = .ok (.getfield 73, 3) := by decide +kernel
theorem dX10_wrongToken_4 : decode cX10_wrongToken 4 = .ok (.aload_n 0, 1) := by decide +kernel
theorem dX10_wrongToken_5 : decode cX10_wrongToken 5 = .ok (.getfield 10, 3) := by decide +kernel
theorem dX10_wrongToken_8 : decode cX10_wrongToken 8 = .ok (.getfield 158, 3) := by decide +kernel
theorem dX10_wrongToken_11 : decode cX10_wrongToken 11 = .ok (.invokevirtual 166, 3) := by decide +kernel
theorem dX10_wrongToken_14 : decode cX10_wrongToken 14 = .ok (.aload_n 0, 1) := by decide +kernel
theorem dX10_wrongToken_15 : decode cX10_wrongToken 15 = .ok (.getfield 73, 3) := by decide +kernel
theorem dX10_wrongToken_18 : decode cX10_wrongToken 18 = .ok (.getfield 257, 3) := by decide +kernel
theorem dX10_wrongToken_21 : decode cX10_wrongToken 21 = .ok (.ireturn, 1) := by decide +kernel
theorem dX10_wrongReason_0 : decode cX10_wrongReason 0 = .ok (.aload_n 0, 1) := by decide +kernel
theorem dX10_wrongReason_1 : decode cX10_wrongReason 1 = .ok (.getfield 73, 3) := by decide +kernel
theorem dX10_wrongReason_4 : decode cX10_wrongReason 4 = .ok (.aload_n 0, 1) := by decide +kernel
theorem dX10_wrongReason_5 : decode cX10_wrongReason 5 = .ok (.getfield 10, 3) := by decide +kernel
theorem dX10_wrongReason_8 : decode cX10_wrongReason 8 = .ok (.getfield 158, 3) := by decide +kernel
theorem dX10_wrongReason_11 : decode cX10_wrongReason 11 = .ok (.invokevirtual 166, 3) := by decide +kernel
theorem dX10_wrongReason_14 : decode cX10_wrongReason 14 = .ok (.aload_n 0, 1) := by decide +kernel
theorem dX10_wrongReason_15 : decode cX10_wrongReason 15 = .ok (.getfield 73, 3) := by decide +kernel
theorem dX10_wrongReason_18 : decode cX10_wrongReason 18 = .ok (.getfield 170, 3) := by decide +kernel
theorem dX10_wrongReason_21 : decode cX10_wrongReason 21 = .ok (.ireturn, 1) := by decide +kernel
theorem dX10_isForText_0 : decode cX10_isForText 0 = .ok (.aload_n 0, 1) := by decide +kernel
theorem dX10_isForText_1 : decode cX10_isForText 1 = .ok (.getfield 73, 3) := by decide +kernel
theorem dX10_isForText_4 : decode cX10_isForText 4 = .ok (.aload_n 0, 1) := by decide +kernel
theorem dX10_isForText_5 : decode cX10_isForText 5 = .ok (.getfield 10, 3) := by decide +kernel
theorem dX10_isForText_8 : decode cX10_isForText 8 = .ok (.getfield 158, 3) := by decide +kernel
theorem dX10_isForText_11 : decode cX10_isForText 11 = .ok (.invokevirtual 166, 3) := by decide +kernel
theorem dX10_isForText_14 : decode cX10_isForText 14 = .ok (.aload_n 0, 1) := by decide +kernel
theorem dX10_isForText_15 : decode cX10_isForText 15 = .ok (.getfield 73, 3) := by decide +kernel
theorem dX10_isForText_18 : decode cX10_isForText 18 = .ok (.getfield 170, 3) := by decide +kernel
theorem dX10_isForText_21 : decode cX10_isForText 21 = .ok (.ifCond .ne 27, 3) := by decide +kernel
theorem dX10_isForText_24 : decode cX10_isForText 24 = .ok (.aload_n 0, 1) := by decide +kernel
theorem dX10_isForText_25 : decode cX10_isForText 25 = .ok (.getfield 73, 3) := by decide +kernel
theorem dX10_isForText_28 : decode cX10_isForText 28 = .ok (.getfield 175, 3) := by decide +kernel
theorem dX10_isForText_31 : decode cX10_isForText 31 = .ok (.aload_n 0, 1) := by decide +kernel
theorem dX10_isForText_32 : decode cX10_isForText 32 = .ok (.getfield 10, 3) := by decide +kernel
theorem dX10_isForText_35 : decode cX10_isForText 35 = .ok (.getfield 39, 3) := by decide +kernel
theorem dX10_isForText_38 : decode cX10_isForText 38 = .ok (.invokevirtual 260, 3) := by decide +kernel
theorem dX10_isForText_41 : decode cX10_isForText 41 = .ok (.ifCond .eq 7, 3) := by decide +kernel
theorem dX10_isForText_44 : decode cX10_isForText 44 = .ok (.iconst 1, 1) := by decide +kernel
theorem dX10_isForText_45 : decode cX10_isForText 45 = .ok (.goto 4, 3) := by decide +kernel
theorem dX10_isForText_48 : decode cX10_isForText 48 = .ok (.iconst 0, 1) := by decide +kernel
theorem dX10_isForText_49 : decode cX10_isForText 49 = .ok (.ireturn, 1) := by decide +kernel
theorem dX10_repeatLength_0 : decode cX10_repeatLength 0 = .ok (.aload_n 0, 1) := by decide +kernel
theorem dX10_repeatLength_1 : decode cX10_repeatLength 1 = .ok (.getfield 10, 3) := by decide +kernel
theorem dX10_repeatLength_4 : decode cX10_repeatLength 4 = .ok (.getfield 39, 3) := by decide +kernel
theorem dX10_repeatLength_7 : decode cX10_repeatLength 7 = .ok (.iload_n 1, 1) := by decide +kernel
theorem dX10_repeatLength_8 : decode cX10_repeatLength 8 = .ok (.invokevirtual 107, 3) := by decide +kernel
theorem dX10_repeatLength_11 : decode cX10_repeatLength 11 = .ok (.ifCond .ne 13, 3) := by decide +kernel
theorem dX10_repeatLength_14 : decode cX10_repeatLength 14 = .ok (.new 110, 3) := by decide +kernel
theorem dX10_repeatLength_17 : decode cX10_repeatLength 17 = .ok (.dup, 1) := by decide +kernel
theorem dX10_repeatLength_18 : decode cX10_repeatLength 18 = .ok (.ldc 112, 2) := by decide +kernel
theorem dX10_repeatLength_20 : decode cX10_repeatLength 20 = .ok (.invokespecial 114, 3) := by decide +kernel
theorem dX10_repeatLength_23 : decode cX10_repeatLength 23 = .ok (.athrow, 1) := by decide +kernel
theorem dX10_repeatLength_24 : decode cX10_repeatLength 24 = .ok (.aload_n 0, 1) := by decide +kernel
theorem dX10_repeatLength_25 : decode cX10_repeatLength 25 = .ok (.getfield 50, 3) := by decide +kernel
theorem dX10_repeatLength_28 : decode cX10_repeatLength 28 = .ok (.iload_n 1, 1) := by decide +kernel
theorem dX10_repeatLength_29 : decode cX10_repeatLength 29 = .ok (.aload_n 0, 1) := by decide +kernel
theorem dX10_repeatLength_30 : decode cX10_repeatLength 30 = .ok (.getfield 10, 3) := by decide +kernel
theorem dX10_repeatLength_33 : decode cX10_repeatLength 33 = .ok (.getfield 43, 3) := by decide +kernel
theorem dX10_repeatLength_36 : decode cX10_repeatLength 36 = .ok (.getfield 132, 3) := by decide +kernel
theorem dX10_repeatLength_39 : decode cX10_repeatLength 39 = .ok (.invokevirtual 264, 3) := by decide +kernel
theorem dX10_repeatLength_42 : decode cX10_repeatLength 42 = .ok (.ireturn, 1) := by decide +kernel
theorem dX10_repeatLengthByPairs_0 : decode cX10_repeatLengthByPairs 0 = .ok (.aload_n 0, 1) := by decide +kernel
theorem dX10_repeatLengthByPairs_1 : decode cX10_repeatLengthByPairs 1 = .ok (.getfield 10, 3) := by decide +kernel
theorem dX10_repeatLengthByPairs_4 : decode cX10_repeatLengthByPairs 4 = .ok (.getfield 39, 3) := by decide +kernel
theorem dX10_repeatLengthByPairs_7 : decode cX10_repeatLengthByPairs 7 = .ok (.iload_n 1, 1) := by decide +kernel
theorem dX10_repeatLengthByPairs_8 : decode cX10_repeatLengthByPairs 8 = .ok (.invokevirtual 107, 3) := by decide +kernel
theorem dX10_repeatLengthByPairs_11 : decode cX10_repeatLengthByPairs 11 = .ok (.ifCond .ne 13, 3) := by decide +kernel
theorem dX10_repeatLengthByPairs_14 : decode cX10_repeatLengthByPairs 14 = .ok (.new 110, 3) := by decide +kernel
theorem dX10_repeatLengthByPairs_17 : decode cX10_repeatLengthByPairs 17 = .ok (.dup, 1) := by decide +kernel
theorem dX10_repeatLengthByPairs_18 : decode cX10_repeatLengthByPairs 18 = .ok (.ldc 112, 2) := by decide +kernel
theorem dX10_repeatLengthByPairs_20 : decode cX10_repeatLengthByPairs 20 = .ok (.invokespecial 114, 3) := by decide +kernel
theorem dX10_repeatLengthByPairs_23 : decode cX10_repeatLengthByPairs 23 = .ok (.athrow, 1) := by decide +kernel
theorem dX10_repeatLengthByPairs_24 : decode cX10_repeatLengthByPairs 24 = .ok (.aload_n 0, 1) := by decide +kernel
theorem dX10_repeatLengthByPairs_25 : decode cX10_repeatLengthByPairs 25 = .ok (.getfield 50, 3) := by decide +kernel
theorem dX10_repeatLengthByPairs_28 : decode cX10_repeatLengthByPairs 28 = .ok (.getfield 268, 3) := by decide +kernel
theorem dX10_repeatLengthByPairs_31 : decode cX10_repeatLengthByPairs 31 = .ok (.aload_n 0, 1) := by decide +kernel
theorem dX10_repeatLengthByPairs_32 : decode cX10_repeatLengthByPairs 32 = .ok (.getfield 10, 3) := by decide +kernel
theorem dX10_repeatLengthByPairs_35 : decode cX10_repeatLengthByPairs 35 = .ok (.getfield 39, 3) := by decide +kernel
theorem dX10_repeatLengthByPairs_38 : decode cX10_repeatLengthByPairs 38 = .ok (.invokevirtual 272, 3) := by decide +kernel
theorem dX10_repeatLengthByPairs_41 : decode cX10_repeatLengthByPairs 41 = .ok (.aload_n 0, 1) := by decide +kernel
theorem dX10_repeatLengthByPairs_42 : decode cX10_repeatLengthByPairs 42 = .ok (.getfield 50, 3) := by decide +kernel
theorem dX10_repeatLengthByPairs_45 : decode cX10_repeatLengthByPairs 45 = .ok (.iload_n 1, 1) := by decide +kernel
theorem dX10_repeatLengthByPairs_46 : decode cX10_repeatLengthByPairs 46 = .ok (.invokevirtual 277, 3) := by decide +kernel
theorem dX10_repeatLengthByPairs_49 : decode cX10_repeatLengthByPairs 49 = .ok (.ireturn, 1) := by decide +kernel
theorem dX10_repeatDistance_0 : decode cX10_repeatDistance 0 = .ok (.aload_n 0, 1) := by decide +kernel
theorem dX10_repeatDistance_1 : decode cX10_repeatDistance 1 = .ok (.getfield 10, 3) := by decide +kernel
theorem dX10_repeatDistance_4 : decode cX10_repeatDistance 4 = .ok (.getfield 39, 3) := by decide +kernel
theorem dX10_repeatDistance_7 : decode cX10_repeatDistance 7 = .ok (.iload_n 1, 1) := by decide +kernel
theorem dX10_repeatDistance_8 : decode cX10_repeatDistance 8 = .ok (.invokevirtual 107, 3) := by decide +kernel
theorem dX10_repeatDistance_11 : decode cX10_repeatDistance 11 = .ok (.ifCond .ne 13, 3) := by decide +kernel
theorem dX10_repeatDistance_14 : decode cX10_repeatDistance 14 = .ok (.new 110, 3) := by decide +kernel
theorem dX10_repeatDistance_17 : decode cX10_repeatDistance 17 = .ok (.dup, 1) := by decide +kernel
theorem dX10_repeatDistance_18 : decode cX10_repeatDistance 18 = .ok (.ldc 112, 2) := by decide +kernel
theorem dX10_repeatDistance_20 : decode cX10_repeatDistance 20 = .ok (.invokespecial 114, 3) := by decide +kernel
theorem dX10_repeatDistance_23 : decode cX10_repeatDistance 23 = .ok (.athrow, 1) := by decide +kernel
theorem dX10_repeatDistance_24 : decode cX10_repeatDistance 24 = .ok (.aload_n 0, 1) := by decide +kernel
theorem dX10_repeatDistance_25 : decode cX10_repeatDistance 25 = .ok (.getfield 50, 3) := by decide +kernel
theorem dX10_repeatDistance_28 : decode cX10_repeatDistance 28 = .ok (.iload_n 1, 1) := by decide +kernel
theorem dX10_repeatDistance_29 : decode cX10_repeatDistance 29 = .ok (.aload_n 0, 1) := by decide +kernel
theorem dX10_repeatDistance_30 : decode cX10_repeatDistance 30 = .ok (.getfield 10, 3) := by decide +kernel
theorem dX10_repeatDistance_33 : decode cX10_repeatDistance 33 = .ok (.getfield 43, 3) := by decide +kernel
theorem dX10_repeatDistance_36 : decode cX10_repeatDistance 36 = .ok (.getfield 132, 3) := by decide +kernel
theorem dX10_repeatDistance_39 : decode cX10_repeatDistance 39 = .ok (.invokevirtual 264, 3) := by decide +kernel
theorem dX10_repeatDistance_42 : decode cX10_repeatDistance 42 = .ok (.istore_n 2, 1) := by decide +kernel
theorem dX10_repeatDistance_43 : decode cX10_repeatDistance 43 = .ok (.aload_n 0, 1) := by decide +kernel
theorem dX10_repeatDistance_44 : decode cX10_repeatDistance 44 = .ok (.getfield 50, 3) := by decide +kernel
theorem dX10_repeatDistance_47 : decode cX10_repeatDistance 47 = .ok (.iload_n 1, 1) := by decide +kernel
theorem dX10_repeatDistance_48 : decode cX10_repeatDistance 48 = .ok (.iload_n 2, 1) := by decide +kernel
theorem dX10_repeatDistance_49 : decode cX10_repeatDistance 49 = .ok (.invokevirtual 280, 3) := by decide +kernel
theorem dX10_repeatDistance_52 : decode cX10_repeatDistance 52 = .ok (.ireturn, 1) := by decide +kernel
theorem dX10_costBy_0 : decode cX10_costBy 0 = .ok (.iload_n 1, 1) := by decide +kernel
theorem dX10_costBy_1 : decode cX10_costBy 1 = .ok (.invokestatic 153, 3) := by decide +kernel
theorem dX10_costBy_4 : decode cX10_costBy 4 = .ok (.ifCond .ne 13, 3) := by decide +kernel
theorem dX10_costBy_7 : decode cX10_costBy 7 = .ok (.new 81, 3) := by decide +kernel
theorem dX10_costBy_10 : decode cX10_costBy 10 = .ok (.dup, 1) := by decide +kernel
theorem dX10_costBy_11 : decode cX10_costBy 11 = .ok (.ldc 156, 2) := by decide +kernel
theorem dX10_costBy_13 : decode cX10_costBy 13 = .ok (.invokespecial 85, 3) := by decide +kernel
theorem dX10_costBy_16 : decode cX10_costBy 16 = .ok (.athrow, 1) := by decide +kernel
theorem dX10_costBy_17 : decode cX10_costBy 17 = .ok (.aload_n 0, 1) := by decide +kernel
theorem dX10_costBy_18 : decode cX10_costBy 18 = .ok (.getfield 59, 3) := by decide +kernel
theorem dX10_costBy_21 : decode cX10_costBy 21 = .ok (.iload_n 1, 1) := by decide +kernel
theorem dX10_costBy_22 : decode cX10_costBy 22 = .ok (.aload_n 0, 1) := by decide +kernel
theorem dX10_costBy_23 : decode cX10_costBy 23 = .ok (.getfield 66, 3) := by decide +kernel
theorem dX10_costBy_26 : decode cX10_costBy 26 = .ok (.invokevirtual 161, 3) := by decide +kernel
theorem dX10_costBy_29 : decode cX10_costBy 29 = .ok (.aload_n 0, 1) := by decide +kernel
theorem dX10_costBy_30 : decode cX10_costBy 30 = .ok (.getfield 66, 3) := by decide +kernel
theorem dX10_costBy_33 : decode cX10_costBy 33 = .ok (.aload_n 0, 1) := by decide +kernel
theorem dX10_costBy_34 : decode cX10_costBy 34 = .ok (.getfield 10, 3) := by decide +kernel
theorem dX10_costBy_37 : decode cX10_costBy 37 = .ok (.getfield 43, 3) := by decide +kernel
theorem dX10_costBy_40 : decode cX10_costBy 40 = .ok (.invokevirtual 251, 3) := by decide +kernel
theorem dX10_costBy_43 : decode cX10_costBy 43 = .ok (.ireturn, 1) := by decide +kernel
theorem dX10_tokensBy_0 : decode cX10_tokensBy 0 = .ok (.iload_n 1, 1) := by decide +kernel
theorem dX10_tokensBy_1 : decode cX10_tokensBy 1 = .ok (.invokestatic 153, 3) := by decide +kernel
theorem dX10_tokensBy_4 : decode cX10_tokensBy 4 = .ok (.ifCond .ne 13, 3) := by decide +kernel
theorem dX10_tokensBy_7 : decode cX10_tokensBy 7 = .ok (.new 81, 3) := by decide +kernel
theorem dX10_tokensBy_10 : decode cX10_tokensBy 10 = .ok (.dup, 1) := by decide +kernel
theorem dX10_tokensBy_11 : decode cX10_tokensBy 11 = .ok (.ldc 156, 2) := by decide +kernel
theorem dX10_tokensBy_13 : decode cX10_tokensBy 13 = .ok (.invokespecial 85, 3) := by decide +kernel
theorem dX10_tokensBy_16 : decode cX10_tokensBy 16 = .ok (.athrow, 1) := by decide +kernel
theorem dX10_tokensBy_17 : decode cX10_tokensBy 17 = .ok (.aload_n 0, 1) := by decide +kernel
theorem dX10_tokensBy_18 : decode cX10_tokensBy 18 = .ok (.getfield 59, 3) := by decide +kernel
theorem dX10_tokensBy_21 : decode cX10_tokensBy 21 = .ok (.iload_n 1, 1) := by decide +kernel
theorem dX10_tokensBy_22 : decode cX10_tokensBy 22 = .ok (.aload_n 0, 1) := by decide +kernel
theorem dX10_tokensBy_23 : decode cX10_tokensBy 23 = .ok (.getfield 66, 3) := by decide +kernel
theorem dX10_tokensBy_26 : decode cX10_tokensBy 26 = .ok (.invokevirtual 161, 3) := by decide +kernel
theorem dX10_tokensBy_29 : decode cX10_tokensBy 29 = .ok (.aload_n 0, 1) := by decide +kernel
theorem dX10_tokensBy_30 : decode cX10_tokensBy 30 = .ok (.getfield 66, 3) := by decide +kernel
theorem dX10_tokensBy_33 : decode cX10_tokensBy 33 = .ok (.getfield 165, 3) := by decide +kernel
theorem dX10_tokensBy_36 : decode cX10_tokensBy 36 = .ok (.ireturn, 1) := by decide +kernel
theorem dX10_leastCost_0 : decode cX10_leastCost 0 = .ok (.aload_n 0, 1) := by decide +kernel
theorem dX10_leastCost_1 : decode cX10_leastCost 1 = .ok (.getfield 59, 3) := by decide +kernel
theorem dX10_leastCost_4 : decode cX10_leastCost 4 = .ok (.aload_n 0, 1) := by decide +kernel
theorem dX10_leastCost_5 : decode cX10_leastCost 5 = .ok (.getfield 10, 3) := by decide +kernel
theorem dX10_leastCost_8 : decode cX10_leastCost 8 = .ok (.getfield 43, 3) := by decide +kernel
theorem dX10_leastCost_11 : decode cX10_leastCost 11 = .ok (.getfield 132, 3) := by decide +kernel
theorem dX10_leastCost_14 : decode cX10_leastCost 14 = .ok (.invokevirtual 283, 3) := by decide +kernel
theorem dX10_leastCost_17 : decode cX10_leastCost 17 = .ok (.ireturn, 1) := by decide +kernel
theorem dX10_leastCostFromBeginning_0 : decode cX10_leastCostFromBeginning 0 = .ok (.aload_n 0, 1) := by decide +kernel
theorem dX10_leastCostFromBeginning_1 : decode cX10_leastCostFromBeginning 1 = .ok (.getfield 59, 3) := by decide +kernel
theorem dX10_leastCostFromBeginning_4 : decode cX10_leastCostFromBeginning 4 = .ok (.invokevirtual 286, 3) := by decide +kernel
theorem dX10_leastCostFromBeginning_7 : decode cX10_leastCostFromBeginning 7 = .ok (.ireturn, 1) := by decide +kernel
theorem dX10_leastCostWith_0 : decode cX10_leastCostWith 0 = .ok (.iload_n 1, 1) := by decide +kernel
theorem dX10_leastCostWith_1 : decode cX10_leastCostWith 1 = .ok (.iconst 1, 1) := by decide +kernel
theorem dX10_leastCostWith_2 : decode cX10_leastCostWith 2 = .ok (.bipush 32, 2) := by decide +kernel
theorem dX10_leastCostWith_4 : decode cX10_leastCostWith 4 = .ok (.invokestatic 126, 3) := by decide +kernel
theorem dX10_leastCostWith_7 : decode cX10_leastCostWith 7 = .ok (.ifCond .ne 13, 3) := by decide +kernel
theorem dX10_leastCostWith_10 : decode cX10_leastCostWith 10 = .ok (.new 81, 3) := by decide +kernel
theorem dX10_leastCostWith_13 : decode cX10_leastCostWith 13 = .ok (.dup, 1) := by decide +kernel
theorem dX10_leastCostWith_14 : decode cX10_leastCostWith 14 = .ok (.ldc 130, 2) := by decide +kernel
theorem dX10_leastCostWith_16 : decode cX10_leastCostWith 16 = .ok (.invokespecial 85, 3) := by decide +kernel
theorem dX10_leastCostWith_19 : decode cX10_leastCostWith 19 = .ok (.athrow, 1) := by decide +kernel
theorem dX10_leastCostWith_20 : decode cX10_leastCostWith 20 = .ok (.aload_n 0, 1) := by decide +kernel
theorem dX10_leastCostWith_21 : decode cX10_leastCostWith 21 = .ok (.getfield 59, 3) := by decide +kernel
theorem dX10_leastCostWith_24 : decode cX10_leastCostWith 24 = .ok (.iload_n 1, 1) := by decide +kernel
theorem dX10_leastCostWith_25 : decode cX10_leastCostWith 25 = .ok (.invokevirtual 283, 3) := by decide +kernel
theorem dX10_leastCostWith_28 : decode cX10_leastCostWith 28 = .ok (.ireturn, 1) := by decide +kernel
theorem dX10_isPair_0 : decode cX10_isPair 0 = .ok (.iload_n 0, 1) := by decide +kernel
theorem dX10_isPair_1 : decode cX10_isPair 1 = .ok (.ifCond .lt 13, 3) := by decide +kernel
theorem dX10_isPair_4 : decode cX10_isPair 4 = .ok (.iload_n 0, 1) := by decide +kernel
theorem dX10_isPair_5 : decode cX10_isPair 5 = .ok (.bipush 16, 2) := by decide +kernel
theorem dX10_isPair_7 : decode cX10_isPair 7 = .ok (.if_icmp .ge 7, 3) := by decide +kernel
theorem dX10_isPair_10 : decode cX10_isPair 10 = .ok (.iconst 1, 1) := by decide +kernel
theorem dX10_isPair_11 : decode cX10_isPair 11 = .ok (.goto 4, 3) := by decide +kernel
theorem dX10_isPair_14 : decode cX10_isPair 14 = .ok (.iconst 0, 1) := by decide +kernel
theorem dX10_isPair_15 : decode cX10_isPair 15 = .ok (.ireturn, 1) := by decide +kernel
theorem dX10_pairs_0 : decode cX10_pairs 0 = .ok (.iload_n 1, 1) := by decide +kernel
theorem dX10_pairs_1 : decode cX10_pairs 1 = .ok (.invokestatic 289, 3) := by decide +kernel
theorem dX10_pairs_4 : decode cX10_pairs 4 = .ok (.ifCond .ne 14, 3) := by decide +kernel
theorem dX10_pairs_7 : decode cX10_pairs 7 = .ok (.new 81, 3) := by decide +kernel
theorem dX10_pairs_10 : decode cX10_pairs 10 = .ok (.dup, 1) := by decide +kernel
theorem dX10_pairs_11 : decode cX10_pairs 11 = .ok (.ldc_w 292, 3) := by decide +kernel
theorem dX10_pairs_14 : decode cX10_pairs 14 = .ok (.invokespecial 85, 3) := by decide +kernel
theorem dX10_pairs_17 : decode cX10_pairs 17 = .ok (.athrow, 1) := by decide +kernel
theorem dX10_pairs_18 : decode cX10_pairs 18 = .ok (.aload_n 0, 1) := by decide +kernel
theorem dX10_pairs_19 : decode cX10_pairs 19 = .ok (.getfield 50, 3) := by decide +kernel
theorem dX10_pairs_22 : decode cX10_pairs 22 = .ok (.getfield 268, 3) := by decide +kernel
theorem dX10_pairs_25 : decode cX10_pairs 25 = .ok (.aload_n 0, 1) := by decide +kernel
theorem dX10_pairs_26 : decode cX10_pairs 26 = .ok (.getfield 10, 3) := by decide +kernel
theorem dX10_pairs_29 : decode cX10_pairs 29 = .ok (.getfield 39, 3) := by decide +kernel
theorem dX10_pairs_32 : decode cX10_pairs 32 = .ok (.invokevirtual 272, 3) := by decide +kernel
theorem dX10_pairs_35 : decode cX10_pairs 35 = .ok (.aload_n 0, 1) := by decide +kernel
theorem dX10_pairs_36 : decode cX10_pairs 36 = .ok (.getfield 50, 3) := by decide +kernel
theorem dX10_pairs_39 : decode cX10_pairs 39 = .ok (.getfield 268, 3) := by decide +kernel
theorem dX10_pairs_42 : decode cX10_pairs 42 = .ok (.iload_n 1, 1) := by decide +kernel
theorem dX10_pairs_43 : decode cX10_pairs 43 = .ok (.invokevirtual 294, 3) := by decide +kernel
theorem dX10_pairs_46 : decode cX10_pairs 46 = .ok (.ireturn, 1) := by decide +kernel
theorem dX10_lastPlaceOf_0 : decode cX10_lastPlaceOf 0 = .ok (.iload_n 1, 1) := by decide +kernel
theorem dX10_lastPlaceOf_1 : decode cX10_lastPlaceOf 1 = .ok (.invokestatic 289, 3) := by decide +kernel
theorem dX10_lastPlaceOf_4 : decode cX10_lastPlaceOf 4 = .ok (.ifCond .ne 14, 3) := by decide +kernel
theorem dX10_lastPlaceOf_7 : decode cX10_lastPlaceOf 7 = .ok (.new 81, 3) := by decide +kernel
theorem dX10_lastPlaceOf_10 : decode cX10_lastPlaceOf 10 = .ok (.dup, 1) := by decide +kernel
theorem dX10_lastPlaceOf_11 : decode cX10_lastPlaceOf 11 = .ok (.ldc_w 292, 3) := by decide +kernel
theorem dX10_lastPlaceOf_14 : decode cX10_lastPlaceOf 14 = .ok (.invokespecial 85, 3) := by decide +kernel
theorem dX10_lastPlaceOf_17 : decode cX10_lastPlaceOf 17 = .ok (.athrow, 1) := by decide +kernel
theorem dX10_lastPlaceOf_18 : decode cX10_lastPlaceOf 18 = .ok (.aload_n 0, 1) := by decide +kernel
theorem dX10_lastPlaceOf_19 : decode cX10_lastPlaceOf 19 = .ok (.getfield 50, 3) := by decide +kernel
theorem dX10_lastPlaceOf_22 : decode cX10_lastPlaceOf 22 = .ok (.getfield 268, 3) := by decide +kernel
theorem dX10_lastPlaceOf_25 : decode cX10_lastPlaceOf 25 = .ok (.aload_n 0, 1) := by decide +kernel
theorem dX10_lastPlaceOf_26 : decode cX10_lastPlaceOf 26 = .ok (.getfield 10, 3) := by decide +kernel
theorem dX10_lastPlaceOf_29 : decode cX10_lastPlaceOf 29 = .ok (.getfield 39, 3) := by decide +kernel
theorem dX10_lastPlaceOf_32 : decode cX10_lastPlaceOf 32 = .ok (.invokevirtual 272, 3) := by decide +kernel
theorem dX10_lastPlaceOf_35 : decode cX10_lastPlaceOf 35 = .ok (.aload_n 0, 1) := by decide +kernel
theorem dX10_lastPlaceOf_36 : decode cX10_lastPlaceOf 36 = .ok (.getfield 50, 3) := by decide +kernel
theorem dX10_lastPlaceOf_39 : decode cX10_lastPlaceOf 39 = .ok (.getfield 268, 3) := by decide +kernel
theorem dX10_lastPlaceOf_42 : decode cX10_lastPlaceOf 42 = .ok (.iload_n 1, 1) := by decide +kernel
theorem dX10_lastPlaceOf_43 : decode cX10_lastPlaceOf 43 = .ok (.invokevirtual 297, 3) := by decide +kernel
theorem dX10_lastPlaceOf_46 : decode cX10_lastPlaceOf 46 = .ok (.ireturn, 1) := by decide +kernel
theorem dX10_mostFrequent_0 : decode cX10_mostFrequent 0 = .ok (.aload_n 0, 1) := by decide +kernel
theorem dX10_mostFrequent_1 : decode cX10_mostFrequent 1 = .ok (.getfield 10, 3) := by decide +kernel
theorem dX10_mostFrequent_4 : decode cX10_mostFrequent 4 = .ok (.getfield 39, 3) := by decide +kernel
theorem dX10_mostFrequent_7 : decode cX10_mostFrequent 7 = .ok (.getfield 88, 3) := by decide +kernel
theorem dX10_mostFrequent_10 : decode cX10_mostFrequent 10 = .ok (.iconst 2, 1) := by decide +kernel
theorem dX10_mostFrequent_11 : decode cX10_mostFrequent 11 = .ok (.if_icmp .ge 14, 3) := by decide +kernel
theorem dX10_mostFrequent_14 : decode cX10_mostFrequent 14 = .ok (.new 94, 3) := by decide +kernel
theorem dX10_mostFrequent_17 : decode cX10_mostFrequent 17 = .ok (.dup, 1) := by decide +kernel
theorem dX10_mostFrequent_18 : decode cX10_mostFrequent 18 = .ok (.ldc_w 300, 3) := by decide +kernel
theorem dX10_mostFrequent_21 : decode cX10_mostFrequent 21 = .ok (.invokespecial 98, 3) := by decide +kernel
theorem dX10_mostFrequent_24 : decode cX10_mostFrequent 24 = .ok (.athrow, 1) := by decide +kernel
theorem dX10_mostFrequent_25 : decode cX10_mostFrequent 25 = .ok (.aload_n 0, 1) := by decide +kernel
theorem dX10_mostFrequent_26 : decode cX10_mostFrequent 26 = .ok (.getfield 50, 3) := by decide +kernel
theorem dX10_mostFrequent_29 : decode cX10_mostFrequent 29 = .ok (.getfield 268, 3) := by decide +kernel
theorem dX10_mostFrequent_32 : decode cX10_mostFrequent 32 = .ok (.aload_n 0, 1) := by decide +kernel
theorem dX10_mostFrequent_33 : decode cX10_mostFrequent 33 = .ok (.getfield 10, 3) := by decide +kernel
theorem dX10_mostFrequent_36 : decode cX10_mostFrequent 36 = .ok (.getfield 39, 3) := by decide +kernel
theorem dX10_mostFrequent_39 : decode cX10_mostFrequent 39 = .ok (.invokevirtual 272, 3) := by decide +kernel
theorem dX10_mostFrequent_42 : decode cX10_mostFrequent 42 = .ok (.aload_n 0, 1) := by decide +kernel
theorem dX10_mostFrequent_43 : decode cX10_mostFrequent 43 = .ok (.getfield 50, 3) := by decide +kernel
theorem dX10_mostFrequent_46 : decode cX10_mostFrequent 46 = .ok (.getfield 268, 3) := by decide +kernel
theorem dX10_mostFrequent_49 : decode cX10_mostFrequent 49 = .ok (.invokevirtual 302, 3) := by decide +kernel
theorem dX10_mostFrequent_52 : decode cX10_mostFrequent 52 = .ok (.ireturn, 1) := by decide +kernel
theorem dX10_packedShare_0 : decode cX10_packedShare 0 = .ok (.aload_n 0, 1) := by decide +kernel
theorem dX10_packedShare_1 : decode cX10_packedShare 1 = .ok (.getfield 10, 3) := by decide +kernel
theorem dX10_packedShare_4 : decode cX10_packedShare 4 = .ok (.getfield 43, 3) := by decide +kernel
theorem dX10_packedShare_7 : decode cX10_packedShare 7 = .ok (.getfield 147, 3) := by decide +kernel
theorem dX10_packedShare_10 : decode cX10_packedShare 10 = .ok (.aload_n 0, 1) := by decide +kernel
theorem dX10_packedShare_11 : decode cX10_packedShare 11 = .ok (.getfield 10, 3) := by decide +kernel
theorem dX10_packedShare_14 : decode cX10_packedShare 14 = .ok (.getfield 158, 3) := by decide +kernel
theorem dX10_packedShare_17 : decode cX10_packedShare 17 = .ok (.invokevirtual 255, 3) := by decide +kernel
theorem dX10_packedShare_20 : decode cX10_packedShare 20 = .ok (.imul, 1) := by decide +kernel
theorem dX10_packedShare_21 : decode cX10_packedShare 21 = .ok (.istore_n 1, 1) := by decide +kernel
theorem dX10_packedShare_22 : decode cX10_packedShare 22 = .ok (.aload_n 0, 1) := by decide +kernel
theorem dX10_packedShare_23 : decode cX10_packedShare 23 = .ok (.getfield 10, 3) := by decide +kernel
theorem dX10_packedShare_26 : decode cX10_packedShare 26 = .ok (.getfield 158, 3) := by decide +kernel
theorem dX10_packedShare_29 : decode cX10_packedShare 29 = .ok (.getfield 165, 3) := by decide +kernel
theorem dX10_packedShare_32 : decode cX10_packedShare 32 = .ok (.ifCond .le 7, 3) := by decide +kernel
theorem dX10_packedShare_35 : decode cX10_packedShare 35 = .ok (.iload_n 1, 1) := by decide +kernel
theorem dX10_packedShare_36 : decode cX10_packedShare 36 = .ok (.ifCond .gt 5, 3) := by decide +kernel
theorem dX10_packedShare_39 : decode cX10_packedShare 39 = .ok (.dconst 1, 1) := by decide +kernel
theorem dX10_packedShare_40 : decode cX10_packedShare 40 = .ok (.dreturn, 1) := by decide +kernel
theorem dX10_packedShare_41 : decode cX10_packedShare 41 = .ok (.aload_n 0, 1) := by decide +kernel
theorem dX10_packedShare_42 : decode cX10_packedShare 42 = .ok (.getfield 10, 3) := by decide +kernel
theorem dX10_packedShare_45 : decode cX10_packedShare 45 = .ok (.getfield 158, 3) := by decide +kernel
theorem dX10_packedShare_48 : decode cX10_packedShare 48 = .ok (.aload_n 0, 1) := by decide +kernel
theorem dX10_packedShare_49 : decode cX10_packedShare 49 = .ok (.getfield 10, 3) := by decide +kernel
theorem dX10_packedShare_52 : decode cX10_packedShare 52 = .ok (.getfield 43, 3) := by decide +kernel
theorem dX10_packedShare_55 : decode cX10_packedShare 55 = .ok (.invokevirtual 251, 3) := by decide +kernel
theorem dX10_packedShare_58 : decode cX10_packedShare 58 = .ok (.i2d, 1) := by decide +kernel
theorem dX10_packedShare_59 : decode cX10_packedShare 59 = .ok (.iload_n 1, 1) := by decide +kernel
theorem dX10_packedShare_60 : decode cX10_packedShare 60 = .ok (.i2d, 1) := by decide +kernel
theorem dX10_packedShare_61 : decode cX10_packedShare 61 = .ok (.ddiv, 1) := by decide +kernel
theorem dX10_packedShare_62 : decode cX10_packedShare 62 = .ok (.dreturn, 1) := by decide +kernel
theorem dX10_mix_0 : decode cX10_mix 0 = .ok (.ldc2_w 362, 3) := by decide +kernel
theorem dX10_mix_3 : decode cX10_mix 3 = .ok (.lload_n 0, 1) := by decide +kernel
theorem dX10_mix_4 : decode cX10_mix 4 = .ok (.lmul, 1) := by decide +kernel
theorem dX10_mix_5 : decode cX10_mix 5 = .ok (.lload_n 2, 1) := by decide +kernel
theorem dX10_mix_6 : decode cX10_mix 6 = .ok (.ladd, 1) := by decide +kernel
theorem dX10_mix_7 : decode cX10_mix 7 = .ok (.lreturn, 1) := by decide +kernel
theorem dX10_hashText_0 : decode cX10_hashText 0 = .ok (.lload_n 1, 1) := by decide +kernel
theorem dX10_hashText_1 : decode cX10_hashText 1 = .ok (.aload_n 0, 1) := by decide +kernel
theorem dX10_hashText_2 : decode cX10_hashText 2 = .ok (.getfield 10, 3) := by decide +kernel
theorem dX10_hashText_5 : decode cX10_hashText 5 = .ok (.getfield 39, 3) := by decide +kernel
theorem dX10_hashText_8 : decode cX10_hashText 8 = .ok (.getfield 88, 3) := by decide +kernel
theorem dX10_hashText_11 : decode cX10_hashText 11 = .ok (.i2l, 1) := by decide +kernel
theorem dX10_hashText_12 : decode cX10_hashText 12 = .ok (.invokestatic 311, 3) := by decide +kernel
theorem dX10_hashText_15 : decode cX10_hashText 15 = .ok (.lstore_n 3, 1) := by decide +kernel
theorem dX10_hashText_16 : decode cX10_hashText 16 = .ok (.iconst 0, 1) := by decide +kernel
theorem dX10_hashText_17 : decode cX10_hashText 17 = .ok (.istore 5, 2) := by decide +kernel
theorem dX10_hashText_19 : decode cX10_hashText 19 = .ok (.iload 5, 2) := by decide +kernel
theorem dX10_hashText_21 : decode cX10_hashText 21 = .ok (.aload_n 0, 1) := by decide +kernel
theorem dX10_hashText_22 : decode cX10_hashText 22 = .ok (.getfield 10, 3) := by decide +kernel
theorem dX10_hashText_25 : decode cX10_hashText 25 = .ok (.getfield 39, 3) := by decide +kernel
theorem dX10_hashText_28 : decode cX10_hashText 28 = .ok (.getfield 88, 3) := by decide +kernel
theorem dX10_hashText_31 : decode cX10_hashText 31 = .ok (.if_icmp .ge 27, 3) := by decide +kernel
theorem dX10_hashText_34 : decode cX10_hashText 34 = .ok (.lload_n 3, 1) := by decide +kernel
theorem dX10_hashText_35 : decode cX10_hashText 35 = .ok (.aload_n 0, 1) := by decide +kernel
theorem dX10_hashText_36 : decode cX10_hashText 36 = .ok (.getfield 10, 3) := by decide +kernel
theorem dX10_hashText_39 : decode cX10_hashText 39 = .ok (.getfield 39, 3) := by decide +kernel
theorem dX10_hashText_42 : decode cX10_hashText 42 = .ok (.iload 5, 2) := by decide +kernel
theorem dX10_hashText_44 : decode cX10_hashText 44 = .ok (.invokevirtual 115, 3) := by decide +kernel
theorem dX10_hashText_47 : decode cX10_hashText 47 = .ok (.i2l, 1) := by decide +kernel
theorem dX10_hashText_48 : decode cX10_hashText 48 = .ok (.invokestatic 311, 3) := by decide +kernel
theorem dX10_hashText_51 : decode cX10_hashText 51 = .ok (.lstore_n 3, 1) := by decide +kernel
theorem dX10_hashText_52 : decode cX10_hashText 52 = .ok (.iinc 5 1, 3) := by decide +kernel
theorem dX10_hashText_55 : decode cX10_hashText 55 = .ok (.goto (-36), 3) := by decide +kernel
theorem dX10_hashText_58 : decode cX10_hashText 58 = .ok (.lload_n 3, 1) := by decide +kernel
theorem dX10_hashText_59 : decode cX10_hashText 59 = .ok (.lreturn, 1) := by decide +kernel
theorem dX10_mixTruth_0 : decode cX10_mixTruth 0 = .ok (.lload_n 0, 1) := by decide +kernel
theorem dX10_mixTruth_1 : decode cX10_mixTruth 1 = .ok (.iload_n 2, 1) := by decide +kernel
theorem dX10_mixTruth_2 : decode cX10_mixTruth 2 = .ok (.ifCond .eq 7, 3) := by decide +kernel
theorem dX10_mixTruth_5 : decode cX10_mixTruth 5 = .ok (.lconst 1, 1) := by decide +kernel
theorem dX10_mixTruth_6 : decode cX10_mixTruth 6 = .ok (.goto 4, 3) := by decide +kernel
theorem dX10_mixTruth_9 : decode cX10_mixTruth 9 = .ok (.lconst 0, 1) := by decide +kernel
theorem dX10_mixTruth_10 : decode cX10_mixTruth 10 = .ok (.invokestatic 311, 3) := by decide +kernel
theorem dX10_mixTruth_13 : decode cX10_mixTruth 13 = .ok (.lreturn, 1) := by decide +kernel
theorem dX10_hashSack_0 : decode cX10_hashSack 0 = .ok (.lload_n 1, 1) := by decide +kernel
theorem dX10_hashSack_1 : decode cX10_hashSack 1 = .ok (.aload_n 0, 1) := by decide +kernel
theorem dX10_hashSack_2 : decode cX10_hashSack 2 = .ok (.getfield 10, 3) := by decide +kernel
theorem dX10_hashSack_5 : decode cX10_hashSack 5 = .ok (.getfield 158, 3) := by decide +kernel
theorem dX10_hashSack_8 : decode cX10_hashSack 8 = .ok (.getfield 165, 3) := by decide +kernel
theorem dX10_hashSack_11 : decode cX10_hashSack 11 = .ok (.i2l, 1) := by decide +kernel
theorem dX10_hashSack_12 : decode cX10_hashSack 12 = .ok (.invokestatic 311, 3) := by decide +kernel
theorem dX10_hashSack_15 : decode cX10_hashSack 15 = .ok (.lstore_n 3, 1) := by decide +kernel
theorem dX10_hashSack_16 : decode cX10_hashSack 16 = .ok (.lload_n 3, 1) := by decide +kernel
theorem dX10_hashSack_17 : decode cX10_hashSack 17 = .ok (.aload_n 0, 1) := by decide +kernel
theorem dX10_hashSack_18 : decode cX10_hashSack 18 = .ok (.invokevirtual 364, 3) := by decide +kernel
theorem dX10_hashSack_21 : decode cX10_hashSack 21 = .ok (.i2l, 1) := by decide +kernel
theorem dX10_hashSack_22 : decode cX10_hashSack 22 = .ok (.invokestatic 311, 3) := by decide +kernel
theorem dX10_hashSack_25 : decode cX10_hashSack 25 = .ok (.lstore_n 3, 1) := by decide +kernel
theorem dX10_hashSack_26 : decode cX10_hashSack 26 = .ok (.lload_n 3, 1) := by decide +kernel
theorem dX10_hashSack_27 : decode cX10_hashSack 27 = .ok (.aload_n 0, 1) := by decide +kernel
theorem dX10_hashSack_28 : decode cX10_hashSack 28 = .ok (.invokevirtual 367, 3) := by decide +kernel
theorem dX10_hashSack_31 : decode cX10_hashSack 31 = .ok (.i2l, 1) := by decide +kernel
theorem dX10_hashSack_32 : decode cX10_hashSack 32 = .ok (.invokestatic 311, 3) := by decide +kernel
theorem dX10_hashSack_35 : decode cX10_hashSack 35 = .ok (.lstore_n 3, 1) := by decide +kernel
theorem dX10_hashSack_36 : decode cX10_hashSack 36 = .ok (.lload_n 3, 1) := by decide +kernel
theorem dX10_hashSack_37 : decode cX10_hashSack 37 = .ok (.aload_n 0, 1) := by decide +kernel
theorem dX10_hashSack_38 : decode cX10_hashSack 38 = .ok (.invokevirtual 370, 3) := by decide +kernel
theorem dX10_hashSack_41 : decode cX10_hashSack 41 = .ok (.i2l, 1) := by decide +kernel
theorem dX10_hashSack_42 : decode cX10_hashSack 42 = .ok (.invokestatic 311, 3) := by decide +kernel
theorem dX10_hashSack_45 : decode cX10_hashSack 45 = .ok (.lstore_n 3, 1) := by decide +kernel
theorem dX10_hashSack_46 : decode cX10_hashSack 46 = .ok (.lload_n 3, 1) := by decide +kernel
theorem dX10_hashSack_47 : decode cX10_hashSack 47 = .ok (.aload_n 0, 1) := by decide +kernel
theorem dX10_hashSack_48 : decode cX10_hashSack 48 = .ok (.invokevirtual 373, 3) := by decide +kernel
theorem dX10_hashSack_51 : decode cX10_hashSack 51 = .ok (.i2l, 1) := by decide +kernel
theorem dX10_hashSack_52 : decode cX10_hashSack 52 = .ok (.invokestatic 311, 3) := by decide +kernel
theorem dX10_hashSack_55 : decode cX10_hashSack 55 = .ok (.lstore_n 3, 1) := by decide +kernel
theorem dX10_hashSack_56 : decode cX10_hashSack 56 = .ok (.lload_n 3, 1) := by decide +kernel
theorem dX10_hashSack_57 : decode cX10_hashSack 57 = .ok (.aload_n 0, 1) := by decide +kernel
theorem dX10_hashSack_58 : decode cX10_hashSack 58 = .ok (.invokevirtual 376, 3) := by decide +kernel
theorem dX10_hashSack_61 : decode cX10_hashSack 61 = .ok (.invokestatic 379, 3) := by decide +kernel
theorem dX10_hashSack_64 : decode cX10_hashSack 64 = .ok (.lreturn, 1) := by decide +kernel
theorem dX10_hashCosts_0 : decode cX10_hashCosts 0 = .ok (.lload_n 1, 1) := by decide +kernel
theorem dX10_hashCosts_1 : decode cX10_hashCosts 1 = .ok (.aload_n 0, 1) := by decide +kernel
theorem dX10_hashCosts_2 : decode cX10_hashCosts 2 = .ok (.getfield 59, 3) := by decide +kernel
theorem dX10_hashCosts_5 : decode cX10_hashCosts 5 = .ok (.aload_n 0, 1) := by decide +kernel
theorem dX10_hashCosts_6 : decode cX10_hashCosts 6 = .ok (.getfield 10, 3) := by decide +kernel
theorem dX10_hashCosts_9 : decode cX10_hashCosts 9 = .ok (.getfield 43, 3) := by decide +kernel
theorem dX10_hashCosts_12 : decode cX10_hashCosts 12 = .ok (.getfield 132, 3) := by decide +kernel
theorem dX10_hashCosts_15 : decode cX10_hashCosts 15 = .ok (.invokevirtual 283, 3) := by decide +kernel
theorem dX10_hashCosts_18 : decode cX10_hashCosts 18 = .ok (.i2l, 1) := by decide +kernel
theorem dX10_hashCosts_19 : decode cX10_hashCosts 19 = .ok (.invokestatic 311, 3) := by decide +kernel
theorem dX10_hashCosts_22 : decode cX10_hashCosts 22 = .ok (.lstore_n 3, 1) := by decide +kernel
theorem dX10_hashCosts_23 : decode cX10_hashCosts 23 = .ok (.lload_n 3, 1) := by decide +kernel
theorem dX10_hashCosts_24 : decode cX10_hashCosts 24 = .ok (.aload_n 0, 1) := by decide +kernel
theorem dX10_hashCosts_25 : decode cX10_hashCosts 25 = .ok (.getfield 59, 3) := by decide +kernel
theorem dX10_hashCosts_28 : decode cX10_hashCosts 28 = .ok (.invokevirtual 286, 3) := by decide +kernel
theorem dX10_hashCosts_31 : decode cX10_hashCosts 31 = .ok (.i2l, 1) := by decide +kernel
theorem dX10_hashCosts_32 : decode cX10_hashCosts 32 = .ok (.invokestatic 311, 3) := by decide +kernel
theorem dX10_hashCosts_35 : decode cX10_hashCosts 35 = .ok (.lstore_n 3, 1) := by decide +kernel
theorem dX10_hashCosts_36 : decode cX10_hashCosts 36 = .ok (.lload_n 3, 1) := by decide +kernel
theorem dX10_hashCosts_37 : decode cX10_hashCosts 37 = .ok (.aload_n 0, 1) := by decide +kernel
theorem dX10_hashCosts_38 : decode cX10_hashCosts 38 = .ok (.getfield 59, 3) := by decide +kernel
theorem dX10_hashCosts_41 : decode cX10_hashCosts 41 = .ok (.bipush 32, 2) := by decide +kernel
theorem dX10_hashCosts_43 : decode cX10_hashCosts 43 = .ok (.invokevirtual 283, 3) := by decide +kernel
theorem dX10_hashCosts_46 : decode cX10_hashCosts 46 = .ok (.i2l, 1) := by decide +kernel
theorem dX10_hashCosts_47 : decode cX10_hashCosts 47 = .ok (.invokestatic 311, 3) := by decide +kernel
theorem dX10_hashCosts_50 : decode cX10_hashCosts 50 = .ok (.lstore_n 3, 1) := by decide +kernel
theorem dX10_hashCosts_51 : decode cX10_hashCosts 51 = .ok (.iconst 0, 1) := by decide +kernel
theorem dX10_hashCosts_52 : decode cX10_hashCosts 52 = .ok (.istore 5, 2) := by decide +kernel
theorem dX10_hashCosts_54 : decode cX10_hashCosts 54 = .ok (.iload 5, 2) := by decide +kernel
theorem dX10_hashCosts_56 : decode cX10_hashCosts 56 = .ok (.iconst 2, 1) := by decide +kernel
theorem dX10_hashCosts_57 : decode cX10_hashCosts 57 = .ok (.if_icmp .gt 55, 3) := by decide +kernel
theorem dX10_hashCosts_60 : decode cX10_hashCosts 60 = .ok (.aload_n 0, 1) := by decide +kernel
theorem dX10_hashCosts_61 : decode cX10_hashCosts 61 = .ok (.getfield 59, 3) := by decide +kernel
theorem dX10_hashCosts_64 : decode cX10_hashCosts 64 = .ok (.iload 5, 2) := by decide +kernel
theorem dX10_hashCosts_66 : decode cX10_hashCosts 66 = .ok (.aload_n 0, 1) := by decide +kernel
theorem dX10_hashCosts_67 : decode cX10_hashCosts 67 = .ok (.getfield 66, 3) := by decide +kernel
theorem dX10_hashCosts_70 : decode cX10_hashCosts 70 = .ok (.invokevirtual 161, 3) := by decide +kernel
theorem dX10_hashCosts_73 : decode cX10_hashCosts 73 = .ok (.lload_n 3, 1) := by decide +kernel
theorem dX10_hashCosts_74 : decode cX10_hashCosts 74 = .ok (.aload_n 0, 1) := by decide +kernel
theorem dX10_hashCosts_75 : decode cX10_hashCosts 75 = .ok (.getfield 66, 3) := by decide +kernel
theorem dX10_hashCosts_78 : decode cX10_hashCosts 78 = .ok (.aload_n 0, 1) := by decide +kernel
theorem dX10_hashCosts_79 : decode cX10_hashCosts 79 = .ok (.getfield 10, 3) := by decide +kernel
theorem dX10_hashCosts_82 : decode cX10_hashCosts 82 = .ok (.getfield 43, 3) := by decide +kernel
theorem dX10_hashCosts_85 : decode cX10_hashCosts 85 = .ok (.invokevirtual 251, 3) := by decide +kernel
theorem dX10_hashCosts_88 : decode cX10_hashCosts 88 = .ok (.i2l, 1) := by decide +kernel
theorem dX10_hashCosts_89 : decode cX10_hashCosts 89 = .ok (.invokestatic 311, 3) := by decide +kernel
theorem dX10_hashCosts_92 : decode cX10_hashCosts 92 = .ok (.lstore_n 3, 1) := by decide +kernel
theorem dX10_hashCosts_93 : decode cX10_hashCosts 93 = .ok (.lload_n 3, 1) := by decide +kernel
theorem dX10_hashCosts_94 : decode cX10_hashCosts 94 = .ok (.aload_n 0, 1) := by decide +kernel
theorem dX10_hashCosts_95 : decode cX10_hashCosts 95 = .ok (.getfield 66, 3) := by decide +kernel
theorem dX10_hashCosts_98 : decode cX10_hashCosts 98 = .ok (.getfield 165, 3) := by decide +kernel
theorem dX10_hashCosts_101 : decode cX10_hashCosts 101 = .ok (.i2l, 1) := by decide +kernel
theorem dX10_hashCosts_102 : decode cX10_hashCosts 102 = .ok (.invokestatic 311, 3) := by decide +kernel
theorem dX10_hashCosts_105 : decode cX10_hashCosts 105 = .ok (.lstore_n 3, 1) := by decide +kernel
theorem dX10_hashCosts_106 : decode cX10_hashCosts 106 = .ok (.iinc 5 1, 3) := by decide +kernel
theorem dX10_hashCosts_109 : decode cX10_hashCosts 109 = .ok (.goto (-55), 3) := by decide +kernel
theorem dX10_hashCosts_112 : decode cX10_hashCosts 112 = .ok (.lload_n 3, 1) := by decide +kernel
theorem dX10_hashCosts_113 : decode cX10_hashCosts 113 = .ok (.lreturn, 1) := by decide +kernel
theorem dX10_hashTokens_0 : decode cX10_hashTokens 0 = .ok (.lload_n 1, 1) := by decide +kernel
theorem dX10_hashTokens_1 : decode cX10_hashTokens 1 = .ok (.lstore_n 3, 1) := by decide +kernel
theorem dX10_hashTokens_2 : decode cX10_hashTokens 2 = .ok (.iconst 0, 1) := by decide +kernel
theorem dX10_hashTokens_3 : decode cX10_hashTokens 3 = .ok (.istore 5, 2) := by decide +kernel
theorem dX10_hashTokens_5 : decode cX10_hashTokens 5 = .ok (.iload 5, 2) := by decide +kernel
theorem dX10_hashTokens_7 : decode cX10_hashTokens 7 = .ok (.aload_n 0, 1) := by decide +kernel
theorem dX10_hashTokens_8 : decode cX10_hashTokens 8 = .ok (.getfield 10, 3) := by decide +kernel
theorem dX10_hashTokens_11 : decode cX10_hashTokens 11 = .ok (.getfield 158, 3) := by decide +kernel
theorem dX10_hashTokens_14 : decode cX10_hashTokens 14 = .ok (.getfield 165, 3) := by decide +kernel
theorem dX10_hashTokens_17 : decode cX10_hashTokens 17 = .ok (.if_icmp .ge 85, 3) := by decide +kernel
theorem dX10_hashTokens_20 : decode cX10_hashTokens 20 = .ok (.aload_n 0, 1) := by decide +kernel
theorem dX10_hashTokens_21 : decode cX10_hashTokens 21 = .ok (.getfield 10, 3) := by decide +kernel
theorem dX10_hashTokens_24 : decode cX10_hashTokens 24 = .ok (.getfield 158, 3) := by decide +kernel
theorem dX10_hashTokens_27 : decode cX10_hashTokens 27 = .ok (.iload 5, 2) := by decide +kernel
theorem dX10_hashTokens_29 : decode cX10_hashTokens 29 = .ok (.invokevirtual 238, 3) := by decide +kernel
theorem dX10_hashTokens_32 : decode cX10_hashTokens 32 = .ok (.istore 6, 2) := by decide +kernel
theorem dX10_hashTokens_34 : decode cX10_hashTokens 34 = .ok (.lload_n 3, 1) := by decide +kernel
theorem dX10_hashTokens_35 : decode cX10_hashTokens 35 = .ok (.iload 6, 2) := by decide +kernel
theorem dX10_hashTokens_37 : decode cX10_hashTokens 37 = .ok (.ifCond .eq 7, 3) := by decide +kernel
theorem dX10_hashTokens_40 : decode cX10_hashTokens 40 = .ok (.iconst 1, 1) := by decide +kernel
theorem dX10_hashTokens_41 : decode cX10_hashTokens 41 = .ok (.goto 4, 3) := by decide +kernel
theorem dX10_hashTokens_44 : decode cX10_hashTokens 44 = .ok (.iconst 0, 1) := by decide +kernel
theorem dX10_hashTokens_45 : decode cX10_hashTokens 45 = .ok (.invokestatic 379, 3) := by decide +kernel
theorem dX10_hashTokens_48 : decode cX10_hashTokens 48 = .ok (.lstore_n 3, 1) := by decide +kernel
theorem dX10_hashTokens_49 : decode cX10_hashTokens 49 = .ok (.lload_n 3, 1) := by decide +kernel
theorem dX10_hashTokens_50 : decode cX10_hashTokens 50 = .ok (.aload_n 0, 1) := by decide +kernel
theorem dX10_hashTokens_51 : decode cX10_hashTokens 51 = .ok (.getfield 10, 3) := by decide +kernel
theorem dX10_hashTokens_54 : decode cX10_hashTokens 54 = .ok (.getfield 158, 3) := by decide +kernel
theorem dX10_hashTokens_57 : decode cX10_hashTokens 57 = .ok (.iload 5, 2) := by decide +kernel
theorem dX10_hashTokens_59 : decode cX10_hashTokens 59 = .ok (.invokevirtual 248, 3) := by decide +kernel
theorem dX10_hashTokens_62 : decode cX10_hashTokens 62 = .ok (.i2l, 1) := by decide +kernel
theorem dX10_hashTokens_63 : decode cX10_hashTokens 63 = .ok (.invokestatic 311, 3) := by decide +kernel
theorem dX10_hashTokens_66 : decode cX10_hashTokens 66 = .ok (.lstore_n 3, 1) := by decide +kernel
theorem dX10_hashTokens_67 : decode cX10_hashTokens 67 = .ok (.lload_n 3, 1) := by decide +kernel
theorem dX10_hashTokens_68 : decode cX10_hashTokens 68 = .ok (.iload 6, 2) := by decide +kernel
theorem dX10_hashTokens_70 : decode cX10_hashTokens 70 = .ok (.ifCond .eq 9, 3) := by decide +kernel
theorem dX10_hashTokens_73 : decode cX10_hashTokens 73 = .ok (.iload 6, 2) := by decide +kernel
theorem dX10_hashTokens_75 : decode cX10_hashTokens 75 = .ok (.i2l, 1) := by decide +kernel
theorem dX10_hashTokens_76 : decode cX10_hashTokens 76 = .ok (.goto 16, 3) := by decide +kernel
theorem dX10_hashTokens_79 : decode cX10_hashTokens 79 = .ok (.aload_n 0, 1) := by decide +kernel
theorem dX10_hashTokens_80 : decode cX10_hashTokens 80 = .ok (.getfield 10, 3) := by decide +kernel
theorem dX10_hashTokens_83 : decode cX10_hashTokens 83 = .ok (.getfield 158, 3) := by decide +kernel
theorem dX10_hashTokens_86 : decode cX10_hashTokens 86 = .ok (.iload 5, 2) := by decide +kernel
theorem dX10_hashTokens_88 : decode cX10_hashTokens 88 = .ok (.invokevirtual 243, 3) := by decide +kernel
theorem dX10_hashTokens_91 : decode cX10_hashTokens 91 = .ok (.i2l, 1) := by decide +kernel
theorem dX10_hashTokens_92 : decode cX10_hashTokens 92 = .ok (.invokestatic 311, 3) := by decide +kernel
theorem dX10_hashTokens_95 : decode cX10_hashTokens 95 = .ok (.lstore_n 3, 1) := by decide +kernel
theorem dX10_hashTokens_96 : decode cX10_hashTokens 96 = .ok (.iinc 5 1, 3) := by decide +kernel
theorem dX10_hashTokens_99 : decode cX10_hashTokens 99 = .ok (.goto (-94), 3) := by decide +kernel
theorem dX10_hashTokens_102 : decode cX10_hashTokens 102 = .ok (.lload_n 3, 1) := by decide +kernel
theorem dX10_hashTokens_103 : decode cX10_hashTokens 103 = .ok (.lreturn, 1) := by decide +kernel
theorem dX10_hashRepeats_0 : decode cX10_hashRepeats 0 = .ok (.lload_n 1, 1) := by decide +kernel
theorem dX10_hashRepeats_1 : decode cX10_hashRepeats 1 = .ok (.lstore_n 3, 1) := by decide +kernel
theorem dX10_hashRepeats_2 : decode cX10_hashRepeats 2 = .ok (.aload_n 0, 1) := by decide +kernel
theorem dX10_hashRepeats_3 : decode cX10_hashRepeats 3 = .ok (.getfield 50, 3) := by decide +kernel
theorem dX10_hashRepeats_6 : decode cX10_hashRepeats 6 = .ok (.getfield 268, 3) := by decide +kernel
theorem dX10_hashRepeats_9 : decode cX10_hashRepeats 9 = .ok (.aload_n 0, 1) := by decide +kernel
theorem dX10_hashRepeats_10 : decode cX10_hashRepeats 10 = .ok (.getfield 10, 3) := by decide +kernel
theorem dX10_hashRepeats_13 : decode cX10_hashRepeats 13 = .ok (.getfield 39, 3) := by decide +kernel
theorem dX10_hashRepeats_16 : decode cX10_hashRepeats 16 = .ok (.invokevirtual 272, 3) := by decide +kernel
theorem dX10_hashRepeats_19 : decode cX10_hashRepeats 19 = .ok (.iconst 0, 1) := by decide +kernel
theorem dX10_hashRepeats_20 : decode cX10_hashRepeats 20 = .ok (.istore 5, 2) := by decide +kernel
theorem dX10_hashRepeats_22 : decode cX10_hashRepeats 22 = .ok (.iload 5, 2) := by decide +kernel
theorem dX10_hashRepeats_24 : decode cX10_hashRepeats 24 = .ok (.aload_n 0, 1) := by decide +kernel
theorem dX10_hashRepeats_25 : decode cX10_hashRepeats 25 = .ok (.getfield 10, 3) := by decide +kernel
theorem dX10_hashRepeats_28 : decode cX10_hashRepeats 28 = .ok (.getfield 39, 3) := by decide +kernel
theorem dX10_hashRepeats_31 : decode cX10_hashRepeats 31 = .ok (.getfield 88, 3) := by decide +kernel
theorem dX10_hashRepeats_34 : decode cX10_hashRepeats 34 = .ok (.if_icmp .ge 70, 3) := by decide +kernel
theorem dX10_hashRepeats_37 : decode cX10_hashRepeats 37 = .ok (.aload_n 0, 1) := by decide +kernel
theorem dX10_hashRepeats_38 : decode cX10_hashRepeats 38 = .ok (.getfield 50, 3) := by decide +kernel
theorem dX10_hashRepeats_41 : decode cX10_hashRepeats 41 = .ok (.iload 5, 2) := by decide +kernel
theorem dX10_hashRepeats_43 : decode cX10_hashRepeats 43 = .ok (.aload_n 0, 1) := by decide +kernel
theorem dX10_hashRepeats_44 : decode cX10_hashRepeats 44 = .ok (.getfield 10, 3) := by decide +kernel
theorem dX10_hashRepeats_47 : decode cX10_hashRepeats 47 = .ok (.getfield 43, 3) := by decide +kernel
theorem dX10_hashRepeats_50 : decode cX10_hashRepeats 50 = .ok (.getfield 132, 3) := by decide +kernel
theorem dX10_hashRepeats_53 : decode cX10_hashRepeats 53 = .ok (.invokevirtual 264, 3) := by decide +kernel
theorem dX10_hashRepeats_56 : decode cX10_hashRepeats 56 = .ok (.istore 6, 2) := by decide +kernel
theorem dX10_hashRepeats_58 : decode cX10_hashRepeats 58 = .ok (.lload_n 3, 1) := by decide +kernel
theorem dX10_hashRepeats_59 : decode cX10_hashRepeats 59 = .ok (.iload 6, 2) := by decide +kernel
theorem dX10_hashRepeats_61 : decode cX10_hashRepeats 61 = .ok (.i2l, 1) := by decide +kernel
theorem dX10_hashRepeats_62 : decode cX10_hashRepeats 62 = .ok (.invokestatic 311, 3) := by decide +kernel
theorem dX10_hashRepeats_65 : decode cX10_hashRepeats 65 = .ok (.lstore_n 3, 1) := by decide +kernel
theorem dX10_hashRepeats_66 : decode cX10_hashRepeats 66 = .ok (.lload_n 3, 1) := by decide +kernel
theorem dX10_hashRepeats_67 : decode cX10_hashRepeats 67 = .ok (.aload_n 0, 1) := by decide +kernel
theorem dX10_hashRepeats_68 : decode cX10_hashRepeats 68 = .ok (.getfield 50, 3) := by decide +kernel
theorem dX10_hashRepeats_71 : decode cX10_hashRepeats 71 = .ok (.iload 5, 2) := by decide +kernel
theorem dX10_hashRepeats_73 : decode cX10_hashRepeats 73 = .ok (.invokevirtual 277, 3) := by decide +kernel
theorem dX10_hashRepeats_76 : decode cX10_hashRepeats 76 = .ok (.i2l, 1) := by decide +kernel
theorem dX10_hashRepeats_77 : decode cX10_hashRepeats 77 = .ok (.invokestatic 311, 3) := by decide +kernel
theorem dX10_hashRepeats_80 : decode cX10_hashRepeats 80 = .ok (.lstore_n 3, 1) := by decide +kernel
theorem dX10_hashRepeats_81 : decode cX10_hashRepeats 81 = .ok (.lload_n 3, 1) := by decide +kernel
theorem dX10_hashRepeats_82 : decode cX10_hashRepeats 82 = .ok (.aload_n 0, 1) := by decide +kernel
theorem dX10_hashRepeats_83 : decode cX10_hashRepeats 83 = .ok (.getfield 50, 3) := by decide +kernel
theorem dX10_hashRepeats_86 : decode cX10_hashRepeats 86 = .ok (.iload 5, 2) := by decide +kernel
theorem dX10_hashRepeats_88 : decode cX10_hashRepeats 88 = .ok (.iload 6, 2) := by decide +kernel
theorem dX10_hashRepeats_90 : decode cX10_hashRepeats 90 = .ok (.invokevirtual 280, 3) := by decide +kernel
theorem dX10_hashRepeats_93 : decode cX10_hashRepeats 93 = .ok (.i2l, 1) := by decide +kernel
theorem dX10_hashRepeats_94 : decode cX10_hashRepeats 94 = .ok (.invokestatic 311, 3) := by decide +kernel
theorem dX10_hashRepeats_97 : decode cX10_hashRepeats 97 = .ok (.lstore_n 3, 1) := by decide +kernel
theorem dX10_hashRepeats_98 : decode cX10_hashRepeats 98 = .ok (.iinc 5 1, 3) := by decide +kernel
theorem dX10_hashRepeats_101 : decode cX10_hashRepeats 101 = .ok (.goto (-79), 3) := by decide +kernel
theorem dX10_hashRepeats_104 : decode cX10_hashRepeats 104 = .ok (.lload_n 3, 1) := by decide +kernel
theorem dX10_hashRepeats_105 : decode cX10_hashRepeats 105 = .ok (.lreturn, 1) := by decide +kernel
theorem dX10_hashPairs_0 : decode cX10_hashPairs 0 = .ok (.lload_n 1, 1) := by decide +kernel
theorem dX10_hashPairs_1 : decode cX10_hashPairs 1 = .ok (.lstore_n 3, 1) := by decide +kernel
theorem dX10_hashPairs_2 : decode cX10_hashPairs 2 = .ok (.aload_n 0, 1) := by decide +kernel
theorem dX10_hashPairs_3 : decode cX10_hashPairs 3 = .ok (.getfield 50, 3) := by decide +kernel
theorem dX10_hashPairs_6 : decode cX10_hashPairs 6 = .ok (.getfield 268, 3) := by decide +kernel
theorem dX10_hashPairs_9 : decode cX10_hashPairs 9 = .ok (.aload_n 0, 1) := by decide +kernel
theorem dX10_hashPairs_10 : decode cX10_hashPairs 10 = .ok (.getfield 10, 3) := by decide +kernel
theorem dX10_hashPairs_13 : decode cX10_hashPairs 13 = .ok (.getfield 39, 3) := by decide +kernel
theorem dX10_hashPairs_16 : decode cX10_hashPairs 16 = .ok (.invokevirtual 272, 3) := by decide +kernel
theorem dX10_hashPairs_19 : decode cX10_hashPairs 19 = .ok (.iconst 0, 1) := by decide +kernel
theorem dX10_hashPairs_20 : decode cX10_hashPairs 20 = .ok (.istore 5, 2) := by decide +kernel
theorem dX10_hashPairs_22 : decode cX10_hashPairs 22 = .ok (.iload 5, 2) := by decide +kernel
theorem dX10_hashPairs_24 : decode cX10_hashPairs 24 = .ok (.bipush 16, 2) := by decide +kernel
theorem dX10_hashPairs_26 : decode cX10_hashPairs 26 = .ok (.if_icmp .ge 45, 3) := by decide +kernel
theorem dX10_hashPairs_29 : decode cX10_hashPairs 29 = .ok (.lload_n 3, 1) := by decide +kernel
theorem dX10_hashPairs_30 : decode cX10_hashPairs 30 = .ok (.aload_n 0, 1) := by decide +kernel
theorem dX10_hashPairs_31 : decode cX10_hashPairs 31 = .ok (.getfield 50, 3) := by decide +kernel
theorem dX10_hashPairs_34 : decode cX10_hashPairs 34 = .ok (.getfield 268, 3) := by decide +kernel
theorem dX10_hashPairs_37 : decode cX10_hashPairs 37 = .ok (.iload 5, 2) := by decide +kernel
theorem dX10_hashPairs_39 : decode cX10_hashPairs 39 = .ok (.invokevirtual 294, 3) := by decide +kernel
theorem dX10_hashPairs_42 : decode cX10_hashPairs 42 = .ok (.i2l, 1) := by decide +kernel
theorem dX10_hashPairs_43 : decode cX10_hashPairs 43 = .ok (.invokestatic 311, 3) := by decide +kernel
theorem dX10_hashPairs_46 : decode cX10_hashPairs 46 = .ok (.lstore_n 3, 1) := by decide +kernel
theorem dX10_hashPairs_47 : decode cX10_hashPairs 47 = .ok (.lload_n 3, 1) := by decide +kernel
theorem dX10_hashPairs_48 : decode cX10_hashPairs 48 = .ok (.aload_n 0, 1) := by decide +kernel
theorem dX10_hashPairs_49 : decode cX10_hashPairs 49 = .ok (.getfield 50, 3) := by decide +kernel
theorem dX10_hashPairs_52 : decode cX10_hashPairs 52 = .ok (.getfield 268, 3) := by decide +kernel
theorem dX10_hashPairs_55 : decode cX10_hashPairs 55 = .ok (.iload 5, 2) := by decide +kernel
theorem dX10_hashPairs_57 : decode cX10_hashPairs 57 = .ok (.invokevirtual 297, 3) := by decide +kernel
theorem dX10_hashPairs_60 : decode cX10_hashPairs 60 = .ok (.i2l, 1) := by decide +kernel
theorem dX10_hashPairs_61 : decode cX10_hashPairs 61 = .ok (.invokestatic 311, 3) := by decide +kernel
theorem dX10_hashPairs_64 : decode cX10_hashPairs 64 = .ok (.lstore_n 3, 1) := by decide +kernel
theorem dX10_hashPairs_65 : decode cX10_hashPairs 65 = .ok (.iinc 5 1, 3) := by decide +kernel
theorem dX10_hashPairs_68 : decode cX10_hashPairs 68 = .ok (.goto (-46), 3) := by decide +kernel
theorem dX10_hashPairs_71 : decode cX10_hashPairs 71 = .ok (.aload_n 0, 1) := by decide +kernel
theorem dX10_hashPairs_72 : decode cX10_hashPairs 72 = .ok (.getfield 10, 3) := by decide +kernel
theorem dX10_hashPairs_75 : decode cX10_hashPairs 75 = .ok (.getfield 39, 3) := by decide +kernel
theorem dX10_hashPairs_78 : decode cX10_hashPairs 78 = .ok (.getfield 88, 3) := by decide +kernel
theorem dX10_hashPairs_81 : decode cX10_hashPairs 81 = .ok (.iconst 2, 1) := by decide +kernel
theorem dX10_hashPairs_82 : decode cX10_hashPairs 82 = .ok (.if_icmp .ge 7, 3) := by decide +kernel
theorem dX10_hashPairs_85 : decode cX10_hashPairs 85 = .ok (.lload_n 3, 1) := by decide +kernel
theorem dX10_hashPairs_86 : decode cX10_hashPairs 86 = .ok (.goto 18, 3) := by decide +kernel
theorem dX10_hashPairs_89 : decode cX10_hashPairs 89 = .ok (.lload_n 3, 1) := by decide +kernel
theorem dX10_hashPairs_90 : decode cX10_hashPairs 90 = .ok (.aload_n 0, 1) := by decide +kernel
theorem dX10_hashPairs_91 : decode cX10_hashPairs 91 = .ok (.getfield 50, 3) := by decide +kernel
theorem dX10_hashPairs_94 : decode cX10_hashPairs 94 = .ok (.getfield 268, 3) := by decide +kernel
theorem dX10_hashPairs_97 : decode cX10_hashPairs 97 = .ok (.invokevirtual 302, 3) := by decide +kernel
theorem dX10_hashPairs_100 : decode cX10_hashPairs 100 = .ok (.i2l, 1) := by decide +kernel
theorem dX10_hashPairs_101 : decode cX10_hashPairs 101 = .ok (.invokestatic 311, 3) := by decide +kernel
theorem dX10_hashPairs_104 : decode cX10_hashPairs 104 = .ok (.lreturn, 1) := by decide +kernel
theorem dX10_hashStop_0 : decode cX10_hashStop 0 = .ok (.lload_n 1, 1) := by decide +kernel
theorem dX10_hashStop_1 : decode cX10_hashStop 1 = .ok (.aload_n 0, 1) := by decide +kernel
theorem dX10_hashStop_2 : decode cX10_hashStop 2 = .ok (.invokevirtual 383, 3) := by decide +kernel
theorem dX10_hashStop_5 : decode cX10_hashStop 5 = .ok (.invokestatic 379, 3) := by decide +kernel
theorem dX10_hashStop_8 : decode cX10_hashStop 8 = .ok (.lstore_n 3, 1) := by decide +kernel
theorem dX10_hashStop_9 : decode cX10_hashStop 9 = .ok (.aload_n 0, 1) := by decide +kernel
theorem dX10_hashStop_10 : decode cX10_hashStop 10 = .ok (.getfield 10, 3) := by decide +kernel
theorem dX10_hashStop_13 : decode cX10_hashStop 13 = .ok (.getfield 217, 3) := by decide +kernel
theorem dX10_hashStop_16 : decode cX10_hashStop 16 = .ok (.ifCond .ne 5, 3) := by decide +kernel
theorem dX10_hashStop_19 : decode cX10_hashStop 19 = .ok (.lload_n 3, 1) := by decide +kernel
theorem dX10_hashStop_20 : decode cX10_hashStop 20 = .ok (.lreturn, 1) := by decide +kernel
theorem dX10_hashStop_21 : decode cX10_hashStop 21 = .ok (.lload_n 3, 1) := by decide +kernel
theorem dX10_hashStop_22 : decode cX10_hashStop 22 = .ok (.aload_n 0, 1) := by decide +kernel
theorem dX10_hashStop_23 : decode cX10_hashStop 23 = .ok (.getfield 10, 3) := by decide +kernel
theorem dX10_hashStop_26 : decode cX10_hashStop 26 = .ok (.getfield 220, 3) := by decide +kernel
theorem dX10_hashStop_29 : decode cX10_hashStop 29 = .ok (.i2l, 1) := by decide +kernel
theorem dX10_hashStop_30 : decode cX10_hashStop 30 = .ok (.invokestatic 311, 3) := by decide +kernel
theorem dX10_hashStop_33 : decode cX10_hashStop 33 = .ok (.lstore_n 3, 1) := by decide +kernel
theorem dX10_hashStop_34 : decode cX10_hashStop 34 = .ok (.lload_n 3, 1) := by decide +kernel
theorem dX10_hashStop_35 : decode cX10_hashStop 35 = .ok (.aload_n 0, 1) := by decide +kernel
theorem dX10_hashStop_36 : decode cX10_hashStop 36 = .ok (.getfield 10, 3) := by decide +kernel
theorem dX10_hashStop_39 : decode cX10_hashStop 39 = .ok (.getfield 217, 3) := by decide +kernel
theorem dX10_hashStop_42 : decode cX10_hashStop 42 = .ok (.i2l, 1) := by decide +kernel
theorem dX10_hashStop_43 : decode cX10_hashStop 43 = .ok (.invokestatic 311, 3) := by decide +kernel
theorem dX10_hashStop_46 : decode cX10_hashStop 46 = .ok (.lreturn, 1) := by decide +kernel
theorem dX10_bitsOf_0 : decode cX10_bitsOf 0 = .ok (.dload_n 0, 1) := by decide +kernel
theorem dX10_bitsOf_1 : decode cX10_bitsOf 1 = .ok (.dstore_n 2, 1) := by decide +kernel
theorem dX10_bitsOf_2 : decode cX10_bitsOf 2 = .ok (.ldc2_w 386, 3) := by decide +kernel
theorem dX10_bitsOf_5 : decode cX10_bitsOf 5 = .ok (.lstore 4, 2) := by decide +kernel
theorem dX10_bitsOf_7 : decode cX10_bitsOf 7 = .ok (.iconst 0, 1) := by decide +kernel
theorem dX10_bitsOf_8 : decode cX10_bitsOf 8 = .ok (.istore 6, 2) := by decide +kernel
theorem dX10_bitsOf_10 : decode cX10_bitsOf 10 = .ok (.iload 6, 2) := by decide +kernel
theorem dX10_bitsOf_12 : decode cX10_bitsOf 12 = .ok (.bipush 64, 2) := by decide +kernel
theorem dX10_bitsOf_14 : decode cX10_bitsOf 14 = .ok (.if_icmp .ge 29, 3) := by decide +kernel
theorem dX10_bitsOf_17 : decode cX10_bitsOf 17 = .ok (.dload_n 2, 1) := by decide +kernel
theorem dX10_bitsOf_18 : decode cX10_bitsOf 18 = .ok (.ldc2_w 388, 3) := by decide +kernel
theorem dX10_bitsOf_21 : decode cX10_bitsOf 21 = .ok (.dcmp .l, 1) := by decide +kernel
theorem dX10_bitsOf_22 : decode cX10_bitsOf 22 = .ok (.ifCond .lt 21, 3) := by decide +kernel
theorem dX10_bitsOf_25 : decode cX10_bitsOf 25 = .ok (.dload_n 2, 1) := by decide +kernel
theorem dX10_bitsOf_26 : decode cX10_bitsOf 26 = .ok (.ldc2_w 388, 3) := by decide +kernel
theorem dX10_bitsOf_29 : decode cX10_bitsOf 29 = .ok (.ddiv, 1) := by decide +kernel
theorem dX10_bitsOf_30 : decode cX10_bitsOf 30 = .ok (.dstore_n 2, 1) := by decide +kernel
theorem dX10_bitsOf_31 : decode cX10_bitsOf 31 = .ok (.lload 4, 2) := by decide +kernel
theorem dX10_bitsOf_33 : decode cX10_bitsOf 33 = .ok (.lconst 1, 1) := by decide +kernel
theorem dX10_bitsOf_34 : decode cX10_bitsOf 34 = .ok (.ladd, 1) := by decide +kernel
theorem dX10_bitsOf_35 : decode cX10_bitsOf 35 = .ok (.lstore 4, 2) := by decide +kernel
theorem dX10_bitsOf_37 : decode cX10_bitsOf 37 = .ok (.iinc 6 1, 3) := by decide +kernel
theorem dX10_bitsOf_40 : decode cX10_bitsOf 40 = .ok (.goto (-30), 3) := by decide +kernel
theorem dX10_bitsOf_43 : decode cX10_bitsOf 43 = .ok (.iconst 0, 1) := by decide +kernel
theorem dX10_bitsOf_44 : decode cX10_bitsOf 44 = .ok (.istore 6, 2) := by decide +kernel
theorem dX10_bitsOf_46 : decode cX10_bitsOf 46 = .ok (.iload 6, 2) := by decide +kernel
theorem dX10_bitsOf_48 : decode cX10_bitsOf 48 = .ok (.bipush 64, 2) := by decide +kernel
theorem dX10_bitsOf_50 : decode cX10_bitsOf 50 = .ok (.if_icmp .ge 27, 3) := by decide +kernel
theorem dX10_bitsOf_53 : decode cX10_bitsOf 53 = .ok (.dload_n 2, 1) := by decide +kernel
theorem dX10_bitsOf_54 : decode cX10_bitsOf 54 = .ok (.dconst 1, 1) := by decide +kernel
theorem dX10_bitsOf_55 : decode cX10_bitsOf 55 = .ok (.dcmp .g, 1) := by decide +kernel
theorem dX10_bitsOf_56 : decode cX10_bitsOf 56 = .ok (.ifCond .ge 21, 3) := by decide +kernel
theorem dX10_bitsOf_59 : decode cX10_bitsOf 59 = .ok (.dload_n 2, 1) := by decide +kernel
theorem dX10_bitsOf_60 : decode cX10_bitsOf 60 = .ok (.ldc2_w 388, 3) := by decide +kernel
theorem dX10_bitsOf_63 : decode cX10_bitsOf 63 = .ok (.dmul, 1) := by decide +kernel
theorem dX10_bitsOf_64 : decode cX10_bitsOf 64 = .ok (.dstore_n 2, 1) := by decide +kernel
theorem dX10_bitsOf_65 : decode cX10_bitsOf 65 = .ok (.lload 4, 2) := by decide +kernel
theorem dX10_bitsOf_67 : decode cX10_bitsOf 67 = .ok (.lconst 1, 1) := by decide +kernel
theorem dX10_bitsOf_68 : decode cX10_bitsOf 68 = .ok (.lsub, 1) := by decide +kernel
theorem dX10_bitsOf_69 : decode cX10_bitsOf 69 = .ok (.lstore 4, 2) := by decide +kernel
theorem dX10_bitsOf_71 : decode cX10_bitsOf 71 = .ok (.iinc 6 1, 3) := by decide +kernel
theorem dX10_bitsOf_74 : decode cX10_bitsOf 74 = .ok (.goto (-28), 3) := by decide +kernel
theorem dX10_bitsOf_77 : decode cX10_bitsOf 77 = .ok (.dload_n 2, 1) := by decide +kernel
theorem dX10_bitsOf_78 : decode cX10_bitsOf 78 = .ok (.dconst 1, 1) := by decide +kernel
theorem dX10_bitsOf_79 : decode cX10_bitsOf 79 = .ok (.dsub, 1) := by decide +kernel
theorem dX10_bitsOf_80 : decode cX10_bitsOf 80 = .ok (.ldc2_w 390, 3) := by decide +kernel
theorem dX10_bitsOf_83 : decode cX10_bitsOf 83 = .ok (.dmul, 1) := by decide +kernel
theorem dX10_bitsOf_84 : decode cX10_bitsOf 84 = .ok (.d2l, 1) := by decide +kernel
theorem dX10_bitsOf_85 : decode cX10_bitsOf 85 = .ok (.lstore 6, 2) := by decide +kernel
theorem dX10_bitsOf_87 : decode cX10_bitsOf 87 = .ok (.lload 4, 2) := by decide +kernel
theorem dX10_bitsOf_89 : decode cX10_bitsOf 89 = .ok (.bipush 52, 2) := by decide +kernel
theorem dX10_bitsOf_91 : decode cX10_bitsOf 91 = .ok (.lshl, 1) := by decide +kernel
theorem dX10_bitsOf_92 : decode cX10_bitsOf 92 = .ok (.lload 6, 2) := by decide +kernel
theorem dX10_bitsOf_94 : decode cX10_bitsOf 94 = .ok (.ladd, 1) := by decide +kernel
theorem dX10_bitsOf_95 : decode cX10_bitsOf 95 = .ok (.lreturn, 1) := by decide +kernel
theorem dX10_hashBuffer_0 : decode cX10_hashBuffer 0 = .ok (.lload_n 1, 1) := by decide +kernel
theorem dX10_hashBuffer_1 : decode cX10_hashBuffer 1 = .ok (.aload_n 0, 1) := by decide +kernel
theorem dX10_hashBuffer_2 : decode cX10_hashBuffer 2 = .ok (.getfield 33, 3) := by decide +kernel
theorem dX10_hashBuffer_5 : decode cX10_hashBuffer 5 = .ok (.getfield 197, 3) := by decide +kernel
theorem dX10_hashBuffer_8 : decode cX10_hashBuffer 8 = .ok (.i2l, 1) := by decide +kernel
theorem dX10_hashBuffer_9 : decode cX10_hashBuffer 9 = .ok (.invokestatic 311, 3) := by decide +kernel
theorem dX10_hashBuffer_12 : decode cX10_hashBuffer 12 = .ok (.lstore_n 3, 1) := by decide +kernel
theorem dX10_hashBuffer_13 : decode cX10_hashBuffer 13 = .ok (.iconst 0, 1) := by decide +kernel
theorem dX10_hashBuffer_14 : decode cX10_hashBuffer 14 = .ok (.istore 5, 2) := by decide +kernel
theorem dX10_hashBuffer_16 : decode cX10_hashBuffer 16 = .ok (.iload 5, 2) := by decide +kernel
theorem dX10_hashBuffer_18 : decode cX10_hashBuffer 18 = .ok (.aload_n 0, 1) := by decide +kernel
theorem dX10_hashBuffer_19 : decode cX10_hashBuffer 19 = .ok (.getfield 33, 3) := by decide +kernel
theorem dX10_hashBuffer_22 : decode cX10_hashBuffer 22 = .ok (.getfield 197, 3) := by decide +kernel
theorem dX10_hashBuffer_25 : decode cX10_hashBuffer 25 = .ok (.if_icmp .ge 24, 3) := by decide +kernel
theorem dX10_hashBuffer_28 : decode cX10_hashBuffer 28 = .ok (.lload_n 3, 1) := by decide +kernel
theorem dX10_hashBuffer_29 : decode cX10_hashBuffer 29 = .ok (.aload_n 0, 1) := by decide +kernel
theorem dX10_hashBuffer_30 : decode cX10_hashBuffer 30 = .ok (.getfield 33, 3) := by decide +kernel
theorem dX10_hashBuffer_33 : decode cX10_hashBuffer 33 = .ok (.iload 5, 2) := by decide +kernel
theorem dX10_hashBuffer_35 : decode cX10_hashBuffer 35 = .ok (.invokevirtual 344, 3) := by decide +kernel
theorem dX10_hashBuffer_38 : decode cX10_hashBuffer 38 = .ok (.i2l, 1) := by decide +kernel
theorem dX10_hashBuffer_39 : decode cX10_hashBuffer 39 = .ok (.invokestatic 311, 3) := by decide +kernel
theorem dX10_hashBuffer_42 : decode cX10_hashBuffer 42 = .ok (.lstore_n 3, 1) := by decide +kernel
theorem dX10_hashBuffer_43 : decode cX10_hashBuffer 43 = .ok (.iinc 5 1, 3) := by decide +kernel
theorem dX10_hashBuffer_46 : decode cX10_hashBuffer 46 = .ok (.goto (-30), 3) := by decide +kernel
theorem dX10_hashBuffer_49 : decode cX10_hashBuffer 49 = .ok (.lload_n 3, 1) := by decide +kernel
theorem dX10_hashBuffer_50 : decode cX10_hashBuffer 50 = .ok (.lreturn, 1) := by decide +kernel
theorem dX10_digest_0 : decode cX10_digest 0 = .ok (.ldc2_w 305, 3) := by decide +kernel
theorem dX10_digest_3 : decode cX10_digest 3 = .ok (.lstore_n 1, 1) := by decide +kernel
theorem dX10_digest_4 : decode cX10_digest 4 = .ok (.aload_n 0, 1) := by decide +kernel
theorem dX10_digest_5 : decode cX10_digest 5 = .ok (.lload_n 1, 1) := by decide +kernel
theorem dX10_digest_6 : decode cX10_digest 6 = .ok (.invokevirtual 307, 3) := by decide +kernel
theorem dX10_digest_9 : decode cX10_digest 9 = .ok (.lstore_n 1, 1) := by decide +kernel
theorem dX10_digest_10 : decode cX10_digest 10 = .ok (.lload_n 1, 1) := by decide +kernel
theorem dX10_digest_11 : decode cX10_digest 11 = .ok (.aload_n 0, 1) := by decide +kernel
theorem dX10_digest_12 : decode cX10_digest 12 = .ok (.getfield 10, 3) := by decide +kernel
theorem dX10_digest_15 : decode cX10_digest 15 = .ok (.getfield 43, 3) := by decide +kernel
theorem dX10_digest_18 : decode cX10_digest 18 = .ok (.getfield 132, 3) := by decide +kernel
theorem dX10_digest_21 : decode cX10_digest 21 = .ok (.i2l, 1) := by decide +kernel
theorem dX10_digest_22 : decode cX10_digest 22 = .ok (.invokestatic 311, 3) := by decide +kernel
theorem dX10_digest_25 : decode cX10_digest 25 = .ok (.lstore_n 1, 1) := by decide +kernel
theorem dX10_digest_26 : decode cX10_digest 26 = .ok (.lload_n 1, 1) := by decide +kernel
theorem dX10_digest_27 : decode cX10_digest 27 = .ok (.aload_n 0, 1) := by decide +kernel
theorem dX10_digest_28 : decode cX10_digest 28 = .ok (.getfield 10, 3) := by decide +kernel
theorem dX10_digest_31 : decode cX10_digest 31 = .ok (.getfield 43, 3) := by decide +kernel
theorem dX10_digest_34 : decode cX10_digest 34 = .ok (.getfield 139, 3) := by decide +kernel
theorem dX10_digest_37 : decode cX10_digest 37 = .ok (.i2l, 1) := by decide +kernel
theorem dX10_digest_38 : decode cX10_digest 38 = .ok (.invokestatic 311, 3) := by decide +kernel
theorem dX10_digest_41 : decode cX10_digest 41 = .ok (.lstore_n 1, 1) := by decide +kernel
theorem dX10_digest_42 : decode cX10_digest 42 = .ok (.lload_n 1, 1) := by decide +kernel
theorem dX10_digest_43 : decode cX10_digest 43 = .ok (.aload_n 0, 1) := by decide +kernel
theorem dX10_digest_44 : decode cX10_digest 44 = .ok (.getfield 10, 3) := by decide +kernel
theorem dX10_digest_47 : decode cX10_digest 47 = .ok (.getfield 43, 3) := by decide +kernel
theorem dX10_digest_50 : decode cX10_digest 50 = .ok (.getfield 142, 3) := by decide +kernel
theorem dX10_digest_53 : decode cX10_digest 53 = .ok (.i2l, 1) := by decide +kernel
theorem dX10_digest_54 : decode cX10_digest 54 = .ok (.invokestatic 311, 3) := by decide +kernel
theorem dX10_digest_57 : decode cX10_digest 57 = .ok (.lstore_n 1, 1) := by decide +kernel
theorem dX10_digest_58 : decode cX10_digest 58 = .ok (.aload_n 0, 1) := by decide +kernel
theorem dX10_digest_59 : decode cX10_digest 59 = .ok (.lload_n 1, 1) := by decide +kernel
theorem dX10_digest_60 : decode cX10_digest 60 = .ok (.invokevirtual 315, 3) := by decide +kernel
theorem dX10_digest_63 : decode cX10_digest 63 = .ok (.lstore_n 1, 1) := by decide +kernel
theorem dX10_digest_64 : decode cX10_digest 64 = .ok (.aload_n 0, 1) := by decide +kernel
theorem dX10_digest_65 : decode cX10_digest 65 = .ok (.lload_n 1, 1) := by decide +kernel
theorem dX10_digest_66 : decode cX10_digest 66 = .ok (.invokevirtual 318, 3) := by decide +kernel
theorem dX10_digest_69 : decode cX10_digest 69 = .ok (.lstore_n 1, 1) := by decide +kernel
theorem dX10_digest_70 : decode cX10_digest 70 = .ok (.lload_n 1, 1) := by decide +kernel
theorem dX10_digest_71 : decode cX10_digest 71 = .ok (.aload_n 0, 1) := by decide +kernel
theorem dX10_digest_72 : decode cX10_digest 72 = .ok (.getfield 26, 3) := by decide +kernel
theorem dX10_digest_75 : decode cX10_digest 75 = .ok (.getfield 225, 3) := by decide +kernel
theorem dX10_digest_78 : decode cX10_digest 78 = .ok (.i2l, 1) := by decide +kernel
theorem dX10_digest_79 : decode cX10_digest 79 = .ok (.invokestatic 311, 3) := by decide +kernel
theorem dX10_digest_82 : decode cX10_digest 82 = .ok (.lstore_n 1, 1) := by decide +kernel
theorem dX10_digest_83 : decode cX10_digest 83 = .ok (.aload_n 0, 1) := by decide +kernel
theorem dX10_digest_84 : decode cX10_digest 84 = .ok (.lload_n 1, 1) := by decide +kernel
theorem dX10_digest_85 : decode cX10_digest 85 = .ok (.invokevirtual 321, 3) := by decide +kernel
theorem dX10_digest_88 : decode cX10_digest 88 = .ok (.lstore_n 1, 1) := by decide +kernel
theorem dX10_digest_89 : decode cX10_digest 89 = .ok (.aload_n 0, 1) := by decide +kernel
theorem dX10_digest_90 : decode cX10_digest 90 = .ok (.lload_n 1, 1) := by decide +kernel
theorem dX10_digest_91 : decode cX10_digest 91 = .ok (.invokevirtual 324, 3) := by decide +kernel
theorem dX10_digest_94 : decode cX10_digest 94 = .ok (.lstore_n 1, 1) := by decide +kernel
theorem dX10_digest_95 : decode cX10_digest 95 = .ok (.aload_n 0, 1) := by decide +kernel
theorem dX10_digest_96 : decode cX10_digest 96 = .ok (.lload_n 1, 1) := by decide +kernel
theorem dX10_digest_97 : decode cX10_digest 97 = .ok (.invokevirtual 327, 3) := by decide +kernel
theorem dX10_digest_100 : decode cX10_digest 100 = .ok (.lstore_n 1, 1) := by decide +kernel
theorem dX10_digest_101 : decode cX10_digest 101 = .ok (.aload_n 0, 1) := by decide +kernel
theorem dX10_digest_102 : decode cX10_digest 102 = .ok (.lload_n 1, 1) := by decide +kernel
theorem dX10_digest_103 : decode cX10_digest 103 = .ok (.invokevirtual 330, 3) := by decide +kernel
theorem dX10_digest_106 : decode cX10_digest 106 = .ok (.lstore_n 1, 1) := by decide +kernel
theorem dX10_digest_107 : decode cX10_digest 107 = .ok (.lload_n 1, 1) := by decide +kernel
theorem dX10_digest_108 : decode cX10_digest 108 = .ok (.aload_n 0, 1) := by decide +kernel
theorem dX10_digest_109 : decode cX10_digest 109 = .ok (.invokevirtual 333, 3) := by decide +kernel
theorem dX10_digest_112 : decode cX10_digest 112 = .ok (.invokestatic 337, 3) := by decide +kernel
theorem dX10_digest_115 : decode cX10_digest 115 = .ok (.invokestatic 311, 3) := by decide +kernel
theorem dX10_digest_118 : decode cX10_digest 118 = .ok (.lstore_n 1, 1) := by decide +kernel
theorem dX10_digest_119 : decode cX10_digest 119 = .ok (.aload_n 0, 1) := by decide +kernel
theorem dX10_digest_120 : decode cX10_digest 120 = .ok (.lload_n 1, 1) := by decide +kernel
theorem dX10_digest_121 : decode cX10_digest 121 = .ok (.invokevirtual 341, 3) := by decide +kernel
theorem dX10_digest_124 : decode cX10_digest 124 = .ok (.lreturn, 1) := by decide +kernel
