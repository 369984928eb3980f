/-! decode rows, out of the printed names -/
theorem dL_addLetter_0 : decode cL_addLetter 0 = .ok (.aload_n 2, 1) := by decide +kernel
theorem dL_addLetter_1 : decode cL_addLetter 1 = .ok (.iconst 0, 1) := by decide +kernel
theorem dL_addLetter_2 : decode cL_addLetter 2 = .ok (.aload_n 0, 1) := by decide +kernel
theorem dL_addLetter_3 : decode cL_addLetter 3 = .ok (.iload_n 1, 1) := by decide +kernel
theorem dL_addLetter_4 : decode cL_addLetter 4 = .ok (.invokevirtual 7, 3) := by decide +kernel
theorem dL_addLetter_7 : decode cL_addLetter 7 = .ok (.i2l, 1) := by decide +kernel
theorem dL_addLetter_8 : decode cL_addLetter 8 = .ok (.lastore, 1) := by decide +kernel
theorem dL_addLetter_9 : decode cL_addLetter 9 = .ok (.goto 9, 3) := by decide +kernel
theorem dL_addLetter_12 : decode cL_addLetter 12 = .ok (.astore_n 3, 1) := by decide +kernel
theorem dL_addLetter_13 : decode cL_addLetter 13 = .ok (.iconst 1, 1) := by decide +kernel
theorem dL_addLetter_14 : decode cL_addLetter 14 = .ok (.ireturn, 1) := by decide +kernel
theorem dL_addLetter_15 : decode cL_addLetter 15 = .ok (.astore_n 3, 1) := by decide +kernel
theorem dL_addLetter_16 : decode cL_addLetter 16 = .ok (.iconst 2, 1) := by decide +kernel
theorem dL_addLetter_17 : decode cL_addLetter 17 = .ok (.ireturn, 1) := by decide +kernel
theorem dL_addLetter_18 : decode cL_addLetter 18 = .ok (.iconst 0, 1) := by decide +kernel
theorem dL_addLetter_19 : decode cL_addLetter 19 = .ok (.ireturn, 1) := by decide +kernel
theorem dL_setLetter_0 : decode cL_setLetter 0 = .ok (.aload_n 3, 1) := by decide +kernel
theorem dL_setLetter_1 : decode cL_setLetter 1 = .ok (.iconst 0, 1) := by decide +kernel
theorem dL_setLetter_2 : decode cL_setLetter 2 = .ok (.aload_n 0, 1) := by decide +kernel
theorem dL_setLetter_3 : decode cL_setLetter 3 = .ok (.iload_n 1, 1) := by decide +kernel
theorem dL_setLetter_4 : decode cL_setLetter 4 = .ok (.iload_n 2, 1) := by decide +kernel
theorem dL_setLetter_5 : decode cL_setLetter 5 = .ok (.invokevirtual 17, 3) := by decide +kernel
theorem dL_setLetter_8 : decode cL_setLetter 8 = .ok (.i2l, 1) := by decide +kernel
theorem dL_setLetter_9 : decode cL_setLetter 9 = .ok (.lastore, 1) := by decide +kernel
theorem dL_setLetter_10 : decode cL_setLetter 10 = .ok (.goto 11, 3) := by decide +kernel
theorem dL_setLetter_13 : decode cL_setLetter 13 = .ok (.astore 4, 2) := by decide +kernel
theorem dL_setLetter_15 : decode cL_setLetter 15 = .ok (.iconst 1, 1) := by decide +kernel
theorem dL_setLetter_16 : decode cL_setLetter 16 = .ok (.ireturn, 1) := by decide +kernel
theorem dL_setLetter_17 : decode cL_setLetter 17 = .ok (.astore 4, 2) := by decide +kernel
theorem dL_setLetter_19 : decode cL_setLetter 19 = .ok (.iconst 2, 1) := by decide +kernel
theorem dL_setLetter_20 : decode cL_setLetter 20 = .ok (.ireturn, 1) := by decide +kernel
theorem dL_setLetter_21 : decode cL_setLetter 21 = .ok (.iconst 0, 1) := by decide +kernel
theorem dL_setLetter_22 : decode cL_setLetter 22 = .ok (.ireturn, 1) := by decide +kernel
theorem dL_setWindow_0 : decode cL_setWindow 0 = .ok (.aload_n 2, 1) := by decide +kernel
theorem dL_setWindow_1 : decode cL_setWindow 1 = .ok (.iconst 0, 1) := by decide +kernel
theorem dL_setWindow_2 : decode cL_setWindow 2 = .ok (.aload_n 0, 1) := by decide +kernel
theorem dL_setWindow_3 : decode cL_setWindow 3 = .ok (.iload_n 1, 1) := by decide +kernel
theorem dL_setWindow_4 : decode cL_setWindow 4 = .ok (.invokevirtual 23, 3) := by decide +kernel
theorem dL_setWindow_7 : decode cL_setWindow 7 = .ok (.i2l, 1) := by decide +kernel
theorem dL_setWindow_8 : decode cL_setWindow 8 = .ok (.lastore, 1) := by decide +kernel
theorem dL_setWindow_9 : decode cL_setWindow 9 = .ok (.goto 6, 3) := by decide +kernel
theorem dL_setWindow_12 : decode cL_setWindow 12 = .ok (.astore_n 3, 1) := by decide +kernel
theorem dL_setWindow_13 : decode cL_setWindow 13 = .ok (.iconst 1, 1) := by decide +kernel
theorem dL_setWindow_14 : decode cL_setWindow 14 = .ok (.ireturn, 1) := by decide +kernel
theorem dL_setWindow_15 : decode cL_setWindow 15 = .ok (.iconst 0, 1) := by decide +kernel
theorem dL_setWindow_16 : decode cL_setWindow 16 = .ok (.ireturn, 1) := by decide +kernel
theorem dL_setShortest_0 : decode cL_setShortest 0 = .ok (.aload_n 2, 1) := by decide +kernel
theorem dL_setShortest_1 : decode cL_setShortest 1 = .ok (.iconst 0, 1) := by decide +kernel
theorem dL_setShortest_2 : decode cL_setShortest 2 = .ok (.aload_n 0, 1) := by decide +kernel
theorem dL_setShortest_3 : decode cL_setShortest 3 = .ok (.iload_n 1, 1) := by decide +kernel
theorem dL_setShortest_4 : decode cL_setShortest 4 = .ok (.invokevirtual 26, 3) := by decide +kernel
theorem dL_setShortest_7 : decode cL_setShortest 7 = .ok (.i2l, 1) := by decide +kernel
theorem dL_setShortest_8 : decode cL_setShortest 8 = .ok (.lastore, 1) := by decide +kernel
theorem dL_setShortest_9 : decode cL_setShortest 9 = .ok (.goto 6, 3) := by decide +kernel
theorem dL_setShortest_12 : decode cL_setShortest 12 = .ok (.astore_n 3, 1) := by decide +kernel
theorem dL_setShortest_13 : decode cL_setShortest 13 = .ok (.iconst 1, 1) := by decide +kernel
theorem dL_setShortest_14 : decode cL_setShortest 14 = .ok (.ireturn, 1) := by decide +kernel
theorem dL_setShortest_15 : decode cL_setShortest 15 = .ok (.iconst 0, 1) := by decide +kernel
theorem dL_setShortest_16 : decode cL_setShortest 16 = .ok (.ireturn, 1) := by decide +kernel
theorem dL_setLongest_0 : decode cL_setLongest 0 = .ok (.aload_n 2, 1) := by decide +kernel
theorem dL_setLongest_1 : decode cL_setLongest 1 = .ok (.iconst 0, 1) := by decide +kernel
theorem dL_setLongest_2 : decode cL_setLongest 2 = .ok (.aload_n 0, 1) := by decide +kernel
theorem dL_setLongest_3 : decode cL_setLongest 3 = .ok (.iload_n 1, 1) := by decide +kernel
theorem dL_setLongest_4 : decode cL_setLongest 4 = .ok (.invokevirtual 29, 3) := by decide +kernel
theorem dL_setLongest_7 : decode cL_setLongest 7 = .ok (.i2l, 1) := by decide +kernel
theorem dL_setLongest_8 : decode cL_setLongest 8 = .ok (.lastore, 1) := by decide +kernel
theorem dL_setLongest_9 : decode cL_setLongest 9 = .ok (.goto 6, 3) := by decide +kernel
theorem dL_setLongest_12 : decode cL_setLongest 12 = .ok (.astore_n 3, 1) := by decide +kernel
theorem dL_setLongest_13 : decode cL_setLongest 13 = .ok (.iconst 1, 1) := by decide +kernel
theorem dL_setLongest_14 : decode cL_setLongest 14 = .ok (.ireturn, 1) := by decide +kernel
theorem dL_setLongest_15 : decode cL_setLongest 15 = .ok (.iconst 0, 1) := by decide +kernel
theorem dL_setLongest_16 : decode cL_setLongest 16 = .ok (.ireturn, 1) := by decide +kernel
theorem dL_setLetterPrice_0 : decode cL_setLetterPrice 0 = .ok (.aload_n 2, 1) := by decide +kernel
theorem dL_setLetterPrice_1 : decode cL_setLetterPrice 1 = .ok (.iconst 0, 1) := by decide +kernel
theorem dL_setLetterPrice_2 : decode cL_setLetterPrice 2 = .ok (.aload_n 0, 1) := by decide +kernel
theorem dL_setLetterPrice_3 : decode cL_setLetterPrice 3 = .ok (.iload_n 1, 1) := by decide +kernel
theorem dL_setLetterPrice_4 : decode cL_setLetterPrice 4 = .ok (.invokevirtual 32, 3) := by decide +kernel
theorem dL_setLetterPrice_7 : decode cL_setLetterPrice 7 = .ok (.i2l, 1) := by decide +kernel
theorem dL_setLetterPrice_8 : decode cL_setLetterPrice 8 = .ok (.lastore, 1) := by decide +kernel
theorem dL_setLetterPrice_9 : decode cL_setLetterPrice 9 = .ok (.goto 6, 3) := by decide +kernel
theorem dL_setLetterPrice_12 : decode cL_setLetterPrice 12 = .ok (.astore_n 3, 1) := by decide +kernel
theorem dL_setLetterPrice_13 : decode cL_setLetterPrice 13 = .ok (.iconst 1, 1) := by decide +kernel
theorem dL_setLetterPrice_14 : decode cL_setLetterPrice 14 = .ok (.ireturn, 1) := by decide +kernel
theorem dL_setLetterPrice_15 : decode cL_setLetterPrice 15 = .ok (.iconst 0, 1) := by decide +kernel
theorem dL_setLetterPrice_16 : decode cL_setLetterPrice 16 = .ok (.ireturn, 1) := by decide +kernel
theorem dL_setRepeatPrice_0 : decode cL_setRepeatPrice 0 = .ok (.aload_n 2, 1) := by decide +kernel
theorem dL_setRepeatPrice_1 : decode cL_setRepeatPrice 1 = .ok (.iconst 0, 1) := by decide +kernel
theorem dL_setRepeatPrice_2 : decode cL_setRepeatPrice 2 = .ok (.aload_n 0, 1) := by decide +kernel
theorem dL_setRepeatPrice_3 : decode cL_setRepeatPrice 3 = .ok (.iload_n 1, 1) := by decide +kernel
theorem dL_setRepeatPrice_4 : decode cL_setRepeatPrice 4 = .ok (.invokevirtual 35, 3) := by decide +kernel
theorem dL_setRepeatPrice_7 : decode cL_setRepeatPrice 7 = .ok (.i2l, 1) := by decide +kernel
theorem dL_setRepeatPrice_8 : decode cL_setRepeatPrice 8 = .ok (.lastore, 1) := by decide +kernel
theorem dL_setRepeatPrice_9 : decode cL_setRepeatPrice 9 = .ok (.goto 6, 3) := by decide +kernel
theorem dL_setRepeatPrice_12 : decode cL_setRepeatPrice 12 = .ok (.astore_n 3, 1) := by decide +kernel
theorem dL_setRepeatPrice_13 : decode cL_setRepeatPrice 13 = .ok (.iconst 1, 1) := by decide +kernel
theorem dL_setRepeatPrice_14 : decode cL_setRepeatPrice 14 = .ok (.ireturn, 1) := by decide +kernel
theorem dL_setRepeatPrice_15 : decode cL_setRepeatPrice 15 = .ok (.iconst 0, 1) := by decide +kernel
theorem dL_setRepeatPrice_16 : decode cL_setRepeatPrice 16 = .ok (.ireturn, 1) := by decide +kernel
theorem dL_pack_0 : decode cL_pack 0 = .ok (.aload_n 2, 1) := by decide +kernel
theorem dL_pack_1 : decode cL_pack 1 = .ok (.iconst 0, 1) := by decide +kernel
theorem dL_pack_2 : decode cL_pack 2 = .ok (.aload_n 0, 1) := by decide +kernel
theorem dL_pack_3 : decode cL_pack 3 = .ok (.iload_n 1, 1) := by decide +kernel
theorem dL_pack_4 : decode cL_pack 4 = .ok (.invokevirtual 38, 3) := by decide +kernel
theorem dL_pack_7 : decode cL_pack 7 = .ok (.i2l, 1) := by decide +kernel
theorem dL_pack_8 : decode cL_pack 8 = .ok (.lastore, 1) := by decide +kernel
theorem dL_pack_9 : decode cL_pack 9 = .ok (.goto 6, 3) := by decide +kernel
theorem dL_pack_12 : decode cL_pack 12 = .ok (.astore_n 3, 1) := by decide +kernel
theorem dL_pack_13 : decode cL_pack 13 = .ok (.iconst 1, 1) := by decide +kernel
theorem dL_pack_14 : decode cL_pack 14 = .ok (.ireturn, 1) := by decide +kernel
theorem dL_pack_15 : decode cL_pack 15 = .ok (.iconst 0, 1) := by decide +kernel
theorem dL_pack_16 : decode cL_pack 16 = .ok (.ireturn, 1) := by decide +kernel
theorem dL_unpack_0 : decode cL_unpack 0 = .ok (.aload_n 1, 1) := by decide +kernel
theorem dL_unpack_1 : decode cL_unpack 1 = .ok (.iconst 0, 1) := by decide +kernel
theorem dL_unpack_2 : decode cL_unpack 2 = .ok (.aload_n 0, 1) := by decide +kernel
theorem dL_unpack_3 : decode cL_unpack 3 = .ok (.invokevirtual 41, 3) := by decide +kernel
theorem dL_unpack_6 : decode cL_unpack 6 = .ok (.i2l, 1) := by decide +kernel
theorem dL_unpack_7 : decode cL_unpack 7 = .ok (.lastore, 1) := by decide +kernel
theorem dL_unpack_8 : decode cL_unpack 8 = .ok (.goto 6, 3) := by decide +kernel
theorem dL_unpack_11 : decode cL_unpack 11 = .ok (.astore_n 2, 1) := by decide +kernel
theorem dL_unpack_12 : decode cL_unpack 12 = .ok (.iconst 1, 1) := by decide +kernel
theorem dL_unpack_13 : decode cL_unpack 13 = .ok (.ireturn, 1) := by decide +kernel
theorem dL_unpack_14 : decode cL_unpack 14 = .ok (.iconst 0, 1) := by decide +kernel
theorem dL_unpack_15 : decode cL_unpack 15 = .ok (.ireturn, 1) := by decide +kernel
theorem dL_addToken_0 : decode cL_addToken 0 = .ok (.aload_n 2, 1) := by decide +kernel
theorem dL_addToken_1 : decode cL_addToken 1 = .ok (.iconst 0, 1) := by decide +kernel
theorem dL_addToken_2 : decode cL_addToken 2 = .ok (.aload_n 0, 1) := by decide +kernel
theorem dL_addToken_3 : decode cL_addToken 3 = .ok (.iload_n 1, 1) := by decide +kernel
theorem dL_addToken_4 : decode cL_addToken 4 = .ok (.invokevirtual 45, 3) := by decide +kernel
theorem dL_addToken_7 : decode cL_addToken 7 = .ok (.i2l, 1) := by decide +kernel
theorem dL_addToken_8 : decode cL_addToken 8 = .ok (.lastore, 1) := by decide +kernel
theorem dL_addToken_9 : decode cL_addToken 9 = .ok (.goto 9, 3) := by decide +kernel
theorem dL_addToken_12 : decode cL_addToken 12 = .ok (.astore_n 3, 1) := by decide +kernel
theorem dL_addToken_13 : decode cL_addToken 13 = .ok (.iconst 1, 1) := by decide +kernel
theorem dL_addToken_14 : decode cL_addToken 14 = .ok (.ireturn, 1) := by decide +kernel
theorem dL_addToken_15 : decode cL_addToken 15 = .ok (.astore_n 3, 1) := by decide +kernel
theorem dL_addToken_16 : decode cL_addToken 16 = .ok (.iconst 2, 1) := by decide +kernel
theorem dL_addToken_17 : decode cL_addToken 17 = .ok (.ireturn, 1) := by decide +kernel
theorem dL_addToken_18 : decode cL_addToken 18 = .ok (.iconst 0, 1) := by decide +kernel
theorem dL_addToken_19 : decode cL_addToken 19 = .ok (.ireturn, 1) := by decide +kernel
theorem dL_addRepeat_0 : decode cL_addRepeat 0 = .ok (.aload_n 3, 1) := by decide +kernel
theorem dL_addRepeat_1 : decode cL_addRepeat 1 = .ok (.iconst 0, 1) := by decide +kernel
theorem dL_addRepeat_2 : decode cL_addRepeat 2 = .ok (.aload_n 0, 1) := by decide +kernel
theorem dL_addRepeat_3 : decode cL_addRepeat 3 = .ok (.iload_n 1, 1) := by decide +kernel
theorem dL_addRepeat_4 : decode cL_addRepeat 4 = .ok (.iload_n 2, 1) := by decide +kernel
theorem dL_addRepeat_5 : decode cL_addRepeat 5 = .ok (.invokevirtual 48, 3) := by decide +kernel
theorem dL_addRepeat_8 : decode cL_addRepeat 8 = .ok (.i2l, 1) := by decide +kernel
theorem dL_addRepeat_9 : decode cL_addRepeat 9 = .ok (.lastore, 1) := by decide +kernel
theorem dL_addRepeat_10 : decode cL_addRepeat 10 = .ok (.goto 11, 3) := by decide +kernel
theorem dL_addRepeat_13 : decode cL_addRepeat 13 = .ok (.astore 4, 2) := by decide +kernel
theorem dL_addRepeat_15 : decode cL_addRepeat 15 = .ok (.iconst 1, 1) := by decide +kernel
theorem dL_addRepeat_16 : decode cL_addRepeat 16 = .ok (.ireturn, 1) := by decide +kernel
theorem dL_addRepeat_17 : decode cL_addRepeat 17 = .ok (.astore 4, 2) := by decide +kernel
theorem dL_addRepeat_19 : decode cL_addRepeat 19 = .ok (.iconst 2, 1) := by decide +kernel
theorem dL_addRepeat_20 : decode cL_addRepeat 20 = .ok (.ireturn, 1) := by decide +kernel
theorem dL_addRepeat_21 : decode cL_addRepeat 21 = .ok (.iconst 0, 1) := by decide +kernel
theorem dL_addRepeat_22 : decode cL_addRepeat 22 = .ok (.ireturn, 1) := by decide +kernel
theorem dL_takeLast_0 : decode cL_takeLast 0 = .ok (.aload_n 1, 1) := by decide +kernel
theorem dL_takeLast_1 : decode cL_takeLast 1 = .ok (.iconst 0, 1) := by decide +kernel
theorem dL_takeLast_2 : decode cL_takeLast 2 = .ok (.aload_n 0, 1) := by decide +kernel
theorem dL_takeLast_3 : decode cL_takeLast 3 = .ok (.invokevirtual 51, 3) := by decide +kernel
theorem dL_takeLast_6 : decode cL_takeLast 6 = .ok (.i2l, 1) := by decide +kernel
theorem dL_takeLast_7 : decode cL_takeLast 7 = .ok (.lastore, 1) := by decide +kernel
theorem dL_takeLast_8 : decode cL_takeLast 8 = .ok (.goto 6, 3) := by decide +kernel
theorem dL_takeLast_11 : decode cL_takeLast 11 = .ok (.astore_n 2, 1) := by decide +kernel
theorem dL_takeLast_12 : decode cL_takeLast 12 = .ok (.iconst 1, 1) := by decide +kernel
theorem dL_takeLast_13 : decode cL_takeLast 13 = .ok (.ireturn, 1) := by decide +kernel
theorem dL_takeLast_14 : decode cL_takeLast 14 = .ok (.iconst 0, 1) := by decide +kernel
theorem dL_takeLast_15 : decode cL_takeLast 15 = .ok (.ireturn, 1) := by decide +kernel
theorem dL_append_0 : decode cL_append 0 = .ok (.aload_n 2, 1) := by decide +kernel
theorem dL_append_1 : decode cL_append 1 = .ok (.iconst 0, 1) := by decide +kernel
theorem dL_append_2 : decode cL_append 2 = .ok (.aload_n 0, 1) := by decide +kernel
theorem dL_append_3 : decode cL_append 3 = .ok (.iload_n 1, 1) := by decide +kernel
theorem dL_append_4 : decode cL_append 4 = .ok (.invokevirtual 54, 3) := by decide +kernel
theorem dL_append_7 : decode cL_append 7 = .ok (.i2l, 1) := by decide +kernel
theorem dL_append_8 : decode cL_append 8 = .ok (.lastore, 1) := by decide +kernel
theorem dL_append_9 : decode cL_append 9 = .ok (.goto 9, 3) := by decide +kernel
theorem dL_append_12 : decode cL_append 12 = .ok (.astore_n 3, 1) := by decide +kernel
theorem dL_append_13 : decode cL_append 13 = .ok (.iconst 1, 1) := by decide +kernel
theorem dL_append_14 : decode cL_append 14 = .ok (.ireturn, 1) := by decide +kernel
theorem dL_append_15 : decode cL_append 15 = .ok (.astore_n 3, 1) := by decide +kernel
theorem dL_append_16 : decode cL_append 16 = .ok (.iconst 2, 1) := by decide +kernel
theorem dL_append_17 : decode cL_append 17 = .ok (.ireturn, 1) := by decide +kernel
theorem dL_append_18 : decode cL_append 18 = .ok (.iconst 0, 1) := by decide +kernel
theorem dL_append_19 : decode cL_append 19 = .ok (.ireturn, 1) := by decide +kernel
theorem dL_work_0 : decode cL_work 0 = .ok (.aload_n 1, 1) := by decide +kernel
theorem dL_work_1 : decode cL_work 1 = .ok (.iconst 0, 1) := by decide +kernel
theorem dL_work_2 : decode cL_work 2 = .ok (.aload_n 0, 1) := by decide +kernel
theorem dL_work_3 : decode cL_work 3 = .ok (.invokevirtual 57, 3) := by decide +kernel
theorem dL_work_6 : decode cL_work 6 = .ok (.i2l, 1) := by decide +kernel
theorem dL_work_7 : decode cL_work 7 = .ok (.lastore, 1) := by decide +kernel
theorem dL_work_8 : decode cL_work 8 = .ok (.goto 6, 3) := by decide +kernel
theorem dL_work_11 : decode cL_work 11 = .ok (.astore_n 2, 1) := by decide +kernel
theorem dL_work_12 : decode cL_work 12 = .ok (.iconst 1, 1) := by decide +kernel
theorem dL_work_13 : decode cL_work 13 = .ok (.ireturn, 1) := by decide +kernel
theorem dL_work_14 : decode cL_work 14 = .ok (.iconst 0, 1) := by decide +kernel
theorem dL_work_15 : decode cL_work 15 = .ok (.ireturn, 1) := by decide +kernel
theorem dL_stoppedPart_0 : decode cL_stoppedPart 0 = .ok (.aload_n 1, 1) := by decide +kernel
theorem dL_stoppedPart_1 : decode cL_stoppedPart 1 = .ok (.iconst 0, 1) := by decide +kernel
theorem dL_stoppedPart_2 : decode cL_stoppedPart 2 = .ok (.aload_n 0, 1) := by decide +kernel
theorem dL_stoppedPart_3 : decode cL_stoppedPart 3 = .ok (.invokevirtual 60, 3) := by decide +kernel
theorem dL_stoppedPart_6 : decode cL_stoppedPart 6 = .ok (.i2l, 1) := by decide +kernel
theorem dL_stoppedPart_7 : decode cL_stoppedPart 7 = .ok (.lastore, 1) := by decide +kernel
theorem dL_stoppedPart_8 : decode cL_stoppedPart 8 = .ok (.goto 6, 3) := by decide +kernel
theorem dL_stoppedPart_11 : decode cL_stoppedPart 11 = .ok (.astore_n 2, 1) := by decide +kernel
theorem dL_stoppedPart_12 : decode cL_stoppedPart 12 = .ok (.iconst 1, 1) := by decide +kernel
theorem dL_stoppedPart_13 : decode cL_stoppedPart 13 = .ok (.ireturn, 1) := by decide +kernel
theorem dL_stoppedPart_14 : decode cL_stoppedPart 14 = .ok (.iconst 0, 1) := by decide +kernel
theorem dL_stoppedPart_15 : decode cL_stoppedPart 15 = .ok (.ireturn, 1) := by decide +kernel
theorem dL_whyStopped_0 : decode cL_whyStopped 0 = .ok (.aload_n 1, 1) := by decide +kernel
theorem dL_whyStopped_1 : decode cL_whyStopped 1 = .ok (.iconst 0, 1) := by decide +kernel
theorem dL_whyStopped_2 : decode cL_whyStopped 2 = .ok (.aload_n 0, 1) := by decide +kernel
theorem dL_whyStopped_3 : decode cL_whyStopped 3 = .ok (.invokevirtual 63, 3) := by decide +kernel
theorem dL_whyStopped_6 : decode cL_whyStopped 6 = .ok (.i2l, 1) := by decide +kernel
theorem dL_whyStopped_7 : decode cL_whyStopped 7 = .ok (.lastore, 1) := by decide +kernel
theorem dL_whyStopped_8 : decode cL_whyStopped 8 = .ok (.goto 6, 3) := by decide +kernel
theorem dL_whyStopped_11 : decode cL_whyStopped 11 = .ok (.astore_n 2, 1) := by decide +kernel
theorem dL_whyStopped_12 : decode cL_whyStopped 12 = .ok (.iconst 1, 1) := by decide +kernel
theorem dL_whyStopped_13 : decode cL_whyStopped 13 = .ok (.ireturn, 1) := by decide +kernel
theorem dL_whyStopped_14 : decode cL_whyStopped 14 = .ok (.iconst 0, 1) := by decide +kernel
theorem dL_whyStopped_15 : decode cL_whyStopped 15 = .ok (.ireturn, 1) := by decide +kernel
theorem dL_undo_0 : decode cL_undo 0 = .ok (.aload_n 1, 1) := by decide +kernel
theorem dL_undo_1 : decode cL_undo 1 = .ok (.iconst 0, 1) := by decide +kernel
theorem dL_undo_2 : decode cL_undo 2 = .ok (.aload_n 0, 1) := by decide +kernel
theorem dL_undo_3 : decode cL_undo 3 = .ok (.invokevirtual 66, 3) := by decide +kernel
theorem dL_undo_6 : decode cL_undo 6 = .ok (.i2l, 1) := by decide +kernel
theorem dL_undo_7 : decode cL_undo 7 = .ok (.lastore, 1) := by decide +kernel
theorem dL_undo_8 : decode cL_undo 8 = .ok (.goto 6, 3) := by decide +kernel
theorem dL_undo_11 : decode cL_undo 11 = .ok (.astore_n 2, 1) := by decide +kernel
theorem dL_undo_12 : decode cL_undo 12 = .ok (.iconst 1, 1) := by decide +kernel
theorem dL_undo_13 : decode cL_undo 13 = .ok (.ireturn, 1) := by decide +kernel
theorem dL_undo_14 : decode cL_undo 14 = .ok (.iconst 0, 1) := by decide +kernel
theorem dL_undo_15 : decode cL_undo 15 = .ok (.ireturn, 1) := by decide +kernel
theorem dL_restore_0 : decode cL_restore 0 = .ok (.aload_n 1, 1) := by decide +kernel
theorem dL_restore_1 : decode cL_restore 1 = .ok (.iconst 0, 1) := by decide +kernel
theorem dL_restore_2 : decode cL_restore 2 = .ok (.aload_n 0, 1) := by decide +kernel
theorem dL_restore_3 : decode cL_restore 3 = .ok (.invokevirtual 69, 3) := by decide +kernel
theorem dL_restore_6 : decode cL_restore 6 = .ok (.i2l, 1) := by decide +kernel
theorem dL_restore_7 : decode cL_restore 7 = .ok (.lastore, 1) := by decide +kernel
theorem dL_restore_8 : decode cL_restore 8 = .ok (.goto 6, 3) := by decide +kernel
theorem dL_restore_11 : decode cL_restore 11 = .ok (.astore_n 2, 1) := by decide +kernel
theorem dL_restore_12 : decode cL_restore 12 = .ok (.iconst 1, 1) := by decide +kernel
theorem dL_restore_13 : decode cL_restore 13 = .ok (.ireturn, 1) := by decide +kernel
theorem dL_restore_14 : decode cL_restore 14 = .ok (.iconst 0, 1) := by decide +kernel
theorem dL_restore_15 : decode cL_restore 15 = .ok (.ireturn, 1) := by decide +kernel
theorem dL_letterAt_0 : decode cL_letterAt 0 = .ok (.aload_n 2, 1) := by decide +kernel
theorem dL_letterAt_1 : decode cL_letterAt 1 = .ok (.iconst 0, 1) := by decide +kernel
theorem dL_letterAt_2 : decode cL_letterAt 2 = .ok (.aload_n 0, 1) := by decide +kernel
theorem dL_letterAt_3 : decode cL_letterAt 3 = .ok (.iload_n 1, 1) := by decide +kernel
theorem dL_letterAt_4 : decode cL_letterAt 4 = .ok (.invokevirtual 72, 3) := by decide +kernel
theorem dL_letterAt_7 : decode cL_letterAt 7 = .ok (.i2l, 1) := by decide +kernel
theorem dL_letterAt_8 : decode cL_letterAt 8 = .ok (.lastore, 1) := by decide +kernel
theorem dL_letterAt_9 : decode cL_letterAt 9 = .ok (.goto 6, 3) := by decide +kernel
theorem dL_letterAt_12 : decode cL_letterAt 12 = .ok (.astore_n 3, 1) := by decide +kernel
theorem dL_letterAt_13 : decode cL_letterAt 13 = .ok (.iconst 1, 1) := by decide +kernel
theorem dL_letterAt_14 : decode cL_letterAt 14 = .ok (.ireturn, 1) := by decide +kernel
theorem dL_letterAt_15 : decode cL_letterAt 15 = .ok (.iconst 0, 1) := by decide +kernel
theorem dL_letterAt_16 : decode cL_letterAt 16 = .ok (.ireturn, 1) := by decide +kernel
theorem dL_isRepeat_0 : decode cL_isRepeat 0 = .ok (.aload_n 2, 1) := by decide +kernel
theorem dL_isRepeat_1 : decode cL_isRepeat 1 = .ok (.iconst 0, 1) := by decide +kernel
theorem dL_isRepeat_2 : decode cL_isRepeat 2 = .ok (.aload_n 0, 1) := by decide +kernel
theorem dL_isRepeat_3 : decode cL_isRepeat 3 = .ok (.iload_n 1, 1) := by decide +kernel
theorem dL_isRepeat_4 : decode cL_isRepeat 4 = .ok (.invokevirtual 75, 3) := by decide +kernel
theorem dL_isRepeat_7 : decode cL_isRepeat 7 = .ok (.ifCond .eq 7, 3) := by decide +kernel
theorem dL_isRepeat_10 : decode cL_isRepeat 10 = .ok (.lconst 1, 1) := by decide +kernel
theorem dL_isRepeat_11 : decode cL_isRepeat 11 = .ok (.goto 4, 3) := by decide +kernel
theorem dL_isRepeat_14 : decode cL_isRepeat 14 = .ok (.lconst 0, 1) := by decide +kernel
theorem dL_isRepeat_15 : decode cL_isRepeat 15 = .ok (.lastore, 1) := by decide +kernel
theorem dL_isRepeat_16 : decode cL_isRepeat 16 = .ok (.goto 6, 3) := by decide +kernel
theorem dL_isRepeat_19 : decode cL_isRepeat 19 = .ok (.astore_n 3, 1) := by decide +kernel
theorem dL_isRepeat_20 : decode cL_isRepeat 20 = .ok (.iconst 1, 1) := by decide +kernel
theorem dL_isRepeat_21 : decode cL_isRepeat 21 = .ok (.ireturn, 1) := by decide +kernel
theorem dL_isRepeat_22 : decode cL_isRepeat 22 = .ok (.iconst 0, 1) := by decide +kernel
theorem dL_isRepeat_23 : decode cL_isRepeat 23 = .ok (.ireturn, 1) := by decide +kernel
theorem dL_letterOf_0 : decode cL_letterOf 0 = .ok (.aload_n 2, 1) := by decide +kernel
theorem dL_letterOf_1 : decode cL_letterOf 1 = .ok (.iconst 0, 1) := by decide +kernel
theorem dL_letterOf_2 : decode cL_letterOf 2 = .ok (.aload_n 0, 1) := by decide +kernel
theorem dL_letterOf_3 : decode cL_letterOf 3 = .ok (.iload_n 1, 1) := by decide +kernel
theorem dL_letterOf_4 : decode cL_letterOf 4 = .ok (.invokevirtual 79, 3) := by decide +kernel
theorem dL_letterOf_7 : decode cL_letterOf 7 = .ok (.i2l, 1) := by decide +kernel
theorem dL_letterOf_8 : decode cL_letterOf 8 = .ok (.lastore, 1) := by decide +kernel
theorem dL_letterOf_9 : decode cL_letterOf 9 = .ok (.goto 9, 3) := by decide +kernel
theorem dL_letterOf_12 : decode cL_letterOf 12 = .ok (.astore_n 3, 1) := by decide +kernel
theorem dL_letterOf_13 : decode cL_letterOf 13 = .ok (.iconst 1, 1) := by decide +kernel
theorem dL_letterOf_14 : decode cL_letterOf 14 = .ok (.ireturn, 1) := by decide +kernel
theorem dL_letterOf_15 : decode cL_letterOf 15 = .ok (.astore_n 3, 1) := by decide +kernel
theorem dL_letterOf_16 : decode cL_letterOf 16 = .ok (.iconst 2, 1) := by decide +kernel
theorem dL_letterOf_17 : decode cL_letterOf 17 = .ok (.ireturn, 1) := by decide +kernel
theorem dL_letterOf_18 : decode cL_letterOf 18 = .ok (.iconst 0, 1) := by decide +kernel
theorem dL_letterOf_19 : decode cL_letterOf 19 = .ok (.ireturn, 1) := by decide +kernel
theorem dL_distanceOf_0 : decode cL_distanceOf 0 = .ok (.aload_n 2, 1) := by decide +kernel
theorem dL_distanceOf_1 : decode cL_distanceOf 1 = .ok (.iconst 0, 1) := by decide +kernel
theorem dL_distanceOf_2 : decode cL_distanceOf 2 = .ok (.aload_n 0, 1) := by decide +kernel
theorem dL_distanceOf_3 : decode cL_distanceOf 3 = .ok (.iload_n 1, 1) := by decide +kernel
theorem dL_distanceOf_4 : decode cL_distanceOf 4 = .ok (.invokevirtual 82, 3) := by decide +kernel
theorem dL_distanceOf_7 : decode cL_distanceOf 7 = .ok (.i2l, 1) := by decide +kernel
theorem dL_distanceOf_8 : decode cL_distanceOf 8 = .ok (.lastore, 1) := by decide +kernel
theorem dL_distanceOf_9 : decode cL_distanceOf 9 = .ok (.goto 9, 3) := by decide +kernel
theorem dL_distanceOf_12 : decode cL_distanceOf 12 = .ok (.astore_n 3, 1) := by decide +kernel
theorem dL_distanceOf_13 : decode cL_distanceOf 13 = .ok (.iconst 1, 1) := by decide +kernel
theorem dL_distanceOf_14 : decode cL_distanceOf 14 = .ok (.ireturn, 1) := by decide +kernel
theorem dL_distanceOf_15 : decode cL_distanceOf 15 = .ok (.astore_n 3, 1) := by decide +kernel
theorem dL_distanceOf_16 : decode cL_distanceOf 16 = .ok (.iconst 2, 1) := by decide +kernel
theorem dL_distanceOf_17 : decode cL_distanceOf 17 = .ok (.ireturn, 1) := by decide +kernel
theorem dL_distanceOf_18 : decode cL_distanceOf 18 = .ok (.iconst 0, 1) := by decide +kernel
theorem dL_distanceOf_19 : decode cL_distanceOf 19 = .ok (.ireturn, 1) := by decide +kernel
theorem dL_lengthOf_0 : decode cL_lengthOf 0 = .ok (.aload_n 2, 1) := by decide +kernel
theorem dL_lengthOf_1 : decode cL_lengthOf 1 = .ok (.iconst 0, 1) := by decide +kernel
theorem dL_lengthOf_2 : decode cL_lengthOf 2 = .ok (.aload_n 0, 1) := by decide +kernel
theorem dL_lengthOf_3 : decode cL_lengthOf 3 = .ok (.iload_n 1, 1) := by decide +kernel
theorem dL_lengthOf_4 : decode cL_lengthOf 4 = .ok (.invokevirtual 85, 3) := by decide +kernel
theorem dL_lengthOf_7 : decode cL_lengthOf 7 = .ok (.i2l, 1) := by decide +kernel
theorem dL_lengthOf_8 : decode cL_lengthOf 8 = .ok (.lastore, 1) := by decide +kernel
theorem dL_lengthOf_9 : decode cL_lengthOf 9 = .ok (.goto 6, 3) := by decide +kernel
theorem dL_lengthOf_12 : decode cL_lengthOf 12 = .ok (.astore_n 3, 1) := by decide +kernel
theorem dL_lengthOf_13 : decode cL_lengthOf 13 = .ok (.iconst 1, 1) := by decide +kernel
theorem dL_lengthOf_14 : decode cL_lengthOf 14 = .ok (.ireturn, 1) := by decide +kernel
theorem dL_lengthOf_15 : decode cL_lengthOf 15 = .ok (.iconst 0, 1) := by decide +kernel
theorem dL_lengthOf_16 : decode cL_lengthOf 16 = .ok (.ireturn, 1) := by decide +kernel
theorem dL_repeatLength_0 : decode cL_repeatLength 0 = .ok (.aload_n 2, 1) := by decide +kernel
theorem dL_repeatLength_1 : decode cL_repeatLength 1 = .ok (.iconst 0, 1) := by decide +kernel
theorem dL_repeatLength_2 : decode cL_repeatLength 2 = .ok (.aload_n 0, 1) := by decide +kernel
theorem dL_repeatLength_3 : decode cL_repeatLength 3 = .ok (.iload_n 1, 1) := by decide +kernel
theorem dL_repeatLength_4 : decode cL_repeatLength 4 = .ok (.invokevirtual 88, 3) := by decide +kernel
theorem dL_repeatLength_7 : decode cL_repeatLength 7 = .ok (.i2l, 1) := by decide +kernel
theorem dL_repeatLength_8 : decode cL_repeatLength 8 = .ok (.lastore, 1) := by decide +kernel
theorem dL_repeatLength_9 : decode cL_repeatLength 9 = .ok (.goto 6, 3) := by decide +kernel
theorem dL_repeatLength_12 : decode cL_repeatLength 12 = .ok (.astore_n 3, 1) := by decide +kernel
theorem dL_repeatLength_13 : decode cL_repeatLength 13 = .ok (.iconst 1, 1) := by decide +kernel
theorem dL_repeatLength_14 : decode cL_repeatLength 14 = .ok (.ireturn, 1) := by decide +kernel
theorem dL_repeatLength_15 : decode cL_repeatLength 15 = .ok (.iconst 0, 1) := by decide +kernel
theorem dL_repeatLength_16 : decode cL_repeatLength 16 = .ok (.ireturn, 1) := by decide +kernel
theorem dL_repeatLengthByPairs_0 : decode cL_repeatLengthByPairs 0 = .ok (.aload_n 2, 1) := by decide +kernel
theorem dL_repeatLengthByPairs_1 : decode cL_repeatLengthByPairs 1 = .ok (.iconst 0, 1) := by decide +kernel
theorem dL_repeatLengthByPairs_2 : decode cL_repeatLengthByPairs 2 = .ok (.aload_n 0, 1) := by decide +kernel
theorem dL_repeatLengthByPairs_3 : decode cL_repeatLengthByPairs 3 = .ok (.iload_n 1, 1) := by decide +kernel
theorem dL_repeatLengthByPairs_4 : decode cL_repeatLengthByPairs 4 = .ok (.invokevirtual 91, 3) := by decide +kernel
theorem dL_repeatLengthByPairs_7 : decode cL_repeatLengthByPairs 7 = .ok (.i2l, 1) := by decide +kernel
theorem dL_repeatLengthByPairs_8 : decode cL_repeatLengthByPairs 8 = .ok (.lastore, 1) := by decide +kernel
theorem dL_repeatLengthByPairs_9 : decode cL_repeatLengthByPairs 9 = .ok (.goto 6, 3) := by decide +kernel
theorem dL_repeatLengthByPairs_12 : decode cL_repeatLengthByPairs 12 = .ok (.astore_n 3, 1) := by decide +kernel
theorem dL_repeatLengthByPairs_13 : decode cL_repeatLengthByPairs 13 = .ok (.iconst 1, 1) := by decide +kernel
theorem dL_repeatLengthByPairs_14 : decode cL_repeatLengthByPairs 14 = .ok (.ireturn, 1) := by decide +kernel
theorem dL_repeatLengthByPairs_15 : decode cL_repeatLengthByPairs 15 = .ok (.iconst 0, 1) := by decide +kernel
theorem dL_repeatLengthByPairs_16 : decode cL_repeatLengthByPairs 16 = .ok (.ireturn, 1) := by decide +kernel
theorem dL_repeatDistance_0 : decode cL_repeatDistance 0 = .ok (.aload_n 2, 1) := by decide +kernel
theorem dL_repeatDistance_1 : decode cL_repeatDistance 1 = .ok (.iconst 0, 1) := by decide +kernel
theorem dL_repeatDistance_2 : decode cL_repeatDistance 2 = .ok (.aload_n 0, 1) := by decide +kernel
theorem dL_repeatDistance_3 : decode cL_repeatDistance 3 = .ok (.iload_n 1, 1) := by decide +kernel
theorem dL_repeatDistance_4 : decode cL_repeatDistance 4 = .ok (.invokevirtual 94, 3) := by decide +kernel
theorem dL_repeatDistance_7 : decode cL_repeatDistance 7 = .ok (.i2l, 1) := by decide +kernel
theorem dL_repeatDistance_8 : decode cL_repeatDistance 8 = .ok (.lastore, 1) := by decide +kernel
theorem dL_repeatDistance_9 : decode cL_repeatDistance 9 = .ok (.goto 6, 3) := by decide +kernel
theorem dL_repeatDistance_12 : decode cL_repeatDistance 12 = .ok (.astore_n 3, 1) := by decide +kernel
theorem dL_repeatDistance_13 : decode cL_repeatDistance 13 = .ok (.iconst 1, 1) := by decide +kernel
theorem dL_repeatDistance_14 : decode cL_repeatDistance 14 = .ok (.ireturn, 1) := by decide +kernel
theorem dL_repeatDistance_15 : decode cL_repeatDistance 15 = .ok (.iconst 0, 1) := by decide +kernel
theorem dL_repeatDistance_16 : decode cL_repeatDistance 16 = .ok (.ireturn, 1) := by decide +kernel
theorem dL_costBy_0 : decode cL_costBy 0 = .ok (.aload_n 2, 1) := by decide +kernel
theorem dL_costBy_1 : decode cL_costBy 1 = .ok (.iconst 0, 1) := by decide +kernel
theorem dL_costBy_2 : decode cL_costBy 2 = .ok (.aload_n 0, 1) := by decide +kernel
theorem dL_costBy_3 : decode cL_costBy 3 = .ok (.iload_n 1, 1) := by decide +kernel
theorem dL_costBy_4 : decode cL_costBy 4 = .ok (.invokevirtual 97, 3) := by decide +kernel
theorem dL_costBy_7 : decode cL_costBy 7 = .ok (.i2l, 1) := by decide +kernel
theorem dL_costBy_8 : decode cL_costBy 8 = .ok (.lastore, 1) := by decide +kernel
theorem dL_costBy_9 : decode cL_costBy 9 = .ok (.goto 6, 3) := by decide +kernel
theorem dL_costBy_12 : decode cL_costBy 12 = .ok (.astore_n 3, 1) := by decide +kernel
theorem dL_costBy_13 : decode cL_costBy 13 = .ok (.iconst 1, 1) := by decide +kernel
theorem dL_costBy_14 : decode cL_costBy 14 = .ok (.ireturn, 1) := by decide +kernel
theorem dL_costBy_15 : decode cL_costBy 15 = .ok (.iconst 0, 1) := by decide +kernel
theorem dL_costBy_16 : decode cL_costBy 16 = .ok (.ireturn, 1) := by decide +kernel
theorem dL_tokensBy_0 : decode cL_tokensBy 0 = .ok (.aload_n 2, 1) := by decide +kernel
theorem dL_tokensBy_1 : decode cL_tokensBy 1 = .ok (.iconst 0, 1) := by decide +kernel
theorem dL_tokensBy_2 : decode cL_tokensBy 2 = .ok (.aload_n 0, 1) := by decide +kernel
theorem dL_tokensBy_3 : decode cL_tokensBy 3 = .ok (.iload_n 1, 1) := by decide +kernel
theorem dL_tokensBy_4 : decode cL_tokensBy 4 = .ok (.invokevirtual 100, 3) := by decide +kernel
theorem dL_tokensBy_7 : decode cL_tokensBy 7 = .ok (.i2l, 1) := by decide +kernel
theorem dL_tokensBy_8 : decode cL_tokensBy 8 = .ok (.lastore, 1) := by decide +kernel
theorem dL_tokensBy_9 : decode cL_tokensBy 9 = .ok (.goto 6, 3) := by decide +kernel
theorem dL_tokensBy_12 : decode cL_tokensBy 12 = .ok (.astore_n 3, 1) := by decide +kernel
theorem dL_tokensBy_13 : decode cL_tokensBy 13 = .ok (.iconst 1, 1) := by decide +kernel
theorem dL_tokensBy_14 : decode cL_tokensBy 14 = .ok (.ireturn, 1) := by decide +kernel
theorem dL_tokensBy_15 : decode cL_tokensBy 15 = .ok (.iconst 0, 1) := by decide +kernel
theorem dL_tokensBy_16 : decode cL_tokensBy 16 = .ok (.ireturn, 1) := by decide +kernel
theorem dL_leastCostWith_0 : decode cL_leastCostWith 0 = .ok (.aload_n 2, 1) := by decide +kernel
theorem dL_leastCostWith_1 : decode cL_leastCostWith 1 = .ok (.iconst 0, 1) := by decide +kernel
theorem dL_leastCostWith_2 : decode cL_leastCostWith 2 = .ok (.aload_n 0, 1) := by decide +kernel
theorem dL_leastCostWith_3 : decode cL_leastCostWith 3 = .ok (.iload_n 1, 1) := by decide +kernel
theorem dL_leastCostWith_4 : decode cL_leastCostWith 4 = .ok (.invokevirtual 103, 3) := by decide +kernel
theorem dL_leastCostWith_7 : decode cL_leastCostWith 7 = .ok (.i2l, 1) := by decide +kernel
theorem dL_leastCostWith_8 : decode cL_leastCostWith 8 = .ok (.lastore, 1) := by decide +kernel
theorem dL_leastCostWith_9 : decode cL_leastCostWith 9 = .ok (.goto 6, 3) := by decide +kernel
theorem dL_leastCostWith_12 : decode cL_leastCostWith 12 = .ok (.astore_n 3, 1) := by decide +kernel
theorem dL_leastCostWith_13 : decode cL_leastCostWith 13 = .ok (.iconst 1, 1) := by decide +kernel
theorem dL_leastCostWith_14 : decode cL_leastCostWith 14 = .ok (.ireturn, 1) := by decide +kernel
theorem dL_leastCostWith_15 : decode cL_leastCostWith 15 = .ok (.iconst 0, 1) := by decide +kernel
theorem dL_leastCostWith_16 : decode cL_leastCostWith 16 = .ok (.ireturn, 1) := by decide +kernel
theorem dL_pairs_0 : decode cL_pairs 0 = .ok (.aload_n 2, 1) := by decide +kernel
theorem dL_pairs_1 : decode cL_pairs 1 = .ok (.iconst 0, 1) := by decide +kernel
theorem dL_pairs_2 : decode cL_pairs 2 = .ok (.aload_n 0, 1) := by decide +kernel
theorem dL_pairs_3 : decode cL_pairs 3 = .ok (.iload_n 1, 1) := by decide +kernel
theorem dL_pairs_4 : decode cL_pairs 4 = .ok (.invokevirtual 106, 3) := by decide +kernel
theorem dL_pairs_7 : decode cL_pairs 7 = .ok (.i2l, 1) := by decide +kernel
theorem dL_pairs_8 : decode cL_pairs 8 = .ok (.lastore, 1) := by decide +kernel
theorem dL_pairs_9 : decode cL_pairs 9 = .ok (.goto 6, 3) := by decide +kernel
theorem dL_pairs_12 : decode cL_pairs 12 = .ok (.astore_n 3, 1) := by decide +kernel
theorem dL_pairs_13 : decode cL_pairs 13 = .ok (.iconst 1, 1) := by decide +kernel
theorem dL_pairs_14 : decode cL_pairs 14 = .ok (.ireturn, 1) := by decide +kernel
theorem dL_pairs_15 : decode cL_pairs 15 = .ok (.iconst 0, 1) := by decide +kernel
theorem dL_pairs_16 : decode cL_pairs 16 = .ok (.ireturn, 1) := by decide +kernel
theorem dL_lastPlaceOf_0 : decode cL_lastPlaceOf 0 = .ok (.aload_n 2, 1) := by decide +kernel
theorem dL_lastPlaceOf_1 : decode cL_lastPlaceOf 1 = .ok (.iconst 0, 1) := by decide +kernel
theorem dL_lastPlaceOf_2 : decode cL_lastPlaceOf 2 = .ok (.aload_n 0, 1) := by decide +kernel
theorem dL_lastPlaceOf_3 : decode cL_lastPlaceOf 3 = .ok (.iload_n 1, 1) := by decide +kernel
theorem dL_lastPlaceOf_4 : decode cL_lastPlaceOf 4 = .ok (.invokevirtual 109, 3) := by decide +kernel
theorem dL_lastPlaceOf_7 : decode cL_lastPlaceOf 7 = .ok (.i2l, 1) := by decide +kernel
theorem dL_lastPlaceOf_8 : decode cL_lastPlaceOf 8 = .ok (.lastore, 1) := by decide +kernel
theorem dL_lastPlaceOf_9 : decode cL_lastPlaceOf 9 = .ok (.goto 6, 3) := by decide +kernel
theorem dL_lastPlaceOf_12 : decode cL_lastPlaceOf 12 = .ok (.astore_n 3, 1) := by decide +kernel
theorem dL_lastPlaceOf_13 : decode cL_lastPlaceOf 13 = .ok (.iconst 1, 1) := by decide +kernel
theorem dL_lastPlaceOf_14 : decode cL_lastPlaceOf 14 = .ok (.ireturn, 1) := by decide +kernel
theorem dL_lastPlaceOf_15 : decode cL_lastPlaceOf 15 = .ok (.iconst 0, 1) := by decide +kernel
theorem dL_lastPlaceOf_16 : decode cL_lastPlaceOf 16 = .ok (.ireturn, 1) := by decide +kernel
theorem dL_mostFrequent_0 : decode cL_mostFrequent 0 = .ok (.aload_n 1, 1) := by decide +kernel
theorem dL_mostFrequent_1 : decode cL_mostFrequent 1 = .ok (.iconst 0, 1) := by decide +kernel
theorem dL_mostFrequent_2 : decode cL_mostFrequent 2 = .ok (.aload_n 0, 1) := by decide +kernel
theorem dL_mostFrequent_3 : decode cL_mostFrequent 3 = .ok (.invokevirtual 112, 3) := by decide +kernel
theorem dL_mostFrequent_6 : decode cL_mostFrequent 6 = .ok (.i2l, 1) := by decide +kernel
theorem dL_mostFrequent_7 : decode cL_mostFrequent 7 = .ok (.lastore, 1) := by decide +kernel
theorem dL_mostFrequent_8 : decode cL_mostFrequent 8 = .ok (.goto 6, 3) := by decide +kernel
theorem dL_mostFrequent_11 : decode cL_mostFrequent 11 = .ok (.astore_n 2, 1) := by decide +kernel
theorem dL_mostFrequent_12 : decode cL_mostFrequent 12 = .ok (.iconst 1, 1) := by decide +kernel
theorem dL_mostFrequent_13 : decode cL_mostFrequent 13 = .ok (.ireturn, 1) := by decide +kernel
theorem dL_mostFrequent_14 : decode cL_mostFrequent 14 = .ok (.iconst 0, 1) := by decide +kernel
theorem dL_mostFrequent_15 : decode cL_mostFrequent 15 = .ok (.ireturn, 1) := by decide +kernel
