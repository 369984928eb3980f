/-! decode rows, out of the printed names -/
theorem dX7_copyFrom_0 : decode cX7_copyFrom 0 = .ok (.aload_n 0, 1) := by decide +kernel
theorem dX7_copyFrom_1 : decode cX7_copyFrom 1 = .ok (.getfield 10, 3) := by decide +kernel
theorem dX7_copyFrom_4 : decode cX7_copyFrom 4 = .ok (.aload_n 1, 1) := by decide +kernel
theorem dX7_copyFrom_5 : decode cX7_copyFrom 5 = .ok (.getfield 10, 3) := by decide +kernel
theorem dX7_copyFrom_8 : decode cX7_copyFrom 8 = .ok (.invokevirtual 37, 3) := by decide +kernel
theorem dX7_copyFrom_11 : decode cX7_copyFrom 11 = .ok (.aload_n 0, 1) := by decide +kernel
theorem dX7_copyFrom_12 : decode cX7_copyFrom 12 = .ok (.getfield 19, 3) := by decide +kernel
theorem dX7_copyFrom_15 : decode cX7_copyFrom 15 = .ok (.aload_n 1, 1) := by decide +kernel
theorem dX7_copyFrom_16 : decode cX7_copyFrom 16 = .ok (.getfield 19, 3) := by decide +kernel
theorem dX7_copyFrom_19 : decode cX7_copyFrom 19 = .ok (.invokevirtual 41, 3) := by decide +kernel
theorem dX7_copyFrom_22 : decode cX7_copyFrom 22 = .ok (.aload_n 0, 1) := by decide +kernel
theorem dX7_copyFrom_23 : decode cX7_copyFrom 23 = .ok (.getfield 26, 3) := by decide +kernel
theorem dX7_copyFrom_26 : decode cX7_copyFrom 26 = .ok (.aload_n 1, 1) := by decide +kernel
theorem dX7_copyFrom_27 : decode cX7_copyFrom 27 = .ok (.getfield 26, 3) := by decide +kernel
theorem dX7_copyFrom_30 : decode cX7_copyFrom 30 = .ok (.invokevirtual 44, 3) := by decide +kernel
theorem dX7_copyFrom_33 : decode cX7_copyFrom 33 = .ok (.aload_n 0, 1) := by decide +kernel
theorem dX7_copyFrom_34 : decode cX7_copyFrom 34 = .ok (.aload_n 1, 1) := by decide +kernel
theorem dX7_copyFrom_35 : decode cX7_copyFrom 35 = .ok (.getfield 30, 3) := by decide +kernel
theorem dX7_copyFrom_38 : decode cX7_copyFrom 38 = .ok (.putfield 30, 3) := by decide +kernel
theorem dX7_copyFrom_41 : decode cX7_copyFrom 41 = .ok (.aload_n 0, 1) := by decide +kernel
theorem dX7_copyFrom_42 : decode cX7_copyFrom 42 = .ok (.aload_n 1, 1) := by decide +kernel
theorem dX7_copyFrom_43 : decode cX7_copyFrom 43 = .ok (.getfield 34, 3) := by decide +kernel
theorem dX7_copyFrom_46 : decode cX7_copyFrom 46 = .ok (.putfield 34, 3) := by decide +kernel
theorem dX7_copyFrom_49 : decode cX7_copyFrom 49 = .ok (.return_, 1) := by decide +kernel
theorem dX1_push_0 : decode cX1_push 0 = .ok (.aload_n 0, 1) := by decide +kernel
theorem dX1_push_1 : decode cX1_push 1 = .ok (.getfield 18, 3) := by decide +kernel
theorem dX1_push_4 : decode cX1_push 4 = .ok (.ifCond .lt 40, 3) := by decide +kernel
theorem dX1_push_7 : decode cX1_push 7 = .ok (.aload_n 0, 1) := by decide +kernel
theorem dX1_push_8 : decode cX1_push 8 = .ok (.getfield 18, 3) := by decide +kernel
theorem dX1_push_11 : decode cX1_push 11 = .ok (.aload_n 0, 1) := by decide +kernel
theorem dX1_push_12 : decode cX1_push 12 = .ok (.getfield 11, 3) := by decide +kernel
theorem dX1_push_15 : decode cX1_push 15 = .ok (.arraylength, 1) := by decide +kernel
theorem dX1_push_16 : decode cX1_push 16 = .ok (.if_icmp .ge 28, 3) := by decide +kernel
theorem dX1_push_19 : decode cX1_push 19 = .ok (.aload_n 0, 1) := by decide +kernel
theorem dX1_push_20 : decode cX1_push 20 = .ok (.getfield 11, 3) := by decide +kernel
theorem dX1_push_23 : decode cX1_push 23 = .ok (.aload_n 0, 1) := by decide +kernel
theorem dX1_push_24 : decode cX1_push 24 = .ok (.getfield 18, 3) := by decide +kernel
theorem dX1_push_27 : decode cX1_push 27 = .ok (.aaload, 1) := by decide +kernel
theorem dX1_push_28 : decode cX1_push 28 = .ok (.ifnull 16, 3) := by decide +kernel
theorem dX1_push_31 : decode cX1_push 31 = .ok (.aload_n 0, 1) := by decide +kernel
theorem dX1_push_32 : decode cX1_push 32 = .ok (.getfield 11, 3) := by decide +kernel
theorem dX1_push_35 : decode cX1_push 35 = .ok (.aload_n 0, 1) := by decide +kernel
theorem dX1_push_36 : decode cX1_push 36 = .ok (.getfield 18, 3) := by decide +kernel
theorem dX1_push_39 : decode cX1_push 39 = .ok (.aaload, 1) := by decide +kernel
theorem dX1_push_40 : decode cX1_push 40 = .ok (.aload_n 1, 1) := by decide +kernel
theorem dX1_push_41 : decode cX1_push 41 = .ok (.invokevirtual 25, 3) := by decide +kernel
theorem dX1_push_44 : decode cX1_push 44 = .ok (.aload_n 0, 1) := by decide +kernel
theorem dX1_push_45 : decode cX1_push 45 = .ok (.aload_n 0, 1) := by decide +kernel
theorem dX1_push_46 : decode cX1_push 46 = .ok (.getfield 18, 3) := by decide +kernel
theorem dX1_push_49 : decode cX1_push 49 = .ok (.iconst 5, 1) := by decide +kernel
theorem dX1_push_50 : decode cX1_push 50 = .ok (.if_icmp .lt 7, 3) := by decide +kernel
theorem dX1_push_53 : decode cX1_push 53 = .ok (.iconst 0, 1) := by decide +kernel
theorem dX1_push_54 : decode cX1_push 54 = .ok (.goto 9, 3) := by decide +kernel
theorem dX1_push_57 : decode cX1_push 57 = .ok (.aload_n 0, 1) := by decide +kernel
theorem dX1_push_58 : decode cX1_push 58 = .ok (.getfield 18, 3) := by decide +kernel
theorem dX1_push_61 : decode cX1_push 61 = .ok (.iconst 1, 1) := by decide +kernel
theorem dX1_push_62 : decode cX1_push 62 = .ok (.iadd, 1) := by decide +kernel
theorem dX1_push_63 : decode cX1_push 63 = .ok (.putfield 18, 3) := by decide +kernel
theorem dX1_push_66 : decode cX1_push 66 = .ok (.aload_n 0, 1) := by decide +kernel
theorem dX1_push_67 : decode cX1_push 67 = .ok (.aload_n 0, 1) := by decide +kernel
theorem dX1_push_68 : decode cX1_push 68 = .ok (.getfield 22, 3) := by decide +kernel
theorem dX1_push_71 : decode cX1_push 71 = .ok (.bipush 6, 2) := by decide +kernel
theorem dX1_push_73 : decode cX1_push 73 = .ok (.if_icmp .lt 8, 3) := by decide +kernel
theorem dX1_push_76 : decode cX1_push 76 = .ok (.bipush 6, 2) := by decide +kernel
theorem dX1_push_78 : decode cX1_push 78 = .ok (.goto 9, 3) := by decide +kernel
theorem dX1_push_81 : decode cX1_push 81 = .ok (.aload_n 0, 1) := by decide +kernel
theorem dX1_push_82 : decode cX1_push 82 = .ok (.getfield 22, 3) := by decide +kernel
theorem dX1_push_85 : decode cX1_push 85 = .ok (.iconst 1, 1) := by decide +kernel
theorem dX1_push_86 : decode cX1_push 86 = .ok (.iadd, 1) := by decide +kernel
theorem dX1_push_87 : decode cX1_push 87 = .ok (.putfield 22, 3) := by decide +kernel
theorem dX1_push_90 : decode cX1_push 90 = .ok (.return_, 1) := by decide +kernel
theorem dX3_alike_0 : decode cX3_alike 0 = .ok (.iload_n 2, 1) := by decide +kernel
theorem dX3_alike_1 : decode cX3_alike 1 = .ok (.ifCond .lt 8, 3) := by decide +kernel
theorem dX3_alike_4 : decode cX3_alike 4 = .ok (.iload_n 2, 1) := by decide +kernel
theorem dX3_alike_5 : decode cX3_alike 5 = .ok (.iload_n 1, 1) := by decide +kernel
theorem dX3_alike_6 : decode cX3_alike 6 = .ok (.if_icmp .le 5, 3) := by decide +kernel
theorem dX3_alike_9 : decode cX3_alike 9 = .ok (.iconst 0, 1) := by decide +kernel
theorem dX3_alike_10 : decode cX3_alike 10 = .ok (.ireturn, 1) := by decide +kernel
theorem dX3_alike_11 : decode cX3_alike 11 = .ok (.aload_n 0, 1) := by decide +kernel
theorem dX3_alike_12 : decode cX3_alike 12 = .ok (.getfield 9, 3) := by decide +kernel
theorem dX3_alike_15 : decode cX3_alike 15 = .ok (.getfield 26, 3) := by decide +kernel
theorem dX3_alike_18 : decode cX3_alike 18 = .ok (.astore_n 3, 1) := by decide +kernel
theorem dX3_alike_19 : decode cX3_alike 19 = .ok (.iload_n 1, 1) := by decide +kernel
theorem dX3_alike_20 : decode cX3_alike 20 = .ok (.aload_n 0, 1) := by decide +kernel
theorem dX3_alike_21 : decode cX3_alike 21 = .ok (.getfield 15, 3) := by decide +kernel
theorem dX3_alike_24 : decode cX3_alike 24 = .ok (.getfield 32, 3) := by decide +kernel
theorem dX3_alike_27 : decode cX3_alike 27 = .ok (.iadd, 1) := by decide +kernel
theorem dX3_alike_28 : decode cX3_alike 28 = .ok (.aload_n 0, 1) := by decide +kernel
theorem dX3_alike_29 : decode cX3_alike 29 = .ok (.getfield 9, 3) := by decide +kernel
theorem dX3_alike_32 : decode cX3_alike 32 = .ok (.getfield 38, 3) := by decide +kernel
theorem dX3_alike_35 : decode cX3_alike 35 = .ok (.invokestatic 41, 3) := by decide +kernel
theorem dX3_alike_38 : decode cX3_alike 38 = .ok (.aload_n 3, 1) := by decide +kernel
theorem dX3_alike_39 : decode cX3_alike 39 = .ok (.arraylength, 1) := by decide +kernel
theorem dX3_alike_40 : decode cX3_alike 40 = .ok (.invokestatic 41, 3) := by decide +kernel
theorem dX3_alike_43 : decode cX3_alike 43 = .ok (.istore 4, 2) := by decide +kernel
theorem dX3_alike_45 : decode cX3_alike 45 = .ok (.iload_n 1, 1) := by decide +kernel
theorem dX3_alike_46 : decode cX3_alike 46 = .ok (.istore 5, 2) := by decide +kernel
theorem dX3_alike_48 : decode cX3_alike 48 = .ok (.iload 5, 2) := by decide +kernel
theorem dX3_alike_50 : decode cX3_alike 50 = .ok (.iload 4, 2) := by decide +kernel
theorem dX3_alike_52 : decode cX3_alike 52 = .ok (.if_icmp .ge 22, 3) := by decide +kernel
theorem dX3_alike_55 : decode cX3_alike 55 = .ok (.aload_n 3, 1) := by decide +kernel
theorem dX3_alike_56 : decode cX3_alike 56 = .ok (.iload 5, 2) := by decide +kernel
theorem dX3_alike_58 : decode cX3_alike 58 = .ok (.iaload, 1) := by decide +kernel
theorem dX3_alike_59 : decode cX3_alike 59 = .ok (.aload_n 3, 1) := by decide +kernel
theorem dX3_alike_60 : decode cX3_alike 60 = .ok (.iload 5, 2) := by decide +kernel
theorem dX3_alike_62 : decode cX3_alike 62 = .ok (.iload_n 2, 1) := by decide +kernel
theorem dX3_alike_63 : decode cX3_alike 63 = .ok (.isub, 1) := by decide +kernel
theorem dX3_alike_64 : decode cX3_alike 64 = .ok (.iaload, 1) := by decide +kernel
theorem dX3_alike_65 : decode cX3_alike 65 = .ok (.if_icmp .ne 9, 3) := by decide +kernel
theorem dX3_alike_68 : decode cX3_alike 68 = .ok (.iinc 5 1, 3) := by decide +kernel
theorem dX3_alike_71 : decode cX3_alike 71 = .ok (.goto (-23), 3) := by decide +kernel
theorem dX3_alike_74 : decode cX3_alike 74 = .ok (.iload 5, 2) := by decide +kernel
theorem dX3_alike_76 : decode cX3_alike 76 = .ok (.iload_n 1, 1) := by decide +kernel
theorem dX3_alike_77 : decode cX3_alike 77 = .ok (.isub, 1) := by decide +kernel
theorem dX3_alike_78 : decode cX3_alike 78 = .ok (.ireturn, 1) := by decide +kernel
theorem dX3_longestAt_0 : decode cX3_longestAt 0 = .ok (.iconst 0, 1) := by decide +kernel
theorem dX3_longestAt_1 : decode cX3_longestAt 1 = .ok (.istore_n 3, 1) := by decide +kernel
theorem dX3_longestAt_2 : decode cX3_longestAt 2 = .ok (.iconst 1, 1) := by decide +kernel
theorem dX3_longestAt_3 : decode cX3_longestAt 3 = .ok (.istore 4, 2) := by decide +kernel
theorem dX3_longestAt_5 : decode cX3_longestAt 5 = .ok (.iload 4, 2) := by decide +kernel
theorem dX3_longestAt_7 : decode cX3_longestAt 7 = .ok (.iload_n 2, 1) := by decide +kernel
theorem dX3_longestAt_8 : decode cX3_longestAt 8 = .ok (.if_icmp .gt 45, 3) := by decide +kernel
theorem dX3_longestAt_11 : decode cX3_longestAt 11 = .ok (.iload 4, 2) := by decide +kernel
theorem dX3_longestAt_13 : decode cX3_longestAt 13 = .ok (.iload_n 1, 1) := by decide +kernel
theorem dX3_longestAt_14 : decode cX3_longestAt 14 = .ok (.if_icmp .gt 39, 3) := by decide +kernel
theorem dX3_longestAt_17 : decode cX3_longestAt 17 = .ok (.aload_n 0, 1) := by decide +kernel
theorem dX3_longestAt_18 : decode cX3_longestAt 18 = .ok (.iload_n 1, 1) := by decide +kernel
theorem dX3_longestAt_19 : decode cX3_longestAt 19 = .ok (.iload 4, 2) := by decide +kernel
theorem dX3_longestAt_21 : decode cX3_longestAt 21 = .ok (.invokevirtual 47, 3) := by decide +kernel
theorem dX3_longestAt_24 : decode cX3_longestAt 24 = .ok (.istore 5, 2) := by decide +kernel
theorem dX3_longestAt_26 : decode cX3_longestAt 26 = .ok (.iload 5, 2) := by decide +kernel
theorem dX3_longestAt_28 : decode cX3_longestAt 28 = .ok (.aload_n 0, 1) := by decide +kernel
theorem dX3_longestAt_29 : decode cX3_longestAt 29 = .ok (.getfield 15, 3) := by decide +kernel
theorem dX3_longestAt_32 : decode cX3_longestAt 32 = .ok (.getfield 50, 3) := by decide +kernel
theorem dX3_longestAt_35 : decode cX3_longestAt 35 = .ok (.if_icmp .lt 12, 3) := by decide +kernel
theorem dX3_longestAt_38 : decode cX3_longestAt 38 = .ok (.iload 5, 2) := by decide +kernel
theorem dX3_longestAt_40 : decode cX3_longestAt 40 = .ok (.iload_n 3, 1) := by decide +kernel
theorem dX3_longestAt_41 : decode cX3_longestAt 41 = .ok (.if_icmp .le 6, 3) := by decide +kernel
theorem dX3_longestAt_44 : decode cX3_longestAt 44 = .ok (.iload 5, 2) := by decide +kernel
theorem dX3_longestAt_46 : decode cX3_longestAt 46 = .ok (.istore_n 3, 1) := by decide +kernel
theorem dX3_longestAt_47 : decode cX3_longestAt 47 = .ok (.iinc 4 1, 3) := by decide +kernel
theorem dX3_longestAt_50 : decode cX3_longestAt 50 = .ok (.goto (-45), 3) := by decide +kernel
theorem dX3_longestAt_53 : decode cX3_longestAt 53 = .ok (.iload_n 3, 1) := by decide +kernel
theorem dX3_longestAt_54 : decode cX3_longestAt 54 = .ok (.ireturn, 1) := by decide +kernel
theorem dX3_longestByPairs_0 : decode cX3_longestByPairs 0 = .ok (.iload_n 1, 1) := by decide +kernel
theorem dX3_longestByPairs_1 : decode cX3_longestByPairs 1 = .ok (.iconst 1, 1) := by decide +kernel
theorem dX3_longestByPairs_2 : decode cX3_longestByPairs 2 = .ok (.iadd, 1) := by decide +kernel
theorem dX3_longestByPairs_3 : decode cX3_longestByPairs 3 = .ok (.aload_n 0, 1) := by decide +kernel
theorem dX3_longestByPairs_4 : decode cX3_longestByPairs 4 = .ok (.getfield 9, 3) := by decide +kernel
theorem dX3_longestByPairs_7 : decode cX3_longestByPairs 7 = .ok (.getfield 38, 3) := by decide +kernel
theorem dX3_longestByPairs_10 : decode cX3_longestByPairs 10 = .ok (.if_icmp .lt 5, 3) := by decide +kernel
theorem dX3_longestByPairs_13 : decode cX3_longestByPairs 13 = .ok (.iconst 0, 1) := by decide +kernel
theorem dX3_longestByPairs_14 : decode cX3_longestByPairs 14 = .ok (.ireturn, 1) := by decide +kernel
theorem dX3_longestByPairs_15 : decode cX3_longestByPairs 15 = .ok (.iconst 0, 1) := by decide +kernel
theorem dX3_longestByPairs_16 : decode cX3_longestByPairs 16 = .ok (.istore_n 2, 1) := by decide +kernel
theorem dX3_longestByPairs_17 : decode cX3_longestByPairs 17 = .ok (.aload_n 0, 1) := by decide +kernel
theorem dX3_longestByPairs_18 : decode cX3_longestByPairs 18 = .ok (.getfield 22, 3) := by decide +kernel
theorem dX3_longestByPairs_21 : decode cX3_longestByPairs 21 = .ok (.iload_n 1, 1) := by decide +kernel
theorem dX3_longestByPairs_22 : decode cX3_longestByPairs 22 = .ok (.invokevirtual 53, 3) := by decide +kernel
theorem dX3_longestByPairs_25 : decode cX3_longestByPairs 25 = .ok (.istore_n 3, 1) := by decide +kernel
theorem dX3_longestByPairs_26 : decode cX3_longestByPairs 26 = .ok (.iconst 0, 1) := by decide +kernel
theorem dX3_longestByPairs_27 : decode cX3_longestByPairs 27 = .ok (.istore 4, 2) := by decide +kernel
theorem dX3_longestByPairs_29 : decode cX3_longestByPairs 29 = .ok (.iload 4, 2) := by decide +kernel
theorem dX3_longestByPairs_31 : decode cX3_longestByPairs 31 = .ok (.bipush 40, 2) := by decide +kernel
theorem dX3_longestByPairs_33 : decode cX3_longestByPairs 33 = .ok (.if_icmp .ge 71, 3) := by decide +kernel
theorem dX3_longestByPairs_36 : decode cX3_longestByPairs 36 = .ok (.iload_n 3, 1) := by decide +kernel
theorem dX3_longestByPairs_37 : decode cX3_longestByPairs 37 = .ok (.iconst (-1), 1) := by decide +kernel
theorem dX3_longestByPairs_38 : decode cX3_longestByPairs 38 = .ok (.if_icmp .eq 66, 3) := by decide +kernel
theorem dX3_longestByPairs_41 : decode cX3_longestByPairs 41 = .ok (.iload_n 1, 1) := by decide +kernel
theorem dX3_longestByPairs_42 : decode cX3_longestByPairs 42 = .ok (.iload_n 3, 1) := by decide +kernel
theorem dX3_longestByPairs_43 : decode cX3_longestByPairs 43 = .ok (.isub, 1) := by decide +kernel
theorem dX3_longestByPairs_44 : decode cX3_longestByPairs 44 = .ok (.aload_n 0, 1) := by decide +kernel
theorem dX3_longestByPairs_45 : decode cX3_longestByPairs 45 = .ok (.getfield 15, 3) := by decide +kernel
theorem dX3_longestByPairs_48 : decode cX3_longestByPairs 48 = .ok (.getfield 57, 3) := by decide +kernel
theorem dX3_longestByPairs_51 : decode cX3_longestByPairs 51 = .ok (.if_icmp .gt 14, 3) := by decide +kernel
theorem dX3_longestByPairs_54 : decode cX3_longestByPairs 54 = .ok (.aload_n 0, 1) := by decide +kernel
theorem dX3_longestByPairs_55 : decode cX3_longestByPairs 55 = .ok (.iload_n 1, 1) := by decide +kernel
theorem dX3_longestByPairs_56 : decode cX3_longestByPairs 56 = .ok (.iload_n 1, 1) := by decide +kernel
theorem dX3_longestByPairs_57 : decode cX3_longestByPairs 57 = .ok (.iload_n 3, 1) := by decide +kernel
theorem dX3_longestByPairs_58 : decode cX3_longestByPairs 58 = .ok (.isub, 1) := by decide +kernel
theorem dX3_longestByPairs_59 : decode cX3_longestByPairs 59 = .ok (.invokevirtual 47, 3) := by decide +kernel
theorem dX3_longestByPairs_62 : decode cX3_longestByPairs 62 = .ok (.goto 4, 3) := by decide +kernel
theorem dX3_longestByPairs_65 : decode cX3_longestByPairs 65 = .ok (.iconst 0, 1) := by decide +kernel
theorem dX3_longestByPairs_66 : decode cX3_longestByPairs 66 = .ok (.istore 5, 2) := by decide +kernel
theorem dX3_longestByPairs_68 : decode cX3_longestByPairs 68 = .ok (.iload 5, 2) := by decide +kernel
theorem dX3_longestByPairs_70 : decode cX3_longestByPairs 70 = .ok (.aload_n 0, 1) := by decide +kernel
theorem dX3_longestByPairs_71 : decode cX3_longestByPairs 71 = .ok (.getfield 15, 3) := by decide +kernel
theorem dX3_longestByPairs_74 : decode cX3_longestByPairs 74 = .ok (.getfield 50, 3) := by decide +kernel
theorem dX3_longestByPairs_77 : decode cX3_longestByPairs 77 = .ok (.if_icmp .lt 12, 3) := by decide +kernel
theorem dX3_longestByPairs_80 : decode cX3_longestByPairs 80 = .ok (.iload 5, 2) := by decide +kernel
theorem dX3_longestByPairs_82 : decode cX3_longestByPairs 82 = .ok (.iload_n 2, 1) := by decide +kernel
theorem dX3_longestByPairs_83 : decode cX3_longestByPairs 83 = .ok (.if_icmp .le 6, 3) := by decide +kernel
theorem dX3_longestByPairs_86 : decode cX3_longestByPairs 86 = .ok (.iload 5, 2) := by decide +kernel
theorem dX3_longestByPairs_88 : decode cX3_longestByPairs 88 = .ok (.istore_n 2, 1) := by decide +kernel
theorem dX3_longestByPairs_89 : decode cX3_longestByPairs 89 = .ok (.aload_n 0, 1) := by decide +kernel
theorem dX3_longestByPairs_90 : decode cX3_longestByPairs 90 = .ok (.getfield 22, 3) := by decide +kernel
theorem dX3_longestByPairs_93 : decode cX3_longestByPairs 93 = .ok (.iload_n 3, 1) := by decide +kernel
theorem dX3_longestByPairs_94 : decode cX3_longestByPairs 94 = .ok (.invokevirtual 53, 3) := by decide +kernel
theorem dX3_longestByPairs_97 : decode cX3_longestByPairs 97 = .ok (.istore_n 3, 1) := by decide +kernel
theorem dX3_longestByPairs_98 : decode cX3_longestByPairs 98 = .ok (.iinc 4 1, 3) := by decide +kernel
theorem dX3_longestByPairs_101 : decode cX3_longestByPairs 101 = .ok (.goto (-72), 3) := by decide +kernel
theorem dX3_longestByPairs_104 : decode cX3_longestByPairs 104 = .ok (.iload_n 2, 1) := by decide +kernel
theorem dX3_longestByPairs_105 : decode cX3_longestByPairs 105 = .ok (.ireturn, 1) := by decide +kernel
theorem dX3_leastDistance_0 : decode cX3_leastDistance 0 = .ok (.iload_n 2, 1) := by decide +kernel
theorem dX3_leastDistance_1 : decode cX3_leastDistance 1 = .ok (.ifCond .gt 5, 3) := by decide +kernel
theorem dX3_leastDistance_4 : decode cX3_leastDistance 4 = .ok (.iconst 0, 1) := by decide +kernel
theorem dX3_leastDistance_5 : decode cX3_leastDistance 5 = .ok (.ireturn, 1) := by decide +kernel
theorem dX3_leastDistance_6 : decode cX3_leastDistance 6 = .ok (.iconst 1, 1) := by decide +kernel
theorem dX3_leastDistance_7 : decode cX3_leastDistance 7 = .ok (.istore_n 3, 1) := by decide +kernel
theorem dX3_leastDistance_8 : decode cX3_leastDistance 8 = .ok (.iload_n 3, 1) := by decide +kernel
theorem dX3_leastDistance_9 : decode cX3_leastDistance 9 = .ok (.aload_n 0, 1) := by decide +kernel
theorem dX3_leastDistance_10 : decode cX3_leastDistance 10 = .ok (.getfield 15, 3) := by decide +kernel
theorem dX3_leastDistance_13 : decode cX3_leastDistance 13 = .ok (.getfield 57, 3) := by decide +kernel
theorem dX3_leastDistance_16 : decode cX3_leastDistance 16 = .ok (.if_icmp .gt 26, 3) := by decide +kernel
theorem dX3_leastDistance_19 : decode cX3_leastDistance 19 = .ok (.iload_n 3, 1) := by decide +kernel
theorem dX3_leastDistance_20 : decode cX3_leastDistance 20 = .ok (.iload_n 1, 1) := by decide +kernel
theorem dX3_leastDistance_21 : decode cX3_leastDistance 21 = .ok (.if_icmp .gt 21, 3) := by decide +kernel
theorem dX3_leastDistance_24 : decode cX3_leastDistance 24 = .ok (.aload_n 0, 1) := by decide +kernel
theorem dX3_leastDistance_25 : decode cX3_leastDistance 25 = .ok (.iload_n 1, 1) := by decide +kernel
theorem dX3_leastDistance_26 : decode cX3_leastDistance 26 = .ok (.iload_n 3, 1) := by decide +kernel
theorem dX3_leastDistance_27 : decode cX3_leastDistance 27 = .ok (.invokevirtual 47, 3) := by decide +kernel
theorem dX3_leastDistance_30 : decode cX3_leastDistance 30 = .ok (.iload_n 2, 1) := by decide +kernel
theorem dX3_leastDistance_31 : decode cX3_leastDistance 31 = .ok (.if_icmp .lt 5, 3) := by decide +kernel
theorem dX3_leastDistance_34 : decode cX3_leastDistance 34 = .ok (.iload_n 3, 1) := by decide +kernel
theorem dX3_leastDistance_35 : decode cX3_leastDistance 35 = .ok (.ireturn, 1) := by decide +kernel
theorem dX3_leastDistance_36 : decode cX3_leastDistance 36 = .ok (.iinc 3 1, 3) := by decide +kernel
theorem dX3_leastDistance_39 : decode cX3_leastDistance 39 = .ok (.goto (-31), 3) := by decide +kernel
theorem dX3_leastDistance_42 : decode cX3_leastDistance 42 = .ok (.iconst 0, 1) := by decide +kernel
theorem dX3_leastDistance_43 : decode cX3_leastDistance 43 = .ok (.ireturn, 1) := by decide +kernel
theorem dX4_setCost_0 : decode cX4_setCost 0 = .ok (.iload_n 1, 1) := by decide +kernel
theorem dX4_setCost_1 : decode cX4_setCost 1 = .ok (.ifCond .lt 19, 3) := by decide +kernel
theorem dX4_setCost_4 : decode cX4_setCost 4 = .ok (.iload_n 1, 1) := by decide +kernel
theorem dX4_setCost_5 : decode cX4_setCost 5 = .ok (.aload_n 0, 1) := by decide +kernel
theorem dX4_setCost_6 : decode cX4_setCost 6 = .ok (.getfield 15, 3) := by decide +kernel
theorem dX4_setCost_9 : decode cX4_setCost 9 = .ok (.arraylength, 1) := by decide +kernel
theorem dX4_setCost_10 : decode cX4_setCost 10 = .ok (.if_icmp .ge 10, 3) := by decide +kernel
theorem dX4_setCost_13 : decode cX4_setCost 13 = .ok (.aload_n 0, 1) := by decide +kernel
theorem dX4_setCost_14 : decode cX4_setCost 14 = .ok (.getfield 15, 3) := by decide +kernel
theorem dX4_setCost_17 : decode cX4_setCost 17 = .ok (.iload_n 1, 1) := by decide +kernel
theorem dX4_setCost_18 : decode cX4_setCost 18 = .ok (.iload_n 2, 1) := by decide +kernel
theorem dX4_setCost_19 : decode cX4_setCost 19 = .ok (.iastore, 1) := by decide +kernel
theorem dX4_setCost_20 : decode cX4_setCost 20 = .ok (.return_, 1) := by decide +kernel
theorem dX4_costAt_0 : decode cX4_costAt 0 = .ok (.iload_n 1, 1) := by decide +kernel
theorem dX4_costAt_1 : decode cX4_costAt 1 = .ok (.ifCond .lt 21, 3) := by decide +kernel
theorem dX4_costAt_4 : decode cX4_costAt 4 = .ok (.iload_n 1, 1) := by decide +kernel
theorem dX4_costAt_5 : decode cX4_costAt 5 = .ok (.aload_n 0, 1) := by decide +kernel
theorem dX4_costAt_6 : decode cX4_costAt 6 = .ok (.getfield 15, 3) := by decide +kernel
theorem dX4_costAt_9 : decode cX4_costAt 9 = .ok (.arraylength, 1) := by decide +kernel
theorem dX4_costAt_10 : decode cX4_costAt 10 = .ok (.if_icmp .ge 12, 3) := by decide +kernel
theorem dX4_costAt_13 : decode cX4_costAt 13 = .ok (.aload_n 0, 1) := by decide +kernel
theorem dX4_costAt_14 : decode cX4_costAt 14 = .ok (.getfield 15, 3) := by decide +kernel
theorem dX4_costAt_17 : decode cX4_costAt 17 = .ok (.iload_n 1, 1) := by decide +kernel
theorem dX4_costAt_18 : decode cX4_costAt 18 = .ok (.iaload, 1) := by decide +kernel
theorem dX4_costAt_19 : decode cX4_costAt 19 = .ok (.goto 4, 3) := by decide +kernel
theorem dX4_costAt_22 : decode cX4_costAt 22 = .ok (.iconst 0, 1) := by decide +kernel
theorem dX4_costAt_23 : decode cX4_costAt 23 = .ok (.ireturn, 1) := by decide +kernel
theorem dX4_leastFromEnd_0 : decode cX4_leastFromEnd 0 = .ok (.aload_n 0, 1) := by decide +kernel
theorem dX4_leastFromEnd_1 : decode cX4_leastFromEnd 1 = .ok (.aload_n 0, 1) := by decide +kernel
theorem dX4_leastFromEnd_2 : decode cX4_leastFromEnd 2 = .ok (.getfield 9, 3) := by decide +kernel
theorem dX4_leastFromEnd_5 : decode cX4_leastFromEnd 5 = .ok (.getfield 44, 3) := by decide +kernel
theorem dX4_leastFromEnd_8 : decode cX4_leastFromEnd 8 = .ok (.getfield 48, 3) := by decide +kernel
theorem dX4_leastFromEnd_11 : decode cX4_leastFromEnd 11 = .ok (.iconst 0, 1) := by decide +kernel
theorem dX4_leastFromEnd_12 : decode cX4_leastFromEnd 12 = .ok (.invokevirtual 87, 3) := by decide +kernel
theorem dX4_leastFromEnd_15 : decode cX4_leastFromEnd 15 = .ok (.aload_n 0, 1) := by decide +kernel
theorem dX4_leastFromEnd_16 : decode cX4_leastFromEnd 16 = .ok (.getfield 9, 3) := by decide +kernel
theorem dX4_leastFromEnd_19 : decode cX4_leastFromEnd 19 = .ok (.getfield 44, 3) := by decide +kernel
theorem dX4_leastFromEnd_22 : decode cX4_leastFromEnd 22 = .ok (.getfield 48, 3) := by decide +kernel
theorem dX4_leastFromEnd_25 : decode cX4_leastFromEnd 25 = .ok (.iconst 1, 1) := by decide +kernel
theorem dX4_leastFromEnd_26 : decode cX4_leastFromEnd 26 = .ok (.isub, 1) := by decide +kernel
theorem dX4_leastFromEnd_27 : decode cX4_leastFromEnd 27 = .ok (.istore_n 2, 1) := by decide +kernel
theorem dX4_leastFromEnd_28 : decode cX4_leastFromEnd 28 = .ok (.iload_n 2, 1) := by decide +kernel
theorem dX4_leastFromEnd_29 : decode cX4_leastFromEnd 29 = .ok (.ifCond .lt 94, 3) := by decide +kernel
theorem dX4_leastFromEnd_32 : decode cX4_leastFromEnd 32 = .ok (.aload_n 0, 1) := by decide +kernel
theorem dX4_leastFromEnd_33 : decode cX4_leastFromEnd 33 = .ok (.getfield 9, 3) := by decide +kernel
theorem dX4_leastFromEnd_36 : decode cX4_leastFromEnd 36 = .ok (.getfield 32, 3) := by decide +kernel
theorem dX4_leastFromEnd_39 : decode cX4_leastFromEnd 39 = .ok (.getfield 90, 3) := by decide +kernel
theorem dX4_leastFromEnd_42 : decode cX4_leastFromEnd 42 = .ok (.aload_n 0, 1) := by decide +kernel
theorem dX4_leastFromEnd_43 : decode cX4_leastFromEnd 43 = .ok (.iload_n 2, 1) := by decide +kernel
theorem dX4_leastFromEnd_44 : decode cX4_leastFromEnd 44 = .ok (.iconst 1, 1) := by decide +kernel
theorem dX4_leastFromEnd_45 : decode cX4_leastFromEnd 45 = .ok (.iadd, 1) := by decide +kernel
theorem dX4_leastFromEnd_46 : decode cX4_leastFromEnd 46 = .ok (.invokevirtual 84, 3) := by decide +kernel
theorem dX4_leastFromEnd_49 : decode cX4_leastFromEnd 49 = .ok (.iadd, 1) := by decide +kernel
theorem dX4_leastFromEnd_50 : decode cX4_leastFromEnd 50 = .ok (.istore_n 3, 1) := by decide +kernel
theorem dX4_leastFromEnd_51 : decode cX4_leastFromEnd 51 = .ok (.aload_n 0, 1) := by decide +kernel
theorem dX4_leastFromEnd_52 : decode cX4_leastFromEnd 52 = .ok (.getfield 9, 3) := by decide +kernel
theorem dX4_leastFromEnd_55 : decode cX4_leastFromEnd 55 = .ok (.iload_n 2, 1) := by decide +kernel
theorem dX4_leastFromEnd_56 : decode cX4_leastFromEnd 56 = .ok (.iload_n 1, 1) := by decide +kernel
theorem dX4_leastFromEnd_57 : decode cX4_leastFromEnd 57 = .ok (.invokevirtual 53, 3) := by decide +kernel
theorem dX4_leastFromEnd_60 : decode cX4_leastFromEnd 60 = .ok (.istore 4, 2) := by decide +kernel
theorem dX4_leastFromEnd_62 : decode cX4_leastFromEnd 62 = .ok (.aload_n 0, 1) := by decide +kernel
theorem dX4_leastFromEnd_63 : decode cX4_leastFromEnd 63 = .ok (.getfield 9, 3) := by decide +kernel
theorem dX4_leastFromEnd_66 : decode cX4_leastFromEnd 66 = .ok (.getfield 32, 3) := by decide +kernel
theorem dX4_leastFromEnd_69 : decode cX4_leastFromEnd 69 = .ok (.getfield 78, 3) := by decide +kernel
theorem dX4_leastFromEnd_72 : decode cX4_leastFromEnd 72 = .ok (.istore 5, 2) := by decide +kernel
theorem dX4_leastFromEnd_74 : decode cX4_leastFromEnd 74 = .ok (.iload 5, 2) := by decide +kernel
theorem dX4_leastFromEnd_76 : decode cX4_leastFromEnd 76 = .ok (.iload 4, 2) := by decide +kernel
theorem dX4_leastFromEnd_78 : decode cX4_leastFromEnd 78 = .ok (.if_icmp .gt 33, 3) := by decide +kernel
theorem dX4_leastFromEnd_81 : decode cX4_leastFromEnd 81 = .ok (.iload_n 3, 1) := by decide +kernel
theorem dX4_leastFromEnd_82 : decode cX4_leastFromEnd 82 = .ok (.aload_n 0, 1) := by decide +kernel
theorem dX4_leastFromEnd_83 : decode cX4_leastFromEnd 83 = .ok (.getfield 9, 3) := by decide +kernel
theorem dX4_leastFromEnd_86 : decode cX4_leastFromEnd 86 = .ok (.getfield 32, 3) := by decide +kernel
theorem dX4_leastFromEnd_89 : decode cX4_leastFromEnd 89 = .ok (.getfield 81, 3) := by decide +kernel
theorem dX4_leastFromEnd_92 : decode cX4_leastFromEnd 92 = .ok (.aload_n 0, 1) := by decide +kernel
theorem dX4_leastFromEnd_93 : decode cX4_leastFromEnd 93 = .ok (.iload_n 2, 1) := by decide +kernel
theorem dX4_leastFromEnd_94 : decode cX4_leastFromEnd 94 = .ok (.iload 5, 2) := by decide +kernel
theorem dX4_leastFromEnd_96 : decode cX4_leastFromEnd 96 = .ok (.iadd, 1) := by decide +kernel
theorem dX4_leastFromEnd_97 : decode cX4_leastFromEnd 97 = .ok (.invokevirtual 84, 3) := by decide +kernel
theorem dX4_leastFromEnd_100 : decode cX4_leastFromEnd 100 = .ok (.iadd, 1) := by decide +kernel
theorem dX4_leastFromEnd_101 : decode cX4_leastFromEnd 101 = .ok (.invokestatic 93, 3) := by decide +kernel
theorem dX4_leastFromEnd_104 : decode cX4_leastFromEnd 104 = .ok (.istore_n 3, 1) := by decide +kernel
theorem dX4_leastFromEnd_105 : decode cX4_leastFromEnd 105 = .ok (.iinc 5 1, 3) := by decide +kernel
theorem dX4_leastFromEnd_108 : decode cX4_leastFromEnd 108 = .ok (.goto (-34), 3) := by decide +kernel
theorem dX4_leastFromEnd_111 : decode cX4_leastFromEnd 111 = .ok (.aload_n 0, 1) := by decide +kernel
theorem dX4_leastFromEnd_112 : decode cX4_leastFromEnd 112 = .ok (.iload_n 2, 1) := by decide +kernel
theorem dX4_leastFromEnd_113 : decode cX4_leastFromEnd 113 = .ok (.iload_n 3, 1) := by decide +kernel
theorem dX4_leastFromEnd_114 : decode cX4_leastFromEnd 114 = .ok (.invokevirtual 87, 3) := by decide +kernel
theorem dX4_leastFromEnd_117 : decode cX4_leastFromEnd 117 = .ok (.iinc 2 (-1), 3) := by decide +kernel
theorem dX4_leastFromEnd_120 : decode cX4_leastFromEnd 120 = .ok (.goto (-92), 3) := by decide +kernel
theorem dX4_leastFromEnd_123 : decode cX4_leastFromEnd 123 = .ok (.aload_n 0, 1) := by decide +kernel
theorem dX4_leastFromEnd_124 : decode cX4_leastFromEnd 124 = .ok (.iconst 0, 1) := by decide +kernel
theorem dX4_leastFromEnd_125 : decode cX4_leastFromEnd 125 = .ok (.invokevirtual 84, 3) := by decide +kernel
theorem dX4_leastFromEnd_128 : decode cX4_leastFromEnd 128 = .ok (.ireturn, 1) := by decide +kernel
theorem dX4_cheapestLength_0 : decode cX4_cheapestLength 0 = .ok (.aload_n 0, 1) := by decide +kernel
theorem dX4_cheapestLength_1 : decode cX4_cheapestLength 1 = .ok (.getfield 9, 3) := by decide +kernel
theorem dX4_cheapestLength_4 : decode cX4_cheapestLength 4 = .ok (.iload_n 1, 1) := by decide +kernel
theorem dX4_cheapestLength_5 : decode cX4_cheapestLength 5 = .ok (.aload_n 0, 1) := by decide +kernel
theorem dX4_cheapestLength_6 : decode cX4_cheapestLength 6 = .ok (.getfield 9, 3) := by decide +kernel
theorem dX4_cheapestLength_9 : decode cX4_cheapestLength 9 = .ok (.getfield 32, 3) := by decide +kernel
theorem dX4_cheapestLength_12 : decode cX4_cheapestLength 12 = .ok (.getfield 38, 3) := by decide +kernel
theorem dX4_cheapestLength_15 : decode cX4_cheapestLength 15 = .ok (.invokevirtual 53, 3) := by decide +kernel
theorem dX4_cheapestLength_18 : decode cX4_cheapestLength 18 = .ok (.istore_n 2, 1) := by decide +kernel
theorem dX4_cheapestLength_19 : decode cX4_cheapestLength 19 = .ok (.iload_n 2, 1) := by decide +kernel
theorem dX4_cheapestLength_20 : decode cX4_cheapestLength 20 = .ok (.istore_n 3, 1) := by decide +kernel
theorem dX4_cheapestLength_21 : decode cX4_cheapestLength 21 = .ok (.iload_n 3, 1) := by decide +kernel
theorem dX4_cheapestLength_22 : decode cX4_cheapestLength 22 = .ok (.aload_n 0, 1) := by decide +kernel
theorem dX4_cheapestLength_23 : decode cX4_cheapestLength 23 = .ok (.getfield 9, 3) := by decide +kernel
theorem dX4_cheapestLength_26 : decode cX4_cheapestLength 26 = .ok (.getfield 32, 3) := by decide +kernel
theorem dX4_cheapestLength_29 : decode cX4_cheapestLength 29 = .ok (.getfield 78, 3) := by decide +kernel
theorem dX4_cheapestLength_32 : decode cX4_cheapestLength 32 = .ok (.if_icmp .lt 37, 3) := by decide +kernel
theorem dX4_cheapestLength_35 : decode cX4_cheapestLength 35 = .ok (.aload_n 0, 1) := by decide +kernel
theorem dX4_cheapestLength_36 : decode cX4_cheapestLength 36 = .ok (.getfield 9, 3) := by decide +kernel
theorem dX4_cheapestLength_39 : decode cX4_cheapestLength 39 = .ok (.getfield 32, 3) := by decide +kernel
theorem dX4_cheapestLength_42 : decode cX4_cheapestLength 42 = .ok (.getfield 81, 3) := by decide +kernel
theorem dX4_cheapestLength_45 : decode cX4_cheapestLength 45 = .ok (.aload_n 0, 1) := by decide +kernel
theorem dX4_cheapestLength_46 : decode cX4_cheapestLength 46 = .ok (.iload_n 1, 1) := by decide +kernel
theorem dX4_cheapestLength_47 : decode cX4_cheapestLength 47 = .ok (.iload_n 3, 1) := by decide +kernel
theorem dX4_cheapestLength_48 : decode cX4_cheapestLength 48 = .ok (.iadd, 1) := by decide +kernel
theorem dX4_cheapestLength_49 : decode cX4_cheapestLength 49 = .ok (.invokevirtual 84, 3) := by decide +kernel
theorem dX4_cheapestLength_52 : decode cX4_cheapestLength 52 = .ok (.iadd, 1) := by decide +kernel
theorem dX4_cheapestLength_53 : decode cX4_cheapestLength 53 = .ok (.aload_n 0, 1) := by decide +kernel
theorem dX4_cheapestLength_54 : decode cX4_cheapestLength 54 = .ok (.iload_n 1, 1) := by decide +kernel
theorem dX4_cheapestLength_55 : decode cX4_cheapestLength 55 = .ok (.invokevirtual 84, 3) := by decide +kernel
theorem dX4_cheapestLength_58 : decode cX4_cheapestLength 58 = .ok (.if_icmp .ne 5, 3) := by decide +kernel
theorem dX4_cheapestLength_61 : decode cX4_cheapestLength 61 = .ok (.iload_n 3, 1) := by decide +kernel
theorem dX4_cheapestLength_62 : decode cX4_cheapestLength 62 = .ok (.ireturn, 1) := by decide +kernel
theorem dX4_cheapestLength_63 : decode cX4_cheapestLength 63 = .ok (.iinc 3 (-1), 3) := by decide +kernel
theorem dX4_cheapestLength_66 : decode cX4_cheapestLength 66 = .ok (.goto (-45), 3) := by decide +kernel
theorem dX4_cheapestLength_69 : decode cX4_cheapestLength 69 = .ok (.iconst 0, 1) := by decide +kernel
theorem dX4_cheapestLength_70 : decode cX4_cheapestLength 70 = .ok (.ireturn, 1) := by decide +kernel
theorem dX4_putTokenAt_0 : decode cX4_putTokenAt 0 = .ok (.iload_n 2, 1) := by decide +kernel
theorem dX4_putTokenAt_1 : decode cX4_putTokenAt 1 = .ok (.ifCond .gt 21, 3) := by decide +kernel
theorem dX4_putTokenAt_4 : decode cX4_putTokenAt 4 = .ok (.aload_n 3, 1) := by decide +kernel
theorem dX4_putTokenAt_5 : decode cX4_putTokenAt 5 = .ok (.iconst 0, 1) := by decide +kernel
theorem dX4_putTokenAt_6 : decode cX4_putTokenAt 6 = .ok (.aload_n 0, 1) := by decide +kernel
theorem dX4_putTokenAt_7 : decode cX4_putTokenAt 7 = .ok (.getfield 9, 3) := by decide +kernel
theorem dX4_putTokenAt_10 : decode cX4_putTokenAt 10 = .ok (.getfield 44, 3) := by decide +kernel
theorem dX4_putTokenAt_13 : decode cX4_putTokenAt 13 = .ok (.iload_n 1, 1) := by decide +kernel
theorem dX4_putTokenAt_14 : decode cX4_putTokenAt 14 = .ok (.invokevirtual 68, 3) := by decide +kernel
theorem dX4_putTokenAt_17 : decode cX4_putTokenAt 17 = .ok (.invokevirtual 71, 3) := by decide +kernel
theorem dX4_putTokenAt_20 : decode cX4_putTokenAt 20 = .ok (.iconst 1, 1) := by decide +kernel
theorem dX4_putTokenAt_21 : decode cX4_putTokenAt 21 = .ok (.ireturn, 1) := by decide +kernel
theorem dX4_putTokenAt_22 : decode cX4_putTokenAt 22 = .ok (.aload_n 3, 1) := by decide +kernel
theorem dX4_putTokenAt_23 : decode cX4_putTokenAt 23 = .ok (.aload_n 0, 1) := by decide +kernel
theorem dX4_putTokenAt_24 : decode cX4_putTokenAt 24 = .ok (.getfield 9, 3) := by decide +kernel
theorem dX4_putTokenAt_27 : decode cX4_putTokenAt 27 = .ok (.iload_n 1, 1) := by decide +kernel
theorem dX4_putTokenAt_28 : decode cX4_putTokenAt 28 = .ok (.iload_n 2, 1) := by decide +kernel
theorem dX4_putTokenAt_29 : decode cX4_putTokenAt 29 = .ok (.invokevirtual 75, 3) := by decide +kernel
theorem dX4_putTokenAt_32 : decode cX4_putTokenAt 32 = .ok (.iload_n 2, 1) := by decide +kernel
theorem dX4_putTokenAt_33 : decode cX4_putTokenAt 33 = .ok (.invokevirtual 71, 3) := by decide +kernel
theorem dX4_putTokenAt_36 : decode cX4_putTokenAt 36 = .ok (.iload_n 2, 1) := by decide +kernel
theorem dX4_putTokenAt_37 : decode cX4_putTokenAt 37 = .ok (.ireturn, 1) := by decide +kernel
theorem dX4_packCheaply_0 : decode cX4_packCheaply 0 = .ok (.aload_n 0, 1) := by decide +kernel
theorem dX4_packCheaply_1 : decode cX4_packCheaply 1 = .ok (.aload_n 0, 1) := by decide +kernel
theorem dX4_packCheaply_2 : decode cX4_packCheaply 2 = .ok (.getfield 9, 3) := by decide +kernel
theorem dX4_packCheaply_5 : decode cX4_packCheaply 5 = .ok (.getfield 32, 3) := by decide +kernel
theorem dX4_packCheaply_8 : decode cX4_packCheaply 8 = .ok (.getfield 38, 3) := by decide +kernel
theorem dX4_packCheaply_11 : decode cX4_packCheaply 11 = .ok (.invokevirtual 61, 3) := by decide +kernel
theorem dX4_packCheaply_14 : decode cX4_packCheaply 14 = .ok (.pop, 1) := by decide +kernel
theorem dX4_packCheaply_15 : decode cX4_packCheaply 15 = .ok (.iconst 0, 1) := by decide +kernel
theorem dX4_packCheaply_16 : decode cX4_packCheaply 16 = .ok (.istore_n 2, 1) := by decide +kernel
theorem dX4_packCheaply_17 : decode cX4_packCheaply 17 = .ok (.iconst 0, 1) := by decide +kernel
theorem dX4_packCheaply_18 : decode cX4_packCheaply 18 = .ok (.istore_n 3, 1) := by decide +kernel
theorem dX4_packCheaply_19 : decode cX4_packCheaply 19 = .ok (.iload_n 3, 1) := by decide +kernel
theorem dX4_packCheaply_20 : decode cX4_packCheaply 20 = .ok (.bipush 40, 2) := by decide +kernel
theorem dX4_packCheaply_22 : decode cX4_packCheaply 22 = .ok (.if_icmp .ge 37, 3) := by decide +kernel
theorem dX4_packCheaply_25 : decode cX4_packCheaply 25 = .ok (.iload_n 2, 1) := by decide +kernel
theorem dX4_packCheaply_26 : decode cX4_packCheaply 26 = .ok (.aload_n 0, 1) := by decide +kernel
theorem dX4_packCheaply_27 : decode cX4_packCheaply 27 = .ok (.getfield 9, 3) := by decide +kernel
theorem dX4_packCheaply_30 : decode cX4_packCheaply 30 = .ok (.getfield 44, 3) := by decide +kernel
theorem dX4_packCheaply_33 : decode cX4_packCheaply 33 = .ok (.getfield 48, 3) := by decide +kernel
theorem dX4_packCheaply_36 : decode cX4_packCheaply 36 = .ok (.if_icmp .ge 23, 3) := by decide +kernel
theorem dX4_packCheaply_39 : decode cX4_packCheaply 39 = .ok (.iload_n 2, 1) := by decide +kernel
theorem dX4_packCheaply_40 : decode cX4_packCheaply 40 = .ok (.aload_n 0, 1) := by decide +kernel
theorem dX4_packCheaply_41 : decode cX4_packCheaply 41 = .ok (.iload_n 2, 1) := by decide +kernel
theorem dX4_packCheaply_42 : decode cX4_packCheaply 42 = .ok (.aload_n 0, 1) := by decide +kernel
theorem dX4_packCheaply_43 : decode cX4_packCheaply 43 = .ok (.iload_n 2, 1) := by decide +kernel
theorem dX4_packCheaply_44 : decode cX4_packCheaply 44 = .ok (.invokevirtual 65, 3) := by decide +kernel
theorem dX4_packCheaply_47 : decode cX4_packCheaply 47 = .ok (.aload_n 1, 1) := by decide +kernel
theorem dX4_packCheaply_48 : decode cX4_packCheaply 48 = .ok (.invokevirtual 57, 3) := by decide +kernel
theorem dX4_packCheaply_51 : decode cX4_packCheaply 51 = .ok (.iadd, 1) := by decide +kernel
theorem dX4_packCheaply_52 : decode cX4_packCheaply 52 = .ok (.istore_n 2, 1) := by decide +kernel
theorem dX4_packCheaply_53 : decode cX4_packCheaply 53 = .ok (.iinc 3 1, 3) := by decide +kernel
theorem dX4_packCheaply_56 : decode cX4_packCheaply 56 = .ok (.goto (-37), 3) := by decide +kernel
theorem dX4_packCheaply_59 : decode cX4_packCheaply 59 = .ok (.return_, 1) := by decide +kernel
theorem dX4_packByLongest_0 : decode cX4_packByLongest 0 = .ok (.aload_n 0, 1) := by decide +kernel
theorem dX4_packByLongest_1 : decode cX4_packByLongest 1 = .ok (.getfield 9, 3) := by decide +kernel
theorem dX4_packByLongest_4 : decode cX4_packByLongest 4 = .ok (.getfield 32, 3) := by decide +kernel
theorem dX4_packByLongest_7 : decode cX4_packByLongest 7 = .ok (.getfield 38, 3) := by decide +kernel
theorem dX4_packByLongest_10 : decode cX4_packByLongest 10 = .ok (.istore_n 3, 1) := by decide +kernel
theorem dX4_packByLongest_11 : decode cX4_packByLongest 11 = .ok (.iconst 0, 1) := by decide +kernel
theorem dX4_packByLongest_12 : decode cX4_packByLongest 12 = .ok (.istore 4, 2) := by decide +kernel
theorem dX4_packByLongest_14 : decode cX4_packByLongest 14 = .ok (.iconst 0, 1) := by decide +kernel
theorem dX4_packByLongest_15 : decode cX4_packByLongest 15 = .ok (.istore 5, 2) := by decide +kernel
theorem dX4_packByLongest_17 : decode cX4_packByLongest 17 = .ok (.iload 5, 2) := by decide +kernel
theorem dX4_packByLongest_19 : decode cX4_packByLongest 19 = .ok (.bipush 40, 2) := by decide +kernel
theorem dX4_packByLongest_21 : decode cX4_packByLongest 21 = .ok (.if_icmp .ge 74, 3) := by decide +kernel
theorem dX4_packByLongest_24 : decode cX4_packByLongest 24 = .ok (.iload 4, 2) := by decide +kernel
theorem dX4_packByLongest_26 : decode cX4_packByLongest 26 = .ok (.aload_n 0, 1) := by decide +kernel
theorem dX4_packByLongest_27 : decode cX4_packByLongest 27 = .ok (.getfield 9, 3) := by decide +kernel
theorem dX4_packByLongest_30 : decode cX4_packByLongest 30 = .ok (.getfield 44, 3) := by decide +kernel
theorem dX4_packByLongest_33 : decode cX4_packByLongest 33 = .ok (.getfield 48, 3) := by decide +kernel
theorem dX4_packByLongest_36 : decode cX4_packByLongest 36 = .ok (.if_icmp .ge 59, 3) := by decide +kernel
theorem dX4_packByLongest_39 : decode cX4_packByLongest 39 = .ok (.aload_n 0, 1) := by decide +kernel
theorem dX4_packByLongest_40 : decode cX4_packByLongest 40 = .ok (.getfield 9, 3) := by decide +kernel
theorem dX4_packByLongest_43 : decode cX4_packByLongest 43 = .ok (.iload 4, 2) := by decide +kernel
theorem dX4_packByLongest_45 : decode cX4_packByLongest 45 = .ok (.iload_n 3, 1) := by decide +kernel
theorem dX4_packByLongest_46 : decode cX4_packByLongest 46 = .ok (.invokevirtual 53, 3) := by decide +kernel
theorem dX4_packByLongest_49 : decode cX4_packByLongest 49 = .ok (.istore 6, 2) := by decide +kernel
theorem dX4_packByLongest_51 : decode cX4_packByLongest 51 = .ok (.iload_n 2, 1) := by decide +kernel
theorem dX4_packByLongest_52 : decode cX4_packByLongest 52 = .ok (.ifCond .eq 23, 3) := by decide +kernel
theorem dX4_packByLongest_55 : decode cX4_packByLongest 55 = .ok (.aload_n 0, 1) := by decide +kernel
theorem dX4_packByLongest_56 : decode cX4_packByLongest 56 = .ok (.getfield 9, 3) := by decide +kernel
theorem dX4_packByLongest_59 : decode cX4_packByLongest 59 = .ok (.iload 4, 2) := by decide +kernel
theorem dX4_packByLongest_61 : decode cX4_packByLongest 61 = .ok (.iconst 1, 1) := by decide +kernel
theorem dX4_packByLongest_62 : decode cX4_packByLongest 62 = .ok (.iadd, 1) := by decide +kernel
theorem dX4_packByLongest_63 : decode cX4_packByLongest 63 = .ok (.iload_n 3, 1) := by decide +kernel
theorem dX4_packByLongest_64 : decode cX4_packByLongest 64 = .ok (.invokevirtual 53, 3) := by decide +kernel
theorem dX4_packByLongest_67 : decode cX4_packByLongest 67 = .ok (.iload 6, 2) := by decide +kernel
theorem dX4_packByLongest_69 : decode cX4_packByLongest 69 = .ok (.if_icmp .le 6, 3) := by decide +kernel
theorem dX4_packByLongest_72 : decode cX4_packByLongest 72 = .ok (.iconst 0, 1) := by decide +kernel
theorem dX4_packByLongest_73 : decode cX4_packByLongest 73 = .ok (.istore 6, 2) := by decide +kernel
theorem dX4_packByLongest_75 : decode cX4_packByLongest 75 = .ok (.iload 4, 2) := by decide +kernel
theorem dX4_packByLongest_77 : decode cX4_packByLongest 77 = .ok (.aload_n 0, 1) := by decide +kernel
theorem dX4_packByLongest_78 : decode cX4_packByLongest 78 = .ok (.iload 4, 2) := by decide +kernel
theorem dX4_packByLongest_80 : decode cX4_packByLongest 80 = .ok (.iload 6, 2) := by decide +kernel
theorem dX4_packByLongest_82 : decode cX4_packByLongest 82 = .ok (.aload_n 1, 1) := by decide +kernel
theorem dX4_packByLongest_83 : decode cX4_packByLongest 83 = .ok (.invokevirtual 57, 3) := by decide +kernel
theorem dX4_packByLongest_86 : decode cX4_packByLongest 86 = .ok (.iadd, 1) := by decide +kernel
theorem dX4_packByLongest_87 : decode cX4_packByLongest 87 = .ok (.istore 4, 2) := by decide +kernel
theorem dX4_packByLongest_89 : decode cX4_packByLongest 89 = .ok (.iinc 5 1, 3) := by decide +kernel
theorem dX4_packByLongest_92 : decode cX4_packByLongest 92 = .ok (.goto (-75), 3) := by decide +kernel
theorem dX4_packByLongest_95 : decode cX4_packByLongest 95 = .ok (.return_, 1) := by decide +kernel
theorem dX4_packBy_0 : decode cX4_packBy 0 = .ok (.aload_n 2, 1) := by decide +kernel
theorem dX4_packBy_1 : decode cX4_packBy 1 = .ok (.invokevirtual 19, 3) := by decide +kernel
theorem dX4_packBy_4 : decode cX4_packBy 4 = .ok (.iload_n 1, 1) := by decide +kernel
theorem dX4_packBy_5 : decode cX4_packBy 5 = .ok (.iconst 2, 1) := by decide +kernel
theorem dX4_packBy_6 : decode cX4_packBy 6 = .ok (.if_icmp .ne 11, 3) := by decide +kernel
theorem dX4_packBy_9 : decode cX4_packBy 9 = .ok (.aload_n 0, 1) := by decide +kernel
theorem dX4_packBy_10 : decode cX4_packBy 10 = .ok (.aload_n 2, 1) := by decide +kernel
theorem dX4_packBy_11 : decode cX4_packBy 11 = .ok (.invokevirtual 24, 3) := by decide +kernel
theorem dX4_packBy_14 : decode cX4_packBy 14 = .ok (.goto 18, 3) := by decide +kernel
theorem dX4_packBy_17 : decode cX4_packBy 17 = .ok (.aload_n 0, 1) := by decide +kernel
theorem dX4_packBy_18 : decode cX4_packBy 18 = .ok (.aload_n 2, 1) := by decide +kernel
theorem dX4_packBy_19 : decode cX4_packBy 19 = .ok (.iload_n 1, 1) := by decide +kernel
theorem dX4_packBy_20 : decode cX4_packBy 20 = .ok (.iconst 1, 1) := by decide +kernel
theorem dX4_packBy_21 : decode cX4_packBy 21 = .ok (.if_icmp .ne 7, 3) := by decide +kernel
theorem dX4_packBy_24 : decode cX4_packBy 24 = .ok (.iconst 1, 1) := by decide +kernel
theorem dX4_packBy_25 : decode cX4_packBy 25 = .ok (.goto 4, 3) := by decide +kernel
theorem dX4_packBy_28 : decode cX4_packBy 28 = .ok (.iconst 0, 1) := by decide +kernel
theorem dX4_packBy_29 : decode cX4_packBy 29 = .ok (.invokevirtual 28, 3) := by decide +kernel
theorem dX4_packBy_32 : decode cX4_packBy 32 = .ok (.return_, 1) := by decide +kernel
theorem dX4_lower_0 : decode cX4_lower 0 = .ok (.aload_n 0, 1) := by decide +kernel
theorem dX4_lower_1 : decode cX4_lower 1 = .ok (.iload_n 1, 1) := by decide +kernel
theorem dX4_lower_2 : decode cX4_lower 2 = .ok (.aload_n 0, 1) := by decide +kernel
theorem dX4_lower_3 : decode cX4_lower 3 = .ok (.iload_n 1, 1) := by decide +kernel
theorem dX4_lower_4 : decode cX4_lower 4 = .ok (.invokevirtual 84, 3) := by decide +kernel
theorem dX4_lower_7 : decode cX4_lower 7 = .ok (.iload_n 2, 1) := by decide +kernel
theorem dX4_lower_8 : decode cX4_lower 8 = .ok (.invokestatic 93, 3) := by decide +kernel
theorem dX4_lower_11 : decode cX4_lower 11 = .ok (.invokevirtual 87, 3) := by decide +kernel
theorem dX4_lower_14 : decode cX4_lower 14 = .ok (.return_, 1) := by decide +kernel
theorem dX4_leastFromBeginning_0 : decode cX4_leastFromBeginning 0 = .ok (.iconst 0, 1) := by decide +kernel
theorem dX4_leastFromBeginning_1 : decode cX4_leastFromBeginning 1 = .ok (.istore_n 1, 1) := by decide +kernel
theorem dX4_leastFromBeginning_2 : decode cX4_leastFromBeginning 2 = .ok (.iload_n 1, 1) := by decide +kernel
theorem dX4_leastFromBeginning_3 : decode cX4_leastFromBeginning 3 = .ok (.aload_n 0, 1) := by decide +kernel
theorem dX4_leastFromBeginning_4 : decode cX4_leastFromBeginning 4 = .ok (.getfield 15, 3) := by decide +kernel
theorem dX4_leastFromBeginning_7 : decode cX4_leastFromBeginning 7 = .ok (.arraylength, 1) := by decide +kernel
theorem dX4_leastFromBeginning_8 : decode cX4_leastFromBeginning 8 = .ok (.if_icmp .ge 25, 3) := by decide +kernel
theorem dX4_leastFromBeginning_11 : decode cX4_leastFromBeginning 11 = .ok (.aload_n 0, 1) := by decide +kernel
theorem dX4_leastFromBeginning_12 : decode cX4_leastFromBeginning 12 = .ok (.getfield 15, 3) := by decide +kernel
theorem dX4_leastFromBeginning_15 : decode cX4_leastFromBeginning 15 = .ok (.iload_n 1, 1) := by decide +kernel
theorem dX4_leastFromBeginning_16 : decode cX4_leastFromBeginning 16 = .ok (.iload_n 1, 1) := by decide +kernel
theorem dX4_leastFromBeginning_17 : decode cX4_leastFromBeginning 17 = .ok (.ifCond .ne 7, 3) := by decide +kernel
theorem dX4_leastFromBeginning_20 : decode cX4_leastFromBeginning 20 = .ok (.iconst 0, 1) := by decide +kernel
theorem dX4_leastFromBeginning_21 : decode cX4_leastFromBeginning 21 = .ok (.goto 5, 3) := by decide +kernel
theorem dX4_leastFromBeginning_24 : decode cX4_leastFromBeginning 24 = .ok (.ldc 98, 2) := by decide +kernel
theorem dX4_leastFromBeginning_26 : decode cX4_leastFromBeginning 26 = .ok (.iastore, 1) := by decide +kernel
theorem dX4_leastFromBeginning_27 : decode cX4_leastFromBeginning 27 = .ok (.iinc 1 1, 3) := by decide +kernel
theorem dX4_leastFromBeginning_30 : decode cX4_leastFromBeginning 30 = .ok (.goto (-28), 3) := by decide +kernel
theorem dX4_leastFromBeginning_33 : decode cX4_leastFromBeginning 33 = .ok (.iconst 0, 1) := by decide +kernel
theorem dX4_leastFromBeginning_34 : decode cX4_leastFromBeginning 34 = .ok (.istore_n 1, 1) := by decide +kernel
theorem dX4_leastFromBeginning_35 : decode cX4_leastFromBeginning 35 = .ok (.iload_n 1, 1) := by decide +kernel
theorem dX4_leastFromBeginning_36 : decode cX4_leastFromBeginning 36 = .ok (.aload_n 0, 1) := by decide +kernel
theorem dX4_leastFromBeginning_37 : decode cX4_leastFromBeginning 37 = .ok (.getfield 9, 3) := by decide +kernel
theorem dX4_leastFromBeginning_40 : decode cX4_leastFromBeginning 40 = .ok (.getfield 44, 3) := by decide +kernel
theorem dX4_leastFromBeginning_43 : decode cX4_leastFromBeginning 43 = .ok (.getfield 48, 3) := by decide +kernel
theorem dX4_leastFromBeginning_46 : decode cX4_leastFromBeginning 46 = .ok (.if_icmp .ge 96, 3) := by decide +kernel
theorem dX4_leastFromBeginning_49 : decode cX4_leastFromBeginning 49 = .ok (.aload_n 0, 1) := by decide +kernel
theorem dX4_leastFromBeginning_50 : decode cX4_leastFromBeginning 50 = .ok (.iload_n 1, 1) := by decide +kernel
theorem dX4_leastFromBeginning_51 : decode cX4_leastFromBeginning 51 = .ok (.iconst 1, 1) := by decide +kernel
theorem dX4_leastFromBeginning_52 : decode cX4_leastFromBeginning 52 = .ok (.iadd, 1) := by decide +kernel
theorem dX4_leastFromBeginning_53 : decode cX4_leastFromBeginning 53 = .ok (.aload_n 0, 1) := by decide +kernel
theorem dX4_leastFromBeginning_54 : decode cX4_leastFromBeginning 54 = .ok (.iload_n 1, 1) := by decide +kernel
theorem dX4_leastFromBeginning_55 : decode cX4_leastFromBeginning 55 = .ok (.invokevirtual 84, 3) := by decide +kernel
theorem dX4_leastFromBeginning_58 : decode cX4_leastFromBeginning 58 = .ok (.aload_n 0, 1) := by decide +kernel
theorem dX4_leastFromBeginning_59 : decode cX4_leastFromBeginning 59 = .ok (.getfield 9, 3) := by decide +kernel
theorem dX4_leastFromBeginning_62 : decode cX4_leastFromBeginning 62 = .ok (.getfield 32, 3) := by decide +kernel
theorem dX4_leastFromBeginning_65 : decode cX4_leastFromBeginning 65 = .ok (.getfield 90, 3) := by decide +kernel
theorem dX4_leastFromBeginning_68 : decode cX4_leastFromBeginning 68 = .ok (.iadd, 1) := by decide +kernel
theorem dX4_leastFromBeginning_69 : decode cX4_leastFromBeginning 69 = .ok (.invokevirtual 99, 3) := by decide +kernel
theorem dX4_leastFromBeginning_72 : decode cX4_leastFromBeginning 72 = .ok (.aload_n 0, 1) := by decide +kernel
theorem dX4_leastFromBeginning_73 : decode cX4_leastFromBeginning 73 = .ok (.getfield 9, 3) := by decide +kernel
theorem dX4_leastFromBeginning_76 : decode cX4_leastFromBeginning 76 = .ok (.iload_n 1, 1) := by decide +kernel
theorem dX4_leastFromBeginning_77 : decode cX4_leastFromBeginning 77 = .ok (.aload_n 0, 1) := by decide +kernel
theorem dX4_leastFromBeginning_78 : decode cX4_leastFromBeginning 78 = .ok (.getfield 9, 3) := by decide +kernel
theorem dX4_leastFromBeginning_81 : decode cX4_leastFromBeginning 81 = .ok (.getfield 32, 3) := by decide +kernel
theorem dX4_leastFromBeginning_84 : decode cX4_leastFromBeginning 84 = .ok (.getfield 38, 3) := by decide +kernel
theorem dX4_leastFromBeginning_87 : decode cX4_leastFromBeginning 87 = .ok (.invokevirtual 53, 3) := by decide +kernel
theorem dX4_leastFromBeginning_90 : decode cX4_leastFromBeginning 90 = .ok (.istore_n 2, 1) := by decide +kernel
theorem dX4_leastFromBeginning_91 : decode cX4_leastFromBeginning 91 = .ok (.aload_n 0, 1) := by decide +kernel
theorem dX4_leastFromBeginning_92 : decode cX4_leastFromBeginning 92 = .ok (.getfield 9, 3) := by decide +kernel
theorem dX4_leastFromBeginning_95 : decode cX4_leastFromBeginning 95 = .ok (.getfield 32, 3) := by decide +kernel
theorem dX4_leastFromBeginning_98 : decode cX4_leastFromBeginning 98 = .ok (.getfield 78, 3) := by decide +kernel
theorem dX4_leastFromBeginning_101 : decode cX4_leastFromBeginning 101 = .ok (.istore_n 3, 1) := by decide +kernel
theorem dX4_leastFromBeginning_102 : decode cX4_leastFromBeginning 102 = .ok (.iload_n 3, 1) := by decide +kernel
theorem dX4_leastFromBeginning_103 : decode cX4_leastFromBeginning 103 = .ok (.iload_n 2, 1) := by decide +kernel
theorem dX4_leastFromBeginning_104 : decode cX4_leastFromBeginning 104 = .ok (.if_icmp .gt 32, 3) := by decide +kernel
theorem dX4_leastFromBeginning_107 : decode cX4_leastFromBeginning 107 = .ok (.aload_n 0, 1) := by decide +kernel
theorem dX4_leastFromBeginning_108 : decode cX4_leastFromBeginning 108 = .ok (.iload_n 1, 1) := by decide +kernel
theorem dX4_leastFromBeginning_109 : decode cX4_leastFromBeginning 109 = .ok (.iload_n 3, 1) := by decide +kernel
theorem dX4_leastFromBeginning_110 : decode cX4_leastFromBeginning 110 = .ok (.iadd, 1) := by decide +kernel
theorem dX4_leastFromBeginning_111 : decode cX4_leastFromBeginning 111 = .ok (.aload_n 0, 1) := by decide +kernel
theorem dX4_leastFromBeginning_112 : decode cX4_leastFromBeginning 112 = .ok (.iload_n 1, 1) := by decide +kernel
theorem dX4_leastFromBeginning_113 : decode cX4_leastFromBeginning 113 = .ok (.invokevirtual 84, 3) := by decide +kernel
theorem dX4_leastFromBeginning_116 : decode cX4_leastFromBeginning 116 = .ok (.aload_n 0, 1) := by decide +kernel
theorem dX4_leastFromBeginning_117 : decode cX4_leastFromBeginning 117 = .ok (.getfield 9, 3) := by decide +kernel
theorem dX4_leastFromBeginning_120 : decode cX4_leastFromBeginning 120 = .ok (.getfield 32, 3) := by decide +kernel
theorem dX4_leastFromBeginning_123 : decode cX4_leastFromBeginning 123 = .ok (.getfield 81, 3) := by decide +kernel
theorem dX4_leastFromBeginning_126 : decode cX4_leastFromBeginning 126 = .ok (.iadd, 1) := by decide +kernel
theorem dX4_leastFromBeginning_127 : decode cX4_leastFromBeginning 127 = .ok (.invokevirtual 99, 3) := by decide +kernel
theorem dX4_leastFromBeginning_130 : decode cX4_leastFromBeginning 130 = .ok (.iinc 3 1, 3) := by decide +kernel
theorem dX4_leastFromBeginning_133 : decode cX4_leastFromBeginning 133 = .ok (.goto (-31), 3) := by decide +kernel
theorem dX4_leastFromBeginning_136 : decode cX4_leastFromBeginning 136 = .ok (.iinc 1 1, 3) := by decide +kernel
theorem dX4_leastFromBeginning_139 : decode cX4_leastFromBeginning 139 = .ok (.goto (-104), 3) := by decide +kernel
theorem dX4_leastFromBeginning_142 : decode cX4_leastFromBeginning 142 = .ok (.aload_n 0, 1) := by decide +kernel
theorem dX4_leastFromBeginning_143 : decode cX4_leastFromBeginning 143 = .ok (.aload_n 0, 1) := by decide +kernel
theorem dX4_leastFromBeginning_144 : decode cX4_leastFromBeginning 144 = .ok (.getfield 9, 3) := by decide +kernel
theorem dX4_leastFromBeginning_147 : decode cX4_leastFromBeginning 147 = .ok (.getfield 44, 3) := by decide +kernel
theorem dX4_leastFromBeginning_150 : decode cX4_leastFromBeginning 150 = .ok (.getfield 48, 3) := by decide +kernel
theorem dX4_leastFromBeginning_153 : decode cX4_leastFromBeginning 153 = .ok (.invokevirtual 84, 3) := by decide +kernel
theorem dX4_leastFromBeginning_156 : decode cX4_leastFromBeginning 156 = .ok (.ireturn, 1) := by decide +kernel
theorem dX8_whyWrong_0 : decode cX8_whyWrong 0 = .ok (.iload_n 1, 1) := by decide +kernel
theorem dX8_whyWrong_1 : decode cX8_whyWrong 1 = .ok (.aload_n 0, 1) := by decide +kernel
theorem dX8_whyWrong_2 : decode cX8_whyWrong 2 = .ok (.getfield 12, 3) := by decide +kernel
theorem dX8_whyWrong_5 : decode cX8_whyWrong 5 = .ok (.getfield 48, 3) := by decide +kernel
theorem dX8_whyWrong_8 : decode cX8_whyWrong 8 = .ok (.if_icmp .le 5, 3) := by decide +kernel
theorem dX8_whyWrong_11 : decode cX8_whyWrong 11 = .ok (.iconst 1, 1) := by decide +kernel
theorem dX8_whyWrong_12 : decode cX8_whyWrong 12 = .ok (.ireturn, 1) := by decide +kernel
theorem dX8_whyWrong_13 : decode cX8_whyWrong 13 = .ok (.iload_n 2, 1) := by decide +kernel
theorem dX8_whyWrong_14 : decode cX8_whyWrong 14 = .ok (.bipush 40, 2) := by decide +kernel
theorem dX8_whyWrong_16 : decode cX8_whyWrong 16 = .ok (.aload_n 0, 1) := by decide +kernel
theorem dX8_whyWrong_17 : decode cX8_whyWrong 17 = .ok (.getfield 12, 3) := by decide +kernel
theorem dX8_whyWrong_20 : decode cX8_whyWrong 20 = .ok (.getfield 48, 3) := by decide +kernel
theorem dX8_whyWrong_23 : decode cX8_whyWrong 23 = .ok (.isub, 1) := by decide +kernel
theorem dX8_whyWrong_24 : decode cX8_whyWrong 24 = .ok (.if_icmp .le 7, 3) := by decide +kernel
theorem dX8_whyWrong_27 : decode cX8_whyWrong 27 = .ok (.iconst 2, 1) := by decide +kernel
theorem dX8_whyWrong_28 : decode cX8_whyWrong 28 = .ok (.goto 4, 3) := by decide +kernel
theorem dX8_whyWrong_31 : decode cX8_whyWrong 31 = .ok (.iconst 0, 1) := by decide +kernel
theorem dX8_whyWrong_32 : decode cX8_whyWrong 32 = .ok (.ireturn, 1) := by decide +kernel
theorem dX8_unpackToken_0 : decode cX8_unpackToken 0 = .ok (.aload_n 1, 1) := by decide +kernel
theorem dX8_unpackToken_1 : decode cX8_unpackToken 1 = .ok (.iload_n 2, 1) := by decide +kernel
theorem dX8_unpackToken_2 : decode cX8_unpackToken 2 = .ok (.invokevirtual 33, 3) := by decide +kernel
theorem dX8_unpackToken_5 : decode cX8_unpackToken 5 = .ok (.istore_n 3, 1) := by decide +kernel
theorem dX8_unpackToken_6 : decode cX8_unpackToken 6 = .ok (.iload_n 3, 1) := by decide +kernel
theorem dX8_unpackToken_7 : decode cX8_unpackToken 7 = .ok (.ifCond .ne 16, 3) := by decide +kernel
theorem dX8_unpackToken_10 : decode cX8_unpackToken 10 = .ok (.aload_n 0, 1) := by decide +kernel
theorem dX8_unpackToken_11 : decode cX8_unpackToken 11 = .ok (.getfield 12, 3) := by decide +kernel
theorem dX8_unpackToken_14 : decode cX8_unpackToken 14 = .ok (.aload_n 1, 1) := by decide +kernel
theorem dX8_unpackToken_15 : decode cX8_unpackToken 15 = .ok (.iload_n 2, 1) := by decide +kernel
theorem dX8_unpackToken_16 : decode cX8_unpackToken 16 = .ok (.invokevirtual 49, 3) := by decide +kernel
theorem dX8_unpackToken_19 : decode cX8_unpackToken 19 = .ok (.invokevirtual 52, 3) := by decide +kernel
theorem dX8_unpackToken_22 : decode cX8_unpackToken 22 = .ok (.return_, 1) := by decide +kernel
theorem dX8_unpackToken_23 : decode cX8_unpackToken 23 = .ok (.aload_n 1, 1) := by decide +kernel
theorem dX8_unpackToken_24 : decode cX8_unpackToken 24 = .ok (.iload_n 2, 1) := by decide +kernel
theorem dX8_unpackToken_25 : decode cX8_unpackToken 25 = .ok (.invokevirtual 37, 3) := by decide +kernel
theorem dX8_unpackToken_28 : decode cX8_unpackToken 28 = .ok (.istore 4, 2) := by decide +kernel
theorem dX8_unpackToken_30 : decode cX8_unpackToken 30 = .ok (.iconst 0, 1) := by decide +kernel
theorem dX8_unpackToken_31 : decode cX8_unpackToken 31 = .ok (.istore 5, 2) := by decide +kernel
theorem dX8_unpackToken_33 : decode cX8_unpackToken 33 = .ok (.iload 5, 2) := by decide +kernel
theorem dX8_unpackToken_35 : decode cX8_unpackToken 35 = .ok (.iload 4, 2) := by decide +kernel
theorem dX8_unpackToken_37 : decode cX8_unpackToken 37 = .ok (.if_icmp .ge 32, 3) := by decide +kernel
theorem dX8_unpackToken_40 : decode cX8_unpackToken 40 = .ok (.aload_n 0, 1) := by decide +kernel
theorem dX8_unpackToken_41 : decode cX8_unpackToken 41 = .ok (.getfield 12, 3) := by decide +kernel
theorem dX8_unpackToken_44 : decode cX8_unpackToken 44 = .ok (.aload_n 0, 1) := by decide +kernel
theorem dX8_unpackToken_45 : decode cX8_unpackToken 45 = .ok (.getfield 12, 3) := by decide +kernel
theorem dX8_unpackToken_48 : decode cX8_unpackToken 48 = .ok (.aload_n 0, 1) := by decide +kernel
theorem dX8_unpackToken_49 : decode cX8_unpackToken 49 = .ok (.getfield 12, 3) := by decide +kernel
theorem dX8_unpackToken_52 : decode cX8_unpackToken 52 = .ok (.getfield 48, 3) := by decide +kernel
theorem dX8_unpackToken_55 : decode cX8_unpackToken 55 = .ok (.iload_n 3, 1) := by decide +kernel
theorem dX8_unpackToken_56 : decode cX8_unpackToken 56 = .ok (.isub, 1) := by decide +kernel
theorem dX8_unpackToken_57 : decode cX8_unpackToken 57 = .ok (.invokevirtual 56, 3) := by decide +kernel
theorem dX8_unpackToken_60 : decode cX8_unpackToken 60 = .ok (.invokevirtual 52, 3) := by decide +kernel
theorem dX8_unpackToken_63 : decode cX8_unpackToken 63 = .ok (.iinc 5 1, 3) := by decide +kernel
theorem dX8_unpackToken_66 : decode cX8_unpackToken 66 = .ok (.goto (-33), 3) := by decide +kernel
theorem dX8_unpackToken_69 : decode cX8_unpackToken 69 = .ok (.return_, 1) := by decide +kernel
theorem dX8_run_0 : decode cX8_run 0 = .ok (.aload_n 0, 1) := by decide +kernel
theorem dX8_run_1 : decode cX8_run 1 = .ok (.getfield 12, 3) := by decide +kernel
theorem dX8_run_4 : decode cX8_run 4 = .ok (.invokevirtual 25, 3) := by decide +kernel
theorem dX8_run_7 : decode cX8_run 7 = .ok (.aload_n 0, 1) := by decide +kernel
theorem dX8_run_8 : decode cX8_run 8 = .ok (.iconst (-1), 1) := by decide +kernel
theorem dX8_run_9 : decode cX8_run 9 = .ok (.putfield 18, 3) := by decide +kernel
theorem dX8_run_12 : decode cX8_run 12 = .ok (.aload_n 0, 1) := by decide +kernel
theorem dX8_run_13 : decode cX8_run 13 = .ok (.iconst 0, 1) := by decide +kernel
theorem dX8_run_14 : decode cX8_run 14 = .ok (.putfield 22, 3) := by decide +kernel
theorem dX8_run_17 : decode cX8_run 17 = .ok (.iconst 0, 1) := by decide +kernel
theorem dX8_run_18 : decode cX8_run 18 = .ok (.istore_n 2, 1) := by decide +kernel
theorem dX8_run_19 : decode cX8_run 19 = .ok (.iload_n 2, 1) := by decide +kernel
theorem dX8_run_20 : decode cX8_run 20 = .ok (.aload_n 1, 1) := by decide +kernel
theorem dX8_run_21 : decode cX8_run 21 = .ok (.getfield 28, 3) := by decide +kernel
theorem dX8_run_24 : decode cX8_run 24 = .ok (.if_icmp .ge 55, 3) := by decide +kernel
theorem dX8_run_27 : decode cX8_run 27 = .ok (.aload_n 0, 1) := by decide +kernel
theorem dX8_run_28 : decode cX8_run 28 = .ok (.getfield 22, 3) := by decide +kernel
theorem dX8_run_31 : decode cX8_run 31 = .ok (.ifCond .ne 48, 3) := by decide +kernel
theorem dX8_run_34 : decode cX8_run 34 = .ok (.aload_n 0, 1) := by decide +kernel
theorem dX8_run_35 : decode cX8_run 35 = .ok (.aload_n 0, 1) := by decide +kernel
theorem dX8_run_36 : decode cX8_run 36 = .ok (.aload_n 1, 1) := by decide +kernel
theorem dX8_run_37 : decode cX8_run 37 = .ok (.iload_n 2, 1) := by decide +kernel
theorem dX8_run_38 : decode cX8_run 38 = .ok (.invokevirtual 33, 3) := by decide +kernel
theorem dX8_run_41 : decode cX8_run 41 = .ok (.aload_n 1, 1) := by decide +kernel
theorem dX8_run_42 : decode cX8_run 42 = .ok (.iload_n 2, 1) := by decide +kernel
theorem dX8_run_43 : decode cX8_run 43 = .ok (.invokevirtual 37, 3) := by decide +kernel
theorem dX8_run_46 : decode cX8_run 46 = .ok (.invokevirtual 40, 3) := by decide +kernel
theorem dX8_run_49 : decode cX8_run 49 = .ok (.putfield 22, 3) := by decide +kernel
theorem dX8_run_52 : decode cX8_run 52 = .ok (.aload_n 0, 1) := by decide +kernel
theorem dX8_run_53 : decode cX8_run 53 = .ok (.getfield 22, 3) := by decide +kernel
theorem dX8_run_56 : decode cX8_run 56 = .ok (.ifCond .ne 12, 3) := by decide +kernel
theorem dX8_run_59 : decode cX8_run 59 = .ok (.aload_n 0, 1) := by decide +kernel
theorem dX8_run_60 : decode cX8_run 60 = .ok (.aload_n 1, 1) := by decide +kernel
theorem dX8_run_61 : decode cX8_run 61 = .ok (.iload_n 2, 1) := by decide +kernel
theorem dX8_run_62 : decode cX8_run 62 = .ok (.invokevirtual 44, 3) := by decide +kernel
theorem dX8_run_65 : decode cX8_run 65 = .ok (.goto 8, 3) := by decide +kernel
theorem dX8_run_68 : decode cX8_run 68 = .ok (.aload_n 0, 1) := by decide +kernel
theorem dX8_run_69 : decode cX8_run 69 = .ok (.iload_n 2, 1) := by decide +kernel
theorem dX8_run_70 : decode cX8_run 70 = .ok (.putfield 18, 3) := by decide +kernel
theorem dX8_run_73 : decode cX8_run 73 = .ok (.iinc 2 1, 3) := by decide +kernel
theorem dX8_run_76 : decode cX8_run 76 = .ok (.goto (-57), 3) := by decide +kernel
theorem dX8_run_79 : decode cX8_run 79 = .ok (.return_, 1) := by decide +kernel
