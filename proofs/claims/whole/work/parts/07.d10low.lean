/-! decode rows, out of the printed names -/
theorem dX2_get_0 : decode cX2_get 0 = .ok (.iload_n 1, 1) := by decide +kernel
theorem dX2_get_1 : decode cX2_get 1 = .ok (.ifCond .lt 29, 3) := by decide +kernel
theorem dX2_get_4 : decode cX2_get 4 = .ok (.iload_n 1, 1) := by decide +kernel
theorem dX2_get_5 : decode cX2_get 5 = .ok (.aload_n 0, 1) := by decide +kernel
theorem dX2_get_6 : decode cX2_get 6 = .ok (.getfield 15, 3) := by decide +kernel
theorem dX2_get_9 : decode cX2_get 9 = .ok (.if_icmp .ge 21, 3) := by decide +kernel
theorem dX2_get_12 : decode cX2_get 12 = .ok (.iload_n 1, 1) := by decide +kernel
theorem dX2_get_13 : decode cX2_get 13 = .ok (.aload_n 0, 1) := by decide +kernel
theorem dX2_get_14 : decode cX2_get 14 = .ok (.getfield 9, 3) := by decide +kernel
theorem dX2_get_17 : decode cX2_get 17 = .ok (.arraylength, 1) := by decide +kernel
theorem dX2_get_18 : decode cX2_get 18 = .ok (.if_icmp .ge 12, 3) := by decide +kernel
theorem dX2_get_21 : decode cX2_get 21 = .ok (.aload_n 0, 1) := by decide +kernel
theorem dX2_get_22 : decode cX2_get 22 = .ok (.getfield 9, 3) := by decide +kernel
theorem dX2_get_25 : decode cX2_get 25 = .ok (.iload_n 1, 1) := by decide +kernel
theorem dX2_get_26 : decode cX2_get 26 = .ok (.iaload, 1) := by decide +kernel
theorem dX2_get_27 : decode cX2_get 27 = .ok (.goto 4, 3) := by decide +kernel
theorem dX2_get_30 : decode cX2_get 30 = .ok (.iconst 0, 1) := by decide +kernel
theorem dX2_get_31 : decode cX2_get 31 = .ok (.ireturn, 1) := by decide +kernel
theorem dX0_note_0 : decode cX0_note 0 = .ok (.iload_n 1, 1) := by decide +kernel
theorem dX0_note_1 : decode cX0_note 1 = .ok (.ifCond .lt 51, 3) := by decide +kernel
theorem dX0_note_4 : decode cX0_note 4 = .ok (.iload_n 1, 1) := by decide +kernel
theorem dX0_note_5 : decode cX0_note 5 = .ok (.bipush 16, 2) := by decide +kernel
theorem dX0_note_7 : decode cX0_note 7 = .ok (.if_icmp .ge 45, 3) := by decide +kernel
theorem dX0_note_10 : decode cX0_note 10 = .ok (.iload_n 2, 1) := by decide +kernel
theorem dX0_note_11 : decode cX0_note 11 = .ok (.ifCond .lt 41, 3) := by decide +kernel
theorem dX0_note_14 : decode cX0_note 14 = .ok (.iload_n 2, 1) := by decide +kernel
theorem dX0_note_15 : decode cX0_note 15 = .ok (.aload_n 0, 1) := by decide +kernel
theorem dX0_note_16 : decode cX0_note 16 = .ok (.getfield 18, 3) := by decide +kernel
theorem dX0_note_19 : decode cX0_note 19 = .ok (.arraylength, 1) := by decide +kernel
theorem dX0_note_20 : decode cX0_note 20 = .ok (.if_icmp .ge 32, 3) := by decide +kernel
theorem dX0_note_23 : decode cX0_note 23 = .ok (.aload_n 0, 1) := by decide +kernel
theorem dX0_note_24 : decode cX0_note 24 = .ok (.getfield 18, 3) := by decide +kernel
theorem dX0_note_27 : decode cX0_note 27 = .ok (.iload_n 2, 1) := by decide +kernel
theorem dX0_note_28 : decode cX0_note 28 = .ok (.aload_n 0, 1) := by decide +kernel
theorem dX0_note_29 : decode cX0_note 29 = .ok (.getfield 15, 3) := by decide +kernel
theorem dX0_note_32 : decode cX0_note 32 = .ok (.iload_n 1, 1) := by decide +kernel
theorem dX0_note_33 : decode cX0_note 33 = .ok (.iaload, 1) := by decide +kernel
theorem dX0_note_34 : decode cX0_note 34 = .ok (.iastore, 1) := by decide +kernel
theorem dX0_note_35 : decode cX0_note 35 = .ok (.aload_n 0, 1) := by decide +kernel
theorem dX0_note_36 : decode cX0_note 36 = .ok (.getfield 15, 3) := by decide +kernel
theorem dX0_note_39 : decode cX0_note 39 = .ok (.iload_n 1, 1) := by decide +kernel
theorem dX0_note_40 : decode cX0_note 40 = .ok (.iload_n 2, 1) := by decide +kernel
theorem dX0_note_41 : decode cX0_note 41 = .ok (.iastore, 1) := by decide +kernel
theorem dX0_note_42 : decode cX0_note 42 = .ok (.aload_n 0, 1) := by decide +kernel
theorem dX0_note_43 : decode cX0_note 43 = .ok (.getfield 9, 3) := by decide +kernel
theorem dX0_note_46 : decode cX0_note 46 = .ok (.iload_n 1, 1) := by decide +kernel
theorem dX0_note_47 : decode cX0_note 47 = .ok (.dup2, 1) := by decide +kernel
theorem dX0_note_48 : decode cX0_note 48 = .ok (.iaload, 1) := by decide +kernel
theorem dX0_note_49 : decode cX0_note 49 = .ok (.iconst 1, 1) := by decide +kernel
theorem dX0_note_50 : decode cX0_note 50 = .ok (.iadd, 1) := by decide +kernel
theorem dX0_note_51 : decode cX0_note 51 = .ok (.iastore, 1) := by decide +kernel
theorem dX0_note_52 : decode cX0_note 52 = .ok (.return_, 1) := by decide +kernel
theorem dX0_read_0 : decode cX0_read 0 = .ok (.iconst 0, 1) := by decide +kernel
theorem dX0_read_1 : decode cX0_read 1 = .ok (.istore_n 2, 1) := by decide +kernel
theorem dX0_read_2 : decode cX0_read 2 = .ok (.iload_n 2, 1) := by decide +kernel
theorem dX0_read_3 : decode cX0_read 3 = .ok (.bipush 16, 2) := by decide +kernel
theorem dX0_read_5 : decode cX0_read 5 = .ok (.if_icmp .ge 23, 3) := by decide +kernel
theorem dX0_read_8 : decode cX0_read 8 = .ok (.aload_n 0, 1) := by decide +kernel
theorem dX0_read_9 : decode cX0_read 9 = .ok (.getfield 9, 3) := by decide +kernel
theorem dX0_read_12 : decode cX0_read 12 = .ok (.iload_n 2, 1) := by decide +kernel
theorem dX0_read_13 : decode cX0_read 13 = .ok (.iconst 0, 1) := by decide +kernel
theorem dX0_read_14 : decode cX0_read 14 = .ok (.iastore, 1) := by decide +kernel
theorem dX0_read_15 : decode cX0_read 15 = .ok (.aload_n 0, 1) := by decide +kernel
theorem dX0_read_16 : decode cX0_read 16 = .ok (.getfield 15, 3) := by decide +kernel
theorem dX0_read_19 : decode cX0_read 19 = .ok (.iload_n 2, 1) := by decide +kernel
theorem dX0_read_20 : decode cX0_read 20 = .ok (.iconst (-1), 1) := by decide +kernel
theorem dX0_read_21 : decode cX0_read 21 = .ok (.iastore, 1) := by decide +kernel
theorem dX0_read_22 : decode cX0_read 22 = .ok (.iinc 2 1, 3) := by decide +kernel
theorem dX0_read_25 : decode cX0_read 25 = .ok (.goto (-23), 3) := by decide +kernel
theorem dX0_read_28 : decode cX0_read 28 = .ok (.iconst 0, 1) := by decide +kernel
theorem dX0_read_29 : decode cX0_read 29 = .ok (.istore_n 2, 1) := by decide +kernel
theorem dX0_read_30 : decode cX0_read 30 = .ok (.iload_n 2, 1) := by decide +kernel
theorem dX0_read_31 : decode cX0_read 31 = .ok (.iconst 1, 1) := by decide +kernel
theorem dX0_read_32 : decode cX0_read 32 = .ok (.iadd, 1) := by decide +kernel
theorem dX0_read_33 : decode cX0_read 33 = .ok (.aload_n 1, 1) := by decide +kernel
theorem dX0_read_34 : decode cX0_read 34 = .ok (.getfield 21, 3) := by decide +kernel
theorem dX0_read_37 : decode cX0_read 37 = .ok (.if_icmp .ge 29, 3) := by decide +kernel
theorem dX0_read_40 : decode cX0_read 40 = .ok (.aload_n 0, 1) := by decide +kernel
theorem dX0_read_41 : decode cX0_read 41 = .ok (.iconst 4, 1) := by decide +kernel
theorem dX0_read_42 : decode cX0_read 42 = .ok (.aload_n 1, 1) := by decide +kernel
theorem dX0_read_43 : decode cX0_read 43 = .ok (.iload_n 2, 1) := by decide +kernel
theorem dX0_read_44 : decode cX0_read 44 = .ok (.invokevirtual 27, 3) := by decide +kernel
theorem dX0_read_47 : decode cX0_read 47 = .ok (.imul, 1) := by decide +kernel
theorem dX0_read_48 : decode cX0_read 48 = .ok (.aload_n 1, 1) := by decide +kernel
theorem dX0_read_49 : decode cX0_read 49 = .ok (.iload_n 2, 1) := by decide +kernel
theorem dX0_read_50 : decode cX0_read 50 = .ok (.iconst 1, 1) := by decide +kernel
theorem dX0_read_51 : decode cX0_read 51 = .ok (.iadd, 1) := by decide +kernel
theorem dX0_read_52 : decode cX0_read 52 = .ok (.invokevirtual 27, 3) := by decide +kernel
theorem dX0_read_55 : decode cX0_read 55 = .ok (.iadd, 1) := by decide +kernel
theorem dX0_read_56 : decode cX0_read 56 = .ok (.iload_n 2, 1) := by decide +kernel
theorem dX0_read_57 : decode cX0_read 57 = .ok (.invokevirtual 31, 3) := by decide +kernel
theorem dX0_read_60 : decode cX0_read 60 = .ok (.iinc 2 1, 3) := by decide +kernel
theorem dX0_read_63 : decode cX0_read 63 = .ok (.goto (-33), 3) := by decide +kernel
theorem dX0_read_66 : decode cX0_read 66 = .ok (.return_, 1) := by decide +kernel
theorem dX0_times_0 : decode cX0_times 0 = .ok (.iload_n 1, 1) := by decide +kernel
theorem dX0_times_1 : decode cX0_times 1 = .ok (.ifCond .lt 21, 3) := by decide +kernel
theorem dX0_times_4 : decode cX0_times 4 = .ok (.iload_n 1, 1) := by decide +kernel
theorem dX0_times_5 : decode cX0_times 5 = .ok (.aload_n 0, 1) := by decide +kernel
theorem dX0_times_6 : decode cX0_times 6 = .ok (.getfield 9, 3) := by decide +kernel
theorem dX0_times_9 : decode cX0_times 9 = .ok (.arraylength, 1) := by decide +kernel
theorem dX0_times_10 : decode cX0_times 10 = .ok (.if_icmp .ge 12, 3) := by decide +kernel
theorem dX0_times_13 : decode cX0_times 13 = .ok (.aload_n 0, 1) := by decide +kernel
theorem dX0_times_14 : decode cX0_times 14 = .ok (.getfield 9, 3) := by decide +kernel
theorem dX0_times_17 : decode cX0_times 17 = .ok (.iload_n 1, 1) := by decide +kernel
theorem dX0_times_18 : decode cX0_times 18 = .ok (.iaload, 1) := by decide +kernel
theorem dX0_times_19 : decode cX0_times 19 = .ok (.goto 4, 3) := by decide +kernel
theorem dX0_times_22 : decode cX0_times 22 = .ok (.iconst 0, 1) := by decide +kernel
theorem dX0_times_23 : decode cX0_times 23 = .ok (.ireturn, 1) := by decide +kernel
theorem dX0_lastPlace_0 : decode cX0_lastPlace 0 = .ok (.iload_n 1, 1) := by decide +kernel
theorem dX0_lastPlace_1 : decode cX0_lastPlace 1 = .ok (.ifCond .lt 21, 3) := by decide +kernel
theorem dX0_lastPlace_4 : decode cX0_lastPlace 4 = .ok (.iload_n 1, 1) := by decide +kernel
theorem dX0_lastPlace_5 : decode cX0_lastPlace 5 = .ok (.aload_n 0, 1) := by decide +kernel
theorem dX0_lastPlace_6 : decode cX0_lastPlace 6 = .ok (.getfield 15, 3) := by decide +kernel
theorem dX0_lastPlace_9 : decode cX0_lastPlace 9 = .ok (.arraylength, 1) := by decide +kernel
theorem dX0_lastPlace_10 : decode cX0_lastPlace 10 = .ok (.if_icmp .ge 12, 3) := by decide +kernel
theorem dX0_lastPlace_13 : decode cX0_lastPlace 13 = .ok (.aload_n 0, 1) := by decide +kernel
theorem dX0_lastPlace_14 : decode cX0_lastPlace 14 = .ok (.getfield 15, 3) := by decide +kernel
theorem dX0_lastPlace_17 : decode cX0_lastPlace 17 = .ok (.iload_n 1, 1) := by decide +kernel
theorem dX0_lastPlace_18 : decode cX0_lastPlace 18 = .ok (.iaload, 1) := by decide +kernel
theorem dX0_lastPlace_19 : decode cX0_lastPlace 19 = .ok (.goto 4, 3) := by decide +kernel
theorem dX0_lastPlace_22 : decode cX0_lastPlace 22 = .ok (.iconst (-1), 1) := by decide +kernel
theorem dX0_lastPlace_23 : decode cX0_lastPlace 23 = .ok (.ireturn, 1) := by decide +kernel
theorem dX0_earlierPlace_0 : decode cX0_earlierPlace 0 = .ok (.iload_n 1, 1) := by decide +kernel
theorem dX0_earlierPlace_1 : decode cX0_earlierPlace 1 = .ok (.ifCond .lt 21, 3) := by decide +kernel
theorem dX0_earlierPlace_4 : decode cX0_earlierPlace 4 = .ok (.iload_n 1, 1) := by decide +kernel
theorem dX0_earlierPlace_5 : decode cX0_earlierPlace 5 = .ok (.aload_n 0, 1) := by decide +kernel
theorem dX0_earlierPlace_6 : decode cX0_earlierPlace 6 = .ok (.getfield 18, 3) := by decide +kernel
theorem dX0_earlierPlace_9 : decode cX0_earlierPlace 9 = .ok (.arraylength, 1) := by decide +kernel
theorem dX0_earlierPlace_10 : decode cX0_earlierPlace 10 = .ok (.if_icmp .ge 12, 3) := by decide +kernel
theorem dX0_earlierPlace_13 : decode cX0_earlierPlace 13 = .ok (.aload_n 0, 1) := by decide +kernel
theorem dX0_earlierPlace_14 : decode cX0_earlierPlace 14 = .ok (.getfield 18, 3) := by decide +kernel
theorem dX0_earlierPlace_17 : decode cX0_earlierPlace 17 = .ok (.iload_n 1, 1) := by decide +kernel
theorem dX0_earlierPlace_18 : decode cX0_earlierPlace 18 = .ok (.iaload, 1) := by decide +kernel
theorem dX0_earlierPlace_19 : decode cX0_earlierPlace 19 = .ok (.goto 4, 3) := by decide +kernel
theorem dX0_earlierPlace_22 : decode cX0_earlierPlace 22 = .ok (.iconst (-1), 1) := by decide +kernel
theorem dX0_earlierPlace_23 : decode cX0_earlierPlace 23 = .ok (.ireturn, 1) := by decide +kernel
theorem dX0_commonest_0 : decode cX0_commonest 0 = .ok (.iconst 0, 1) := by decide +kernel
theorem dX0_commonest_1 : decode cX0_commonest 1 = .ok (.istore_n 1, 1) := by decide +kernel
theorem dX0_commonest_2 : decode cX0_commonest 2 = .ok (.iconst 1, 1) := by decide +kernel
theorem dX0_commonest_3 : decode cX0_commonest 3 = .ok (.istore_n 2, 1) := by decide +kernel
theorem dX0_commonest_4 : decode cX0_commonest 4 = .ok (.iload_n 2, 1) := by decide +kernel
theorem dX0_commonest_5 : decode cX0_commonest 5 = .ok (.bipush 16, 2) := by decide +kernel
theorem dX0_commonest_7 : decode cX0_commonest 7 = .ok (.if_icmp .ge 26, 3) := by decide +kernel
theorem dX0_commonest_10 : decode cX0_commonest 10 = .ok (.aload_n 0, 1) := by decide +kernel
theorem dX0_commonest_11 : decode cX0_commonest 11 = .ok (.getfield 9, 3) := by decide +kernel
theorem dX0_commonest_14 : decode cX0_commonest 14 = .ok (.iload_n 2, 1) := by decide +kernel
theorem dX0_commonest_15 : decode cX0_commonest 15 = .ok (.iaload, 1) := by decide +kernel
theorem dX0_commonest_16 : decode cX0_commonest 16 = .ok (.aload_n 0, 1) := by decide +kernel
theorem dX0_commonest_17 : decode cX0_commonest 17 = .ok (.getfield 9, 3) := by decide +kernel
theorem dX0_commonest_20 : decode cX0_commonest 20 = .ok (.iload_n 1, 1) := by decide +kernel
theorem dX0_commonest_21 : decode cX0_commonest 21 = .ok (.iaload, 1) := by decide +kernel
theorem dX0_commonest_22 : decode cX0_commonest 22 = .ok (.if_icmp .le 5, 3) := by decide +kernel
theorem dX0_commonest_25 : decode cX0_commonest 25 = .ok (.iload_n 2, 1) := by decide +kernel
theorem dX0_commonest_26 : decode cX0_commonest 26 = .ok (.istore_n 1, 1) := by decide +kernel
theorem dX0_commonest_27 : decode cX0_commonest 27 = .ok (.iinc 2 1, 3) := by decide +kernel
theorem dX0_commonest_30 : decode cX0_commonest 30 = .ok (.goto (-26), 3) := by decide +kernel
theorem dX0_commonest_33 : decode cX0_commonest 33 = .ok (.iload_n 1, 1) := by decide +kernel
theorem dX0_commonest_34 : decode cX0_commonest 34 = .ok (.ireturn, 1) := by decide +kernel
theorem dX2_copyFrom_0 : decode cX2_copyFrom 0 = .ok (.iconst 0, 1) := by decide +kernel
theorem dX2_copyFrom_1 : decode cX2_copyFrom 1 = .ok (.istore_n 2, 1) := by decide +kernel
theorem dX2_copyFrom_2 : decode cX2_copyFrom 2 = .ok (.iload_n 2, 1) := by decide +kernel
theorem dX2_copyFrom_3 : decode cX2_copyFrom 3 = .ok (.aload_n 0, 1) := by decide +kernel
theorem dX2_copyFrom_4 : decode cX2_copyFrom 4 = .ok (.getfield 9, 3) := by decide +kernel
theorem dX2_copyFrom_7 : decode cX2_copyFrom 7 = .ok (.arraylength, 1) := by decide +kernel
theorem dX2_copyFrom_8 : decode cX2_copyFrom 8 = .ok (.if_icmp .ge 30, 3) := by decide +kernel
theorem dX2_copyFrom_11 : decode cX2_copyFrom 11 = .ok (.iload_n 2, 1) := by decide +kernel
theorem dX2_copyFrom_12 : decode cX2_copyFrom 12 = .ok (.aload_n 1, 1) := by decide +kernel
theorem dX2_copyFrom_13 : decode cX2_copyFrom 13 = .ok (.getfield 9, 3) := by decide +kernel
theorem dX2_copyFrom_16 : decode cX2_copyFrom 16 = .ok (.arraylength, 1) := by decide +kernel
theorem dX2_copyFrom_17 : decode cX2_copyFrom 17 = .ok (.if_icmp .ge 21, 3) := by decide +kernel
theorem dX2_copyFrom_20 : decode cX2_copyFrom 20 = .ok (.aload_n 0, 1) := by decide +kernel
theorem dX2_copyFrom_21 : decode cX2_copyFrom 21 = .ok (.getfield 9, 3) := by decide +kernel
theorem dX2_copyFrom_24 : decode cX2_copyFrom 24 = .ok (.iload_n 2, 1) := by decide +kernel
theorem dX2_copyFrom_25 : decode cX2_copyFrom 25 = .ok (.aload_n 1, 1) := by decide +kernel
theorem dX2_copyFrom_26 : decode cX2_copyFrom 26 = .ok (.getfield 9, 3) := by decide +kernel
theorem dX2_copyFrom_29 : decode cX2_copyFrom 29 = .ok (.iload_n 2, 1) := by decide +kernel
theorem dX2_copyFrom_30 : decode cX2_copyFrom 30 = .ok (.iaload, 1) := by decide +kernel
theorem dX2_copyFrom_31 : decode cX2_copyFrom 31 = .ok (.iastore, 1) := by decide +kernel
theorem dX2_copyFrom_32 : decode cX2_copyFrom 32 = .ok (.iinc 2 1, 3) := by decide +kernel
theorem dX2_copyFrom_35 : decode cX2_copyFrom 35 = .ok (.goto (-33), 3) := by decide +kernel
theorem dX2_copyFrom_38 : decode cX2_copyFrom 38 = .ok (.aload_n 0, 1) := by decide +kernel
theorem dX2_copyFrom_39 : decode cX2_copyFrom 39 = .ok (.aload_n 1, 1) := by decide +kernel
theorem dX2_copyFrom_40 : decode cX2_copyFrom 40 = .ok (.getfield 15, 3) := by decide +kernel
theorem dX2_copyFrom_43 : decode cX2_copyFrom 43 = .ok (.putfield 15, 3) := by decide +kernel
theorem dX2_copyFrom_46 : decode cX2_copyFrom 46 = .ok (.return_, 1) := by decide +kernel
theorem dX5_distance_0 : decode cX5_distance 0 = .ok (.iload_n 1, 1) := by decide +kernel
theorem dX5_distance_1 : decode cX5_distance 1 = .ok (.ifCond .lt 21, 3) := by decide +kernel
theorem dX5_distance_4 : decode cX5_distance 4 = .ok (.iload_n 1, 1) := by decide +kernel
theorem dX5_distance_5 : decode cX5_distance 5 = .ok (.aload_n 0, 1) := by decide +kernel
theorem dX5_distance_6 : decode cX5_distance 6 = .ok (.getfield 9, 3) := by decide +kernel
theorem dX5_distance_9 : decode cX5_distance 9 = .ok (.arraylength, 1) := by decide +kernel
theorem dX5_distance_10 : decode cX5_distance 10 = .ok (.if_icmp .ge 12, 3) := by decide +kernel
theorem dX5_distance_13 : decode cX5_distance 13 = .ok (.aload_n 0, 1) := by decide +kernel
theorem dX5_distance_14 : decode cX5_distance 14 = .ok (.getfield 9, 3) := by decide +kernel
theorem dX5_distance_17 : decode cX5_distance 17 = .ok (.iload_n 1, 1) := by decide +kernel
theorem dX5_distance_18 : decode cX5_distance 18 = .ok (.iaload, 1) := by decide +kernel
theorem dX5_distance_19 : decode cX5_distance 19 = .ok (.goto 4, 3) := by decide +kernel
theorem dX5_distance_22 : decode cX5_distance 22 = .ok (.iconst 0, 1) := by decide +kernel
theorem dX5_distance_23 : decode cX5_distance 23 = .ok (.ireturn, 1) := by decide +kernel
theorem dX5_value_0 : decode cX5_value 0 = .ok (.iload_n 1, 1) := by decide +kernel
theorem dX5_value_1 : decode cX5_value 1 = .ok (.ifCond .lt 21, 3) := by decide +kernel
theorem dX5_value_4 : decode cX5_value 4 = .ok (.iload_n 1, 1) := by decide +kernel
theorem dX5_value_5 : decode cX5_value 5 = .ok (.aload_n 0, 1) := by decide +kernel
theorem dX5_value_6 : decode cX5_value 6 = .ok (.getfield 15, 3) := by decide +kernel
theorem dX5_value_9 : decode cX5_value 9 = .ok (.arraylength, 1) := by decide +kernel
theorem dX5_value_10 : decode cX5_value 10 = .ok (.if_icmp .ge 12, 3) := by decide +kernel
theorem dX5_value_13 : decode cX5_value 13 = .ok (.aload_n 0, 1) := by decide +kernel
theorem dX5_value_14 : decode cX5_value 14 = .ok (.getfield 15, 3) := by decide +kernel
theorem dX5_value_17 : decode cX5_value 17 = .ok (.iload_n 1, 1) := by decide +kernel
theorem dX5_value_18 : decode cX5_value 18 = .ok (.iaload, 1) := by decide +kernel
theorem dX5_value_19 : decode cX5_value 19 = .ok (.goto 4, 3) := by decide +kernel
theorem dX5_value_22 : decode cX5_value 22 = .ok (.iconst 0, 1) := by decide +kernel
theorem dX5_value_23 : decode cX5_value 23 = .ok (.ireturn, 1) := by decide +kernel
theorem dX5_copyFrom_0 : decode cX5_copyFrom 0 = .ok (.iconst 0, 1) := by decide +kernel
theorem dX5_copyFrom_1 : decode cX5_copyFrom 1 = .ok (.istore_n 2, 1) := by decide +kernel
theorem dX5_copyFrom_2 : decode cX5_copyFrom 2 = .ok (.iload_n 2, 1) := by decide +kernel
theorem dX5_copyFrom_3 : decode cX5_copyFrom 3 = .ok (.aload_n 1, 1) := by decide +kernel
theorem dX5_copyFrom_4 : decode cX5_copyFrom 4 = .ok (.getfield 18, 3) := by decide +kernel
theorem dX5_copyFrom_7 : decode cX5_copyFrom 7 = .ok (.if_icmp .ge 49, 3) := by decide +kernel
theorem dX5_copyFrom_10 : decode cX5_copyFrom 10 = .ok (.iload_n 2, 1) := by decide +kernel
theorem dX5_copyFrom_11 : decode cX5_copyFrom 11 = .ok (.aload_n 0, 1) := by decide +kernel
theorem dX5_copyFrom_12 : decode cX5_copyFrom 12 = .ok (.getfield 9, 3) := by decide +kernel
theorem dX5_copyFrom_15 : decode cX5_copyFrom 15 = .ok (.arraylength, 1) := by decide +kernel
theorem dX5_copyFrom_16 : decode cX5_copyFrom 16 = .ok (.if_icmp .ge 34, 3) := by decide +kernel
theorem dX5_copyFrom_19 : decode cX5_copyFrom 19 = .ok (.iload_n 2, 1) := by decide +kernel
theorem dX5_copyFrom_20 : decode cX5_copyFrom 20 = .ok (.aload_n 0, 1) := by decide +kernel
theorem dX5_copyFrom_21 : decode cX5_copyFrom 21 = .ok (.getfield 15, 3) := by decide +kernel
theorem dX5_copyFrom_24 : decode cX5_copyFrom 24 = .ok (.arraylength, 1) := by decide +kernel
theorem dX5_copyFrom_25 : decode cX5_copyFrom 25 = .ok (.if_icmp .ge 25, 3) := by decide +kernel
theorem dX5_copyFrom_28 : decode cX5_copyFrom 28 = .ok (.aload_n 0, 1) := by decide +kernel
theorem dX5_copyFrom_29 : decode cX5_copyFrom 29 = .ok (.getfield 9, 3) := by decide +kernel
theorem dX5_copyFrom_32 : decode cX5_copyFrom 32 = .ok (.iload_n 2, 1) := by decide +kernel
theorem dX5_copyFrom_33 : decode cX5_copyFrom 33 = .ok (.aload_n 1, 1) := by decide +kernel
theorem dX5_copyFrom_34 : decode cX5_copyFrom 34 = .ok (.iload_n 2, 1) := by decide +kernel
theorem dX5_copyFrom_35 : decode cX5_copyFrom 35 = .ok (.invokevirtual 22, 3) := by decide +kernel
theorem dX5_copyFrom_38 : decode cX5_copyFrom 38 = .ok (.iastore, 1) := by decide +kernel
theorem dX5_copyFrom_39 : decode cX5_copyFrom 39 = .ok (.aload_n 0, 1) := by decide +kernel
theorem dX5_copyFrom_40 : decode cX5_copyFrom 40 = .ok (.getfield 15, 3) := by decide +kernel
theorem dX5_copyFrom_43 : decode cX5_copyFrom 43 = .ok (.iload_n 2, 1) := by decide +kernel
theorem dX5_copyFrom_44 : decode cX5_copyFrom 44 = .ok (.aload_n 1, 1) := by decide +kernel
theorem dX5_copyFrom_45 : decode cX5_copyFrom 45 = .ok (.iload_n 2, 1) := by decide +kernel
theorem dX5_copyFrom_46 : decode cX5_copyFrom 46 = .ok (.invokevirtual 26, 3) := by decide +kernel
theorem dX5_copyFrom_49 : decode cX5_copyFrom 49 = .ok (.iastore, 1) := by decide +kernel
theorem dX5_copyFrom_50 : decode cX5_copyFrom 50 = .ok (.iinc 2 1, 3) := by decide +kernel
theorem dX5_copyFrom_53 : decode cX5_copyFrom 53 = .ok (.goto (-51), 3) := by decide +kernel
theorem dX5_copyFrom_56 : decode cX5_copyFrom 56 = .ok (.aload_n 0, 1) := by decide +kernel
theorem dX5_copyFrom_57 : decode cX5_copyFrom 57 = .ok (.aload_n 1, 1) := by decide +kernel
theorem dX5_copyFrom_58 : decode cX5_copyFrom 58 = .ok (.getfield 18, 3) := by decide +kernel
theorem dX5_copyFrom_61 : decode cX5_copyFrom 61 = .ok (.putfield 18, 3) := by decide +kernel
theorem dX5_copyFrom_64 : decode cX5_copyFrom 64 = .ok (.return_, 1) := by decide +kernel
theorem dX6_copyFrom_0 : decode cX6_copyFrom 0 = .ok (.aload_n 0, 1) := by decide +kernel
theorem dX6_copyFrom_1 : decode cX6_copyFrom 1 = .ok (.aload_n 1, 1) := by decide +kernel
theorem dX6_copyFrom_2 : decode cX6_copyFrom 2 = .ok (.getfield 7, 3) := by decide +kernel
theorem dX6_copyFrom_5 : decode cX6_copyFrom 5 = .ok (.putfield 7, 3) := by decide +kernel
theorem dX6_copyFrom_8 : decode cX6_copyFrom 8 = .ok (.aload_n 0, 1) := by decide +kernel
theorem dX6_copyFrom_9 : decode cX6_copyFrom 9 = .ok (.aload_n 1, 1) := by decide +kernel
theorem dX6_copyFrom_10 : decode cX6_copyFrom 10 = .ok (.getfield 13, 3) := by decide +kernel
theorem dX6_copyFrom_13 : decode cX6_copyFrom 13 = .ok (.putfield 13, 3) := by decide +kernel
theorem dX6_copyFrom_16 : decode cX6_copyFrom 16 = .ok (.aload_n 0, 1) := by decide +kernel
theorem dX6_copyFrom_17 : decode cX6_copyFrom 17 = .ok (.aload_n 1, 1) := by decide +kernel
theorem dX6_copyFrom_18 : decode cX6_copyFrom 18 = .ok (.getfield 16, 3) := by decide +kernel
theorem dX6_copyFrom_21 : decode cX6_copyFrom 21 = .ok (.putfield 16, 3) := by decide +kernel
theorem dX6_copyFrom_24 : decode cX6_copyFrom 24 = .ok (.aload_n 0, 1) := by decide +kernel
theorem dX6_copyFrom_25 : decode cX6_copyFrom 25 = .ok (.aload_n 1, 1) := by decide +kernel
theorem dX6_copyFrom_26 : decode cX6_copyFrom 26 = .ok (.getfield 19, 3) := by decide +kernel
theorem dX6_copyFrom_29 : decode cX6_copyFrom 29 = .ok (.putfield 19, 3) := by decide +kernel
theorem dX6_copyFrom_32 : decode cX6_copyFrom 32 = .ok (.aload_n 0, 1) := by decide +kernel
theorem dX6_copyFrom_33 : decode cX6_copyFrom 33 = .ok (.aload_n 1, 1) := by decide +kernel
theorem dX6_copyFrom_34 : decode cX6_copyFrom 34 = .ok (.getfield 22, 3) := by decide +kernel
theorem dX6_copyFrom_37 : decode cX6_copyFrom 37 = .ok (.putfield 22, 3) := by decide +kernel
theorem dX6_copyFrom_40 : decode cX6_copyFrom 40 = .ok (.return_, 1) := by decide +kernel
theorem dX2_has_0 : decode cX2_has 0 = .ok (.iload_n 1, 1) := by decide +kernel
theorem dX2_has_1 : decode cX2_has 1 = .ok (.ifCond .lt 15, 3) := by decide +kernel
theorem dX2_has_4 : decode cX2_has 4 = .ok (.iload_n 1, 1) := by decide +kernel
theorem dX2_has_5 : decode cX2_has 5 = .ok (.aload_n 0, 1) := by decide +kernel
theorem dX2_has_6 : decode cX2_has 6 = .ok (.getfield 15, 3) := by decide +kernel
theorem dX2_has_9 : decode cX2_has 9 = .ok (.if_icmp .ge 7, 3) := by decide +kernel
theorem dX2_has_12 : decode cX2_has 12 = .ok (.iconst 1, 1) := by decide +kernel
theorem dX2_has_13 : decode cX2_has 13 = .ok (.goto 4, 3) := by decide +kernel
theorem dX2_has_16 : decode cX2_has 16 = .ok (.iconst 0, 1) := by decide +kernel
theorem dX2_has_17 : decode cX2_has 17 = .ok (.ireturn, 1) := by decide +kernel
theorem dX2_put_0 : decode cX2_put 0 = .ok (.aload_n 0, 1) := by decide +kernel
theorem dX2_put_1 : decode cX2_put 1 = .ok (.getfield 15, 3) := by decide +kernel
theorem dX2_put_4 : decode cX2_put 4 = .ok (.ifCond .lt 35, 3) := by decide +kernel
theorem dX2_put_7 : decode cX2_put 7 = .ok (.aload_n 0, 1) := by decide +kernel
theorem dX2_put_8 : decode cX2_put 8 = .ok (.getfield 15, 3) := by decide +kernel
theorem dX2_put_11 : decode cX2_put 11 = .ok (.aload_n 0, 1) := by decide +kernel
theorem dX2_put_12 : decode cX2_put 12 = .ok (.getfield 9, 3) := by decide +kernel
theorem dX2_put_15 : decode cX2_put 15 = .ok (.arraylength, 1) := by decide +kernel
theorem dX2_put_16 : decode cX2_put 16 = .ok (.if_icmp .ge 23, 3) := by decide +kernel
theorem dX2_put_19 : decode cX2_put 19 = .ok (.aload_n 0, 1) := by decide +kernel
theorem dX2_put_20 : decode cX2_put 20 = .ok (.getfield 9, 3) := by decide +kernel
theorem dX2_put_23 : decode cX2_put 23 = .ok (.aload_n 0, 1) := by decide +kernel
theorem dX2_put_24 : decode cX2_put 24 = .ok (.getfield 15, 3) := by decide +kernel
theorem dX2_put_27 : decode cX2_put 27 = .ok (.iload_n 1, 1) := by decide +kernel
theorem dX2_put_28 : decode cX2_put 28 = .ok (.iastore, 1) := by decide +kernel
theorem dX2_put_29 : decode cX2_put 29 = .ok (.aload_n 0, 1) := by decide +kernel
theorem dX2_put_30 : decode cX2_put 30 = .ok (.dup, 1) := by decide +kernel
theorem dX2_put_31 : decode cX2_put 31 = .ok (.getfield 15, 3) := by decide +kernel
theorem dX2_put_34 : decode cX2_put 34 = .ok (.iconst 1, 1) := by decide +kernel
theorem dX2_put_35 : decode cX2_put 35 = .ok (.iadd, 1) := by decide +kernel
theorem dX2_put_36 : decode cX2_put 36 = .ok (.putfield 15, 3) := by decide +kernel
theorem dX2_put_39 : decode cX2_put 39 = .ok (.return_, 1) := by decide +kernel
theorem dX2_replace_0 : decode cX2_replace 0 = .ok (.iload_n 1, 1) := by decide +kernel
theorem dX2_replace_1 : decode cX2_replace 1 = .ok (.ifCond .lt 19, 3) := by decide +kernel
theorem dX2_replace_4 : decode cX2_replace 4 = .ok (.iload_n 1, 1) := by decide +kernel
theorem dX2_replace_5 : decode cX2_replace 5 = .ok (.aload_n 0, 1) := by decide +kernel
theorem dX2_replace_6 : decode cX2_replace 6 = .ok (.getfield 9, 3) := by decide +kernel
theorem dX2_replace_9 : decode cX2_replace 9 = .ok (.arraylength, 1) := by decide +kernel
theorem dX2_replace_10 : decode cX2_replace 10 = .ok (.if_icmp .ge 10, 3) := by decide +kernel
theorem dX2_replace_13 : decode cX2_replace 13 = .ok (.aload_n 0, 1) := by decide +kernel
theorem dX2_replace_14 : decode cX2_replace 14 = .ok (.getfield 9, 3) := by decide +kernel
theorem dX2_replace_17 : decode cX2_replace 17 = .ok (.iload_n 1, 1) := by decide +kernel
theorem dX2_replace_18 : decode cX2_replace 18 = .ok (.iload_n 2, 1) := by decide +kernel
theorem dX2_replace_19 : decode cX2_replace 19 = .ok (.iastore, 1) := by decide +kernel
theorem dX2_replace_20 : decode cX2_replace 20 = .ok (.return_, 1) := by decide +kernel
theorem dX2_clear_0 : decode cX2_clear 0 = .ok (.aload_n 0, 1) := by decide +kernel
theorem dX2_clear_1 : decode cX2_clear 1 = .ok (.iconst 0, 1) := by decide +kernel
theorem dX2_clear_2 : decode cX2_clear 2 = .ok (.putfield 15, 3) := by decide +kernel
theorem dX2_clear_5 : decode cX2_clear 5 = .ok (.return_, 1) := by decide +kernel
theorem dX2_isLike_0 : decode cX2_isLike 0 = .ok (.aload_n 0, 1) := by decide +kernel
theorem dX2_isLike_1 : decode cX2_isLike 1 = .ok (.getfield 15, 3) := by decide +kernel
theorem dX2_isLike_4 : decode cX2_isLike 4 = .ok (.aload_n 1, 1) := by decide +kernel
theorem dX2_isLike_5 : decode cX2_isLike 5 = .ok (.getfield 15, 3) := by decide +kernel
theorem dX2_isLike_8 : decode cX2_isLike 8 = .ok (.if_icmp .eq 5, 3) := by decide +kernel
theorem dX2_isLike_11 : decode cX2_isLike 11 = .ok (.iconst 0, 1) := by decide +kernel
theorem dX2_isLike_12 : decode cX2_isLike 12 = .ok (.ireturn, 1) := by decide +kernel
theorem dX2_isLike_13 : decode cX2_isLike 13 = .ok (.iconst 0, 1) := by decide +kernel
theorem dX2_isLike_14 : decode cX2_isLike 14 = .ok (.istore_n 2, 1) := by decide +kernel
theorem dX2_isLike_15 : decode cX2_isLike 15 = .ok (.iload_n 2, 1) := by decide +kernel
theorem dX2_isLike_16 : decode cX2_isLike 16 = .ok (.aload_n 0, 1) := by decide +kernel
theorem dX2_isLike_17 : decode cX2_isLike 17 = .ok (.getfield 15, 3) := by decide +kernel
theorem dX2_isLike_20 : decode cX2_isLike 20 = .ok (.if_icmp .ge 24, 3) := by decide +kernel
theorem dX2_isLike_23 : decode cX2_isLike 23 = .ok (.aload_n 0, 1) := by decide +kernel
theorem dX2_isLike_24 : decode cX2_isLike 24 = .ok (.iload_n 2, 1) := by decide +kernel
theorem dX2_isLike_25 : decode cX2_isLike 25 = .ok (.invokevirtual 19, 3) := by decide +kernel
theorem dX2_isLike_28 : decode cX2_isLike 28 = .ok (.aload_n 1, 1) := by decide +kernel
theorem dX2_isLike_29 : decode cX2_isLike 29 = .ok (.iload_n 2, 1) := by decide +kernel
theorem dX2_isLike_30 : decode cX2_isLike 30 = .ok (.invokevirtual 19, 3) := by decide +kernel
theorem dX2_isLike_33 : decode cX2_isLike 33 = .ok (.if_icmp .eq 5, 3) := by decide +kernel
theorem dX2_isLike_36 : decode cX2_isLike 36 = .ok (.iconst 0, 1) := by decide +kernel
theorem dX2_isLike_37 : decode cX2_isLike 37 = .ok (.ireturn, 1) := by decide +kernel
theorem dX2_isLike_38 : decode cX2_isLike 38 = .ok (.iinc 2 1, 3) := by decide +kernel
theorem dX2_isLike_41 : decode cX2_isLike 41 = .ok (.goto (-26), 3) := by decide +kernel
theorem dX2_isLike_44 : decode cX2_isLike 44 = .ok (.iconst 1, 1) := by decide +kernel
theorem dX2_isLike_45 : decode cX2_isLike 45 = .ok (.ireturn, 1) := by decide +kernel
theorem dX5_clear_0 : decode cX5_clear 0 = .ok (.aload_n 0, 1) := by decide +kernel
theorem dX5_clear_1 : decode cX5_clear 1 = .ok (.iconst 0, 1) := by decide +kernel
theorem dX5_clear_2 : decode cX5_clear 2 = .ok (.putfield 18, 3) := by decide +kernel
theorem dX5_clear_5 : decode cX5_clear 5 = .ok (.return_, 1) := by decide +kernel
theorem dX5_put_0 : decode cX5_put 0 = .ok (.aload_n 0, 1) := by decide +kernel
theorem dX5_put_1 : decode cX5_put 1 = .ok (.getfield 18, 3) := by decide +kernel
theorem dX5_put_4 : decode cX5_put 4 = .ok (.ifCond .lt 57, 3) := by decide +kernel
theorem dX5_put_7 : decode cX5_put 7 = .ok (.aload_n 0, 1) := by decide +kernel
theorem dX5_put_8 : decode cX5_put 8 = .ok (.getfield 18, 3) := by decide +kernel
theorem dX5_put_11 : decode cX5_put 11 = .ok (.aload_n 0, 1) := by decide +kernel
theorem dX5_put_12 : decode cX5_put 12 = .ok (.getfield 9, 3) := by decide +kernel
theorem dX5_put_15 : decode cX5_put 15 = .ok (.arraylength, 1) := by decide +kernel
theorem dX5_put_16 : decode cX5_put 16 = .ok (.if_icmp .ge 45, 3) := by decide +kernel
theorem dX5_put_19 : decode cX5_put 19 = .ok (.aload_n 0, 1) := by decide +kernel
theorem dX5_put_20 : decode cX5_put 20 = .ok (.getfield 18, 3) := by decide +kernel
theorem dX5_put_23 : decode cX5_put 23 = .ok (.aload_n 0, 1) := by decide +kernel
theorem dX5_put_24 : decode cX5_put 24 = .ok (.getfield 15, 3) := by decide +kernel
theorem dX5_put_27 : decode cX5_put 27 = .ok (.arraylength, 1) := by decide +kernel
theorem dX5_put_28 : decode cX5_put 28 = .ok (.if_icmp .ge 33, 3) := by decide +kernel
theorem dX5_put_31 : decode cX5_put 31 = .ok (.aload_n 0, 1) := by decide +kernel
theorem dX5_put_32 : decode cX5_put 32 = .ok (.getfield 9, 3) := by decide +kernel
theorem dX5_put_35 : decode cX5_put 35 = .ok (.aload_n 0, 1) := by decide +kernel
theorem dX5_put_36 : decode cX5_put 36 = .ok (.getfield 18, 3) := by decide +kernel
theorem dX5_put_39 : decode cX5_put 39 = .ok (.iload_n 1, 1) := by decide +kernel
theorem dX5_put_40 : decode cX5_put 40 = .ok (.iastore, 1) := by decide +kernel
theorem dX5_put_41 : decode cX5_put 41 = .ok (.aload_n 0, 1) := by decide +kernel
theorem dX5_put_42 : decode cX5_put 42 = .ok (.getfield 15, 3) := by decide +kernel
theorem dX5_put_45 : decode cX5_put 45 = .ok (.aload_n 0, 1) := by decide +kernel
theorem dX5_put_46 : decode cX5_put 46 = .ok (.getfield 18, 3) := by decide +kernel
theorem dX5_put_49 : decode cX5_put 49 = .ok (.iload_n 2, 1) := by decide +kernel
theorem dX5_put_50 : decode cX5_put 50 = .ok (.iastore, 1) := by decide +kernel
theorem dX5_put_51 : decode cX5_put 51 = .ok (.aload_n 0, 1) := by decide +kernel
theorem dX5_put_52 : decode cX5_put 52 = .ok (.dup, 1) := by decide +kernel
theorem dX5_put_53 : decode cX5_put 53 = .ok (.getfield 18, 3) := by decide +kernel
theorem dX5_put_56 : decode cX5_put 56 = .ok (.iconst 1, 1) := by decide +kernel
theorem dX5_put_57 : decode cX5_put 57 = .ok (.iadd, 1) := by decide +kernel
theorem dX5_put_58 : decode cX5_put 58 = .ok (.putfield 18, 3) := by decide +kernel
theorem dX5_put_61 : decode cX5_put 61 = .ok (.return_, 1) := by decide +kernel
theorem dX5_has_0 : decode cX5_has 0 = .ok (.iload_n 1, 1) := by decide +kernel
theorem dX5_has_1 : decode cX5_has 1 = .ok (.ifCond .lt 15, 3) := by decide +kernel
theorem dX5_has_4 : decode cX5_has 4 = .ok (.iload_n 1, 1) := by decide +kernel
theorem dX5_has_5 : decode cX5_has 5 = .ok (.aload_n 0, 1) := by decide +kernel
theorem dX5_has_6 : decode cX5_has 6 = .ok (.getfield 18, 3) := by decide +kernel
theorem dX5_has_9 : decode cX5_has 9 = .ok (.if_icmp .ge 7, 3) := by decide +kernel
theorem dX5_has_12 : decode cX5_has 12 = .ok (.iconst 1, 1) := by decide +kernel
theorem dX5_has_13 : decode cX5_has 13 = .ok (.goto 4, 3) := by decide +kernel
theorem dX5_has_16 : decode cX5_has 16 = .ok (.iconst 0, 1) := by decide +kernel
theorem dX5_has_17 : decode cX5_has 17 = .ok (.ireturn, 1) := by decide +kernel
theorem dX5_isFull_0 : decode cX5_isFull 0 = .ok (.aload_n 0, 1) := by decide +kernel
theorem dX5_isFull_1 : decode cX5_isFull 1 = .ok (.getfield 18, 3) := by decide +kernel
theorem dX5_isFull_4 : decode cX5_isFull 4 = .ok (.bipush 40, 2) := by decide +kernel
theorem dX5_isFull_6 : decode cX5_isFull 6 = .ok (.if_icmp .lt 7, 3) := by decide +kernel
theorem dX5_isFull_9 : decode cX5_isFull 9 = .ok (.iconst 1, 1) := by decide +kernel
theorem dX5_isFull_10 : decode cX5_isFull 10 = .ok (.goto 4, 3) := by decide +kernel
theorem dX5_isFull_13 : decode cX5_isFull 13 = .ok (.iconst 0, 1) := by decide +kernel
theorem dX5_isFull_14 : decode cX5_isFull 14 = .ok (.ireturn, 1) := by decide +kernel
theorem dX5_length_0 : decode cX5_length 0 = .ok (.aload_n 0, 1) := by decide +kernel
theorem dX5_length_1 : decode cX5_length 1 = .ok (.iload_n 1, 1) := by decide +kernel
theorem dX5_length_2 : decode cX5_length 2 = .ok (.invokevirtual 22, 3) := by decide +kernel
theorem dX5_length_5 : decode cX5_length 5 = .ok (.ifCond .ne 7, 3) := by decide +kernel
theorem dX5_length_8 : decode cX5_length 8 = .ok (.iconst 1, 1) := by decide +kernel
theorem dX5_length_9 : decode cX5_length 9 = .ok (.goto 8, 3) := by decide +kernel
theorem dX5_length_12 : decode cX5_length 12 = .ok (.aload_n 0, 1) := by decide +kernel
theorem dX5_length_13 : decode cX5_length 13 = .ok (.iload_n 1, 1) := by decide +kernel
theorem dX5_length_14 : decode cX5_length 14 = .ok (.invokevirtual 26, 3) := by decide +kernel
theorem dX5_length_17 : decode cX5_length 17 = .ok (.ireturn, 1) := by decide +kernel
theorem dX5_cost_0 : decode cX5_cost 0 = .ok (.iconst 0, 1) := by decide +kernel
theorem dX5_cost_1 : decode cX5_cost 1 = .ok (.istore_n 2, 1) := by decide +kernel
theorem dX5_cost_2 : decode cX5_cost 2 = .ok (.iconst 0, 1) := by decide +kernel
theorem dX5_cost_3 : decode cX5_cost 3 = .ok (.istore_n 3, 1) := by decide +kernel
theorem dX5_cost_4 : decode cX5_cost 4 = .ok (.iload_n 3, 1) := by decide +kernel
theorem dX5_cost_5 : decode cX5_cost 5 = .ok (.aload_n 0, 1) := by decide +kernel
theorem dX5_cost_6 : decode cX5_cost 6 = .ok (.getfield 18, 3) := by decide +kernel
theorem dX5_cost_9 : decode cX5_cost 9 = .ok (.if_icmp .ge 31, 3) := by decide +kernel
theorem dX5_cost_12 : decode cX5_cost 12 = .ok (.iload_n 2, 1) := by decide +kernel
theorem dX5_cost_13 : decode cX5_cost 13 = .ok (.aload_n 0, 1) := by decide +kernel
theorem dX5_cost_14 : decode cX5_cost 14 = .ok (.iload_n 3, 1) := by decide +kernel
theorem dX5_cost_15 : decode cX5_cost 15 = .ok (.invokevirtual 22, 3) := by decide +kernel
theorem dX5_cost_18 : decode cX5_cost 18 = .ok (.ifCond .ne 10, 3) := by decide +kernel
theorem dX5_cost_21 : decode cX5_cost 21 = .ok (.aload_n 1, 1) := by decide +kernel
theorem dX5_cost_22 : decode cX5_cost 22 = .ok (.getfield 29, 3) := by decide +kernel
theorem dX5_cost_25 : decode cX5_cost 25 = .ok (.goto 7, 3) := by decide +kernel
theorem dX5_cost_28 : decode cX5_cost 28 = .ok (.aload_n 1, 1) := by decide +kernel
theorem dX5_cost_29 : decode cX5_cost 29 = .ok (.getfield 34, 3) := by decide +kernel
theorem dX5_cost_32 : decode cX5_cost 32 = .ok (.iadd, 1) := by decide +kernel
theorem dX5_cost_33 : decode cX5_cost 33 = .ok (.istore_n 2, 1) := by decide +kernel
theorem dX5_cost_34 : decode cX5_cost 34 = .ok (.iinc 3 1, 3) := by decide +kernel
theorem dX5_cost_37 : decode cX5_cost 37 = .ok (.goto (-33), 3) := by decide +kernel
theorem dX5_cost_40 : decode cX5_cost 40 = .ok (.iload_n 2, 1) := by decide +kernel
theorem dX5_cost_41 : decode cX5_cost 41 = .ok (.ireturn, 1) := by decide +kernel
theorem dX5_letters_0 : decode cX5_letters 0 = .ok (.iconst 0, 1) := by decide +kernel
theorem dX5_letters_1 : decode cX5_letters 1 = .ok (.istore_n 1, 1) := by decide +kernel
theorem dX5_letters_2 : decode cX5_letters 2 = .ok (.iconst 0, 1) := by decide +kernel
theorem dX5_letters_3 : decode cX5_letters 3 = .ok (.istore_n 2, 1) := by decide +kernel
theorem dX5_letters_4 : decode cX5_letters 4 = .ok (.iload_n 2, 1) := by decide +kernel
theorem dX5_letters_5 : decode cX5_letters 5 = .ok (.aload_n 0, 1) := by decide +kernel
theorem dX5_letters_6 : decode cX5_letters 6 = .ok (.getfield 18, 3) := by decide +kernel
theorem dX5_letters_9 : decode cX5_letters 9 = .ok (.if_icmp .ge 17, 3) := by decide +kernel
theorem dX5_letters_12 : decode cX5_letters 12 = .ok (.iload_n 1, 1) := by decide +kernel
theorem dX5_letters_13 : decode cX5_letters 13 = .ok (.aload_n 0, 1) := by decide +kernel
theorem dX5_letters_14 : decode cX5_letters 14 = .ok (.iload_n 2, 1) := by decide +kernel
theorem dX5_letters_15 : decode cX5_letters 15 = .ok (.invokevirtual 37, 3) := by decide +kernel
theorem dX5_letters_18 : decode cX5_letters 18 = .ok (.iadd, 1) := by decide +kernel
theorem dX5_letters_19 : decode cX5_letters 19 = .ok (.istore_n 1, 1) := by decide +kernel
theorem dX5_letters_20 : decode cX5_letters 20 = .ok (.iinc 2 1, 3) := by decide +kernel
theorem dX5_letters_23 : decode cX5_letters 23 = .ok (.goto (-19), 3) := by decide +kernel
theorem dX5_letters_26 : decode cX5_letters 26 = .ok (.iload_n 1, 1) := by decide +kernel
theorem dX5_letters_27 : decode cX5_letters 27 = .ok (.ireturn, 1) := by decide +kernel
theorem dX9_codeAt_0 : decode cX9_codeAt 0 = .ok (.iload_n 1, 1) := by decide +kernel
theorem dX9_codeAt_1 : decode cX9_codeAt 1 = .ok (.ifCond .lt 29, 3) := by decide +kernel
theorem dX9_codeAt_4 : decode cX9_codeAt 4 = .ok (.iload_n 1, 1) := by decide +kernel
theorem dX9_codeAt_5 : decode cX9_codeAt 5 = .ok (.aload_n 0, 1) := by decide +kernel
theorem dX9_codeAt_6 : decode cX9_codeAt 6 = .ok (.getfield 15, 3) := by decide +kernel
theorem dX9_codeAt_9 : decode cX9_codeAt 9 = .ok (.if_icmp .ge 21, 3) := by decide +kernel
theorem dX9_codeAt_12 : decode cX9_codeAt 12 = .ok (.iload_n 1, 1) := by decide +kernel
theorem dX9_codeAt_13 : decode cX9_codeAt 13 = .ok (.aload_n 0, 1) := by decide +kernel
theorem dX9_codeAt_14 : decode cX9_codeAt 14 = .ok (.getfield 9, 3) := by decide +kernel
theorem dX9_codeAt_17 : decode cX9_codeAt 17 = .ok (.arraylength, 1) := by decide +kernel
theorem dX9_codeAt_18 : decode cX9_codeAt 18 = .ok (.if_icmp .ge 12, 3) := by decide +kernel
theorem dX9_codeAt_21 : decode cX9_codeAt 21 = .ok (.aload_n 0, 1) := by decide +kernel
theorem dX9_codeAt_22 : decode cX9_codeAt 22 = .ok (.getfield 9, 3) := by decide +kernel
theorem dX9_codeAt_25 : decode cX9_codeAt 25 = .ok (.iload_n 1, 1) := by decide +kernel
theorem dX9_codeAt_26 : decode cX9_codeAt 26 = .ok (.iaload, 1) := by decide +kernel
theorem dX9_codeAt_27 : decode cX9_codeAt 27 = .ok (.goto 4, 3) := by decide +kernel
theorem dX9_codeAt_30 : decode cX9_codeAt 30 = .ok (.iconst 0, 1) := by decide +kernel
theorem dX9_codeAt_31 : decode cX9_codeAt 31 = .ok (.ireturn, 1) := by decide +kernel
theorem dX9_put_0 : decode cX9_put 0 = .ok (.aload_n 0, 1) := by decide +kernel
theorem dX9_put_1 : decode cX9_put 1 = .ok (.getfield 15, 3) := by decide +kernel
theorem dX9_put_4 : decode cX9_put 4 = .ok (.ifCond .lt 35, 3) := by decide +kernel
theorem dX9_put_7 : decode cX9_put 7 = .ok (.aload_n 0, 1) := by decide +kernel
theorem dX9_put_8 : decode cX9_put 8 = .ok (.getfield 15, 3) := by decide +kernel
theorem dX9_put_11 : decode cX9_put 11 = .ok (.aload_n 0, 1) := by decide +kernel
theorem dX9_put_12 : decode cX9_put 12 = .ok (.getfield 9, 3) := by decide +kernel
theorem dX9_put_15 : decode cX9_put 15 = .ok (.arraylength, 1) := by decide +kernel
theorem dX9_put_16 : decode cX9_put 16 = .ok (.if_icmp .ge 23, 3) := by decide +kernel
theorem dX9_put_19 : decode cX9_put 19 = .ok (.aload_n 0, 1) := by decide +kernel
theorem dX9_put_20 : decode cX9_put 20 = .ok (.getfield 9, 3) := by decide +kernel
theorem dX9_put_23 : decode cX9_put 23 = .ok (.aload_n 0, 1) := by decide +kernel
theorem dX9_put_24 : decode cX9_put 24 = .ok (.getfield 15, 3) := by decide +kernel
theorem dX9_put_27 : decode cX9_put 27 = .ok (.iload_n 1, 1) := by decide +kernel
theorem dX9_put_28 : decode cX9_put 28 = .ok (.iastore, 1) := by decide +kernel
theorem dX9_put_29 : decode cX9_put 29 = .ok (.aload_n 0, 1) := by decide +kernel
theorem dX9_put_30 : decode cX9_put 30 = .ok (.dup, 1) := by decide +kernel
theorem dX9_put_31 : decode cX9_put 31 = .ok (.getfield 15, 3) := by decide +kernel
theorem dX9_put_34 : decode cX9_put 34 = .ok (.iconst 1, 1) := by decide +kernel
theorem dX9_put_35 : decode cX9_put 35 = .ok (.iadd, 1) := by decide +kernel
theorem dX9_put_36 : decode cX9_put 36 = .ok (.putfield 15, 3) := by decide +kernel
theorem dX9_put_39 : decode cX9_put 39 = .ok (.return_, 1) := by decide +kernel
theorem dX9_clear_0 : decode cX9_clear 0 = .ok (.aload_n 0, 1) := by decide +kernel
theorem dX9_clear_1 : decode cX9_clear 1 = .ok (.iconst 0, 1) := by decide +kernel
theorem dX9_clear_2 : decode cX9_clear 2 = .ok (.putfield 15, 3) := by decide +kernel
theorem dX9_clear_5 : decode cX9_clear 5 = .ok (.return_, 1) := by decide +kernel
theorem dX9_behindSign_0 : decode cX9_behindSign 0 = .ok (.iload_n 0, 1) := by decide +kernel
theorem dX9_behindSign_1 : decode cX9_behindSign 1 = .ok (.lookupswitch 78 #[(43, 67), (45, 69), (101, 69), (108, 74), (112, 72), (114, 76), (117, 69)], 67) := by decide +kernel
theorem dX9_behindSign_68 : decode cX9_behindSign 68 = .ok (.iconst 1, 1) := by decide +kernel
theorem dX9_behindSign_69 : decode cX9_behindSign 69 = .ok (.ireturn, 1) := by decide +kernel
theorem dX9_behindSign_70 : decode cX9_behindSign 70 = .ok (.bipush 11, 2) := by decide +kernel
theorem dX9_behindSign_72 : decode cX9_behindSign 72 = .ok (.ireturn, 1) := by decide +kernel
theorem dX9_behindSign_73 : decode cX9_behindSign 73 = .ok (.iconst 3, 1) := by decide +kernel
theorem dX9_behindSign_74 : decode cX9_behindSign 74 = .ok (.ireturn, 1) := by decide +kernel
theorem dX9_behindSign_75 : decode cX9_behindSign 75 = .ok (.iconst 4, 1) := by decide +kernel
theorem dX9_behindSign_76 : decode cX9_behindSign 76 = .ok (.ireturn, 1) := by decide +kernel
theorem dX9_behindSign_77 : decode cX9_behindSign 77 = .ok (.iconst 5, 1) := by decide +kernel
theorem dX9_behindSign_78 : decode cX9_behindSign 78 = .ok (.ireturn, 1) := by decide +kernel
theorem dX9_behindSign_79 : decode cX9_behindSign 79 = .ok (.iconst (-1), 1) := by decide +kernel
theorem dX9_behindSign_80 : decode cX9_behindSign 80 = .ok (.ireturn, 1) := by decide +kernel
theorem dX9_isLetterSign_0 : decode cX9_isLetterSign 0 = .ok (.iload_n 0, 1) := by decide +kernel
theorem dX9_isLetterSign_1 : decode cX9_isLetterSign 1 = .ok (.bipush 97, 2) := by decide +kernel
theorem dX9_isLetterSign_3 : decode cX9_isLetterSign 3 = .ok (.if_icmp .lt 13, 3) := by decide +kernel
theorem dX9_isLetterSign_6 : decode cX9_isLetterSign 6 = .ok (.iload_n 0, 1) := by decide +kernel
theorem dX9_isLetterSign_7 : decode cX9_isLetterSign 7 = .ok (.bipush 100, 2) := by decide +kernel
theorem dX9_isLetterSign_9 : decode cX9_isLetterSign 9 = .ok (.if_icmp .gt 7, 3) := by decide +kernel
theorem dX9_isLetterSign_12 : decode cX9_isLetterSign 12 = .ok (.iconst 1, 1) := by decide +kernel
theorem dX9_isLetterSign_13 : decode cX9_isLetterSign 13 = .ok (.goto 4, 3) := by decide +kernel
theorem dX9_isLetterSign_16 : decode cX9_isLetterSign 16 = .ok (.iconst 0, 1) := by decide +kernel
theorem dX9_isLetterSign_17 : decode cX9_isLetterSign 17 = .ok (.ireturn, 1) := by decide +kernel
theorem dX9_behindPart_0 : decode cX9_behindPart 0 = .ok (.iload_n 0, 1) := by decide +kernel
theorem dX9_behindPart_1 : decode cX9_behindPart 1 = .ok (.bipush 59, 2) := by decide +kernel
theorem dX9_behindPart_3 : decode cX9_behindPart 3 = .ok (.if_icmp .ne 7, 3) := by decide +kernel
theorem dX9_behindPart_6 : decode cX9_behindPart 6 = .ok (.iconst 0, 1) := by decide +kernel
theorem dX9_behindPart_7 : decode cX9_behindPart 7 = .ok (.goto 4, 3) := by decide +kernel
theorem dX9_behindPart_10 : decode cX9_behindPart 10 = .ok (.iconst (-1), 1) := by decide +kernel
theorem dX9_behindPart_11 : decode cX9_behindPart 11 = .ok (.ireturn, 1) := by decide +kernel
theorem dX9_isDigit_0 : decode cX9_isDigit 0 = .ok (.iload_n 0, 1) := by decide +kernel
theorem dX9_isDigit_1 : decode cX9_isDigit 1 = .ok (.iload_n 1, 1) := by decide +kernel
theorem dX9_isDigit_2 : decode cX9_isDigit 2 = .ok (.if_icmp .lt 13, 3) := by decide +kernel
theorem dX9_isDigit_5 : decode cX9_isDigit 5 = .ok (.iload_n 0, 1) := by decide +kernel
theorem dX9_isDigit_6 : decode cX9_isDigit 6 = .ok (.bipush 57, 2) := by decide +kernel
theorem dX9_isDigit_8 : decode cX9_isDigit 8 = .ok (.if_icmp .gt 7, 3) := by decide +kernel
theorem dX9_isDigit_11 : decode cX9_isDigit 11 = .ok (.iconst 1, 1) := by decide +kernel
theorem dX9_isDigit_12 : decode cX9_isDigit 12 = .ok (.goto 4, 3) := by decide +kernel
theorem dX9_isDigit_15 : decode cX9_isDigit 15 = .ok (.iconst 0, 1) := by decide +kernel
theorem dX9_isDigit_16 : decode cX9_isDigit 16 = .ok (.ireturn, 1) := by decide +kernel
theorem dX9_behindFirstOfDistance_0 : decode cX9_behindFirstOfDistance 0 = .ok (.iload_n 0, 1) := by decide +kernel
theorem dX9_behindFirstOfDistance_1 : decode cX9_behindFirstOfDistance 1 = .ok (.bipush 49, 2) := by decide +kernel
theorem dX9_behindFirstOfDistance_3 : decode cX9_behindFirstOfDistance 3 = .ok (.invokestatic 27, 3) := by decide +kernel
theorem dX9_behindFirstOfDistance_6 : decode cX9_behindFirstOfDistance 6 = .ok (.ifCond .ne 5, 3) := by decide +kernel
theorem dX9_behindFirstOfDistance_9 : decode cX9_behindFirstOfDistance 9 = .ok (.iconst (-1), 1) := by decide +kernel
theorem dX9_behindFirstOfDistance_10 : decode cX9_behindFirstOfDistance 10 = .ok (.ireturn, 1) := by decide +kernel
theorem dX9_behindFirstOfDistance_11 : decode cX9_behindFirstOfDistance 11 = .ok (.iload_n 0, 1) := by decide +kernel
theorem dX9_behindFirstOfDistance_12 : decode cX9_behindFirstOfDistance 12 = .ok (.bipush 51, 2) := by decide +kernel
theorem dX9_behindFirstOfDistance_14 : decode cX9_behindFirstOfDistance 14 = .ok (.if_icmp .gt 8, 3) := by decide +kernel
theorem dX9_behindFirstOfDistance_17 : decode cX9_behindFirstOfDistance 17 = .ok (.bipush 6, 2) := by decide +kernel
theorem dX9_behindFirstOfDistance_19 : decode cX9_behindFirstOfDistance 19 = .ok (.goto 5, 3) := by decide +kernel
theorem dX9_behindFirstOfDistance_22 : decode cX9_behindFirstOfDistance 22 = .ok (.bipush 7, 2) := by decide +kernel
theorem dX9_behindFirstOfDistance_24 : decode cX9_behindFirstOfDistance 24 = .ok (.ireturn, 1) := by decide +kernel
theorem dX9_behindDistance_0 : decode cX9_behindDistance 0 = .ok (.iload_n 0, 1) := by decide +kernel
theorem dX9_behindDistance_1 : decode cX9_behindDistance 1 = .ok (.bipush 44, 2) := by decide +kernel
theorem dX9_behindDistance_3 : decode cX9_behindDistance 3 = .ok (.if_icmp .ne 8, 3) := by decide +kernel
theorem dX9_behindDistance_6 : decode cX9_behindDistance 6 = .ok (.bipush 8, 2) := by decide +kernel
theorem dX9_behindDistance_8 : decode cX9_behindDistance 8 = .ok (.goto 4, 3) := by decide +kernel
theorem dX9_behindDistance_11 : decode cX9_behindDistance 11 = .ok (.iconst (-1), 1) := by decide +kernel
theorem dX9_behindDistance_12 : decode cX9_behindDistance 12 = .ok (.ireturn, 1) := by decide +kernel
theorem dX9_behindFirstOfLength_0 : decode cX9_behindFirstOfLength 0 = .ok (.iload_n 0, 1) := by decide +kernel
theorem dX9_behindFirstOfLength_1 : decode cX9_behindFirstOfLength 1 = .ok (.bipush 49, 2) := by decide +kernel
theorem dX9_behindFirstOfLength_3 : decode cX9_behindFirstOfLength 3 = .ok (.invokestatic 27, 3) := by decide +kernel
theorem dX9_behindFirstOfLength_6 : decode cX9_behindFirstOfLength 6 = .ok (.ifCond .ne 5, 3) := by decide +kernel
theorem dX9_behindFirstOfLength_9 : decode cX9_behindFirstOfLength 9 = .ok (.iconst (-1), 1) := by decide +kernel
theorem dX9_behindFirstOfLength_10 : decode cX9_behindFirstOfLength 10 = .ok (.ireturn, 1) := by decide +kernel
theorem dX9_behindFirstOfLength_11 : decode cX9_behindFirstOfLength 11 = .ok (.iload_n 0, 1) := by decide +kernel
theorem dX9_behindFirstOfLength_12 : decode cX9_behindFirstOfLength 12 = .ok (.bipush 52, 2) := by decide +kernel
theorem dX9_behindFirstOfLength_14 : decode cX9_behindFirstOfLength 14 = .ok (.if_icmp .ne 6, 3) := by decide +kernel
theorem dX9_behindFirstOfLength_17 : decode cX9_behindFirstOfLength 17 = .ok (.bipush 10, 2) := by decide +kernel
theorem dX9_behindFirstOfLength_19 : decode cX9_behindFirstOfLength 19 = .ok (.ireturn, 1) := by decide +kernel
theorem dX9_behindFirstOfLength_20 : decode cX9_behindFirstOfLength 20 = .ok (.iload_n 0, 1) := by decide +kernel
theorem dX9_behindFirstOfLength_21 : decode cX9_behindFirstOfLength 21 = .ok (.bipush 51, 2) := by decide +kernel
theorem dX9_behindFirstOfLength_23 : decode cX9_behindFirstOfLength 23 = .ok (.if_icmp .gt 8, 3) := by decide +kernel
theorem dX9_behindFirstOfLength_26 : decode cX9_behindFirstOfLength 26 = .ok (.bipush 9, 2) := by decide +kernel
theorem dX9_behindFirstOfLength_28 : decode cX9_behindFirstOfLength 28 = .ok (.goto 5, 3) := by decide +kernel
theorem dX9_behindFirstOfLength_31 : decode cX9_behindFirstOfLength 31 = .ok (.bipush 11, 2) := by decide +kernel
theorem dX9_behindFirstOfLength_33 : decode cX9_behindFirstOfLength 33 = .ok (.ireturn, 1) := by decide +kernel
theorem dX9_behind_0 : decode cX9_behind 0 = .ok (.iload_n 0, 1) := by decide +kernel
theorem dX9_behind_1 : decode cX9_behind 1 = .ok (.tableswitch 204 0 11 #[63, 68, 81, 97, 116, 130, 135, 154, 159, 164, 183, 199], 63) := by decide +kernel
theorem dX9_behind_64 : decode cX9_behind 64 = .ok (.iload_n 1, 1) := by decide +kernel
theorem dX9_behind_65 : decode cX9_behind 65 = .ok (.invokestatic 34, 3) := by decide +kernel
theorem dX9_behind_68 : decode cX9_behind 68 = .ok (.ireturn, 1) := by decide +kernel
theorem dX9_behind_69 : decode cX9_behind 69 = .ok (.iload_n 1, 1) := by decide +kernel
theorem dX9_behind_70 : decode cX9_behind 70 = .ok (.invokestatic 37, 3) := by decide +kernel
theorem dX9_behind_73 : decode cX9_behind 73 = .ok (.ifCond .eq 7, 3) := by decide +kernel
theorem dX9_behind_76 : decode cX9_behind 76 = .ok (.iconst 2, 1) := by decide +kernel
theorem dX9_behind_77 : decode cX9_behind 77 = .ok (.goto 4, 3) := by decide +kernel
theorem dX9_behind_80 : decode cX9_behind 80 = .ok (.iconst (-1), 1) := by decide +kernel
theorem dX9_behind_81 : decode cX9_behind 81 = .ok (.ireturn, 1) := by decide +kernel
theorem dX9_behind_82 : decode cX9_behind 82 = .ok (.iload_n 1, 1) := by decide +kernel
theorem dX9_behind_83 : decode cX9_behind 83 = .ok (.invokestatic 37, 3) := by decide +kernel
theorem dX9_behind_86 : decode cX9_behind 86 = .ok (.ifCond .eq 7, 3) := by decide +kernel
theorem dX9_behind_89 : decode cX9_behind 89 = .ok (.iconst 2, 1) := by decide +kernel
theorem dX9_behind_90 : decode cX9_behind 90 = .ok (.goto 7, 3) := by decide +kernel
theorem dX9_behind_93 : decode cX9_behind 93 = .ok (.iload_n 1, 1) := by decide +kernel
theorem dX9_behind_94 : decode cX9_behind 94 = .ok (.invokestatic 41, 3) := by decide +kernel
theorem dX9_behind_97 : decode cX9_behind 97 = .ok (.ireturn, 1) := by decide +kernel
theorem dX9_behind_98 : decode cX9_behind 98 = .ok (.iload_n 1, 1) := by decide +kernel
theorem dX9_behind_99 : decode cX9_behind 99 = .ok (.bipush 48, 2) := by decide +kernel
theorem dX9_behind_101 : decode cX9_behind 101 = .ok (.if_icmp .lt 14, 3) := by decide +kernel
theorem dX9_behind_104 : decode cX9_behind 104 = .ok (.iload_n 1, 1) := by decide +kernel
theorem dX9_behind_105 : decode cX9_behind 105 = .ok (.bipush 50, 2) := by decide +kernel
theorem dX9_behind_107 : decode cX9_behind 107 = .ok (.if_icmp .gt 8, 3) := by decide +kernel
theorem dX9_behind_110 : decode cX9_behind 110 = .ok (.bipush 11, 2) := by decide +kernel
theorem dX9_behind_112 : decode cX9_behind 112 = .ok (.goto 4, 3) := by decide +kernel
theorem dX9_behind_115 : decode cX9_behind 115 = .ok (.iconst (-1), 1) := by decide +kernel
theorem dX9_behind_116 : decode cX9_behind 116 = .ok (.ireturn, 1) := by decide +kernel
theorem dX9_behind_117 : decode cX9_behind 117 = .ok (.iload_n 1, 1) := by decide +kernel
theorem dX9_behind_118 : decode cX9_behind 118 = .ok (.invokestatic 37, 3) := by decide +kernel
theorem dX9_behind_121 : decode cX9_behind 121 = .ok (.ifCond .eq 8, 3) := by decide +kernel
theorem dX9_behind_124 : decode cX9_behind 124 = .ok (.bipush 11, 2) := by decide +kernel
theorem dX9_behind_126 : decode cX9_behind 126 = .ok (.goto 4, 3) := by decide +kernel
theorem dX9_behind_129 : decode cX9_behind 129 = .ok (.iconst (-1), 1) := by decide +kernel
theorem dX9_behind_130 : decode cX9_behind 130 = .ok (.ireturn, 1) := by decide +kernel
theorem dX9_behind_131 : decode cX9_behind 131 = .ok (.iload_n 1, 1) := by decide +kernel
theorem dX9_behind_132 : decode cX9_behind 132 = .ok (.invokestatic 44, 3) := by decide +kernel
theorem dX9_behind_135 : decode cX9_behind 135 = .ok (.ireturn, 1) := by decide +kernel
theorem dX9_behind_136 : decode cX9_behind 136 = .ok (.iload_n 1, 1) := by decide +kernel
theorem dX9_behind_137 : decode cX9_behind 137 = .ok (.bipush 48, 2) := by decide +kernel
theorem dX9_behind_139 : decode cX9_behind 139 = .ok (.invokestatic 27, 3) := by decide +kernel
theorem dX9_behind_142 : decode cX9_behind 142 = .ok (.ifCond .eq 8, 3) := by decide +kernel
theorem dX9_behind_145 : decode cX9_behind 145 = .ok (.bipush 7, 2) := by decide +kernel
theorem dX9_behind_147 : decode cX9_behind 147 = .ok (.goto 7, 3) := by decide +kernel
theorem dX9_behind_150 : decode cX9_behind 150 = .ok (.iload_n 1, 1) := by decide +kernel
theorem dX9_behind_151 : decode cX9_behind 151 = .ok (.invokestatic 47, 3) := by decide +kernel
theorem dX9_behind_154 : decode cX9_behind 154 = .ok (.ireturn, 1) := by decide +kernel
theorem dX9_behind_155 : decode cX9_behind 155 = .ok (.iload_n 1, 1) := by decide +kernel
theorem dX9_behind_156 : decode cX9_behind 156 = .ok (.invokestatic 47, 3) := by decide +kernel
theorem dX9_behind_159 : decode cX9_behind 159 = .ok (.ireturn, 1) := by decide +kernel
theorem dX9_behind_160 : decode cX9_behind 160 = .ok (.iload_n 1, 1) := by decide +kernel
theorem dX9_behind_161 : decode cX9_behind 161 = .ok (.invokestatic 50, 3) := by decide +kernel
theorem dX9_behind_164 : decode cX9_behind 164 = .ok (.ireturn, 1) := by decide +kernel
theorem dX9_behind_165 : decode cX9_behind 165 = .ok (.iload_n 1, 1) := by decide +kernel
theorem dX9_behind_166 : decode cX9_behind 166 = .ok (.bipush 48, 2) := by decide +kernel
theorem dX9_behind_168 : decode cX9_behind 168 = .ok (.invokestatic 27, 3) := by decide +kernel
theorem dX9_behind_171 : decode cX9_behind 171 = .ok (.ifCond .eq 8, 3) := by decide +kernel
theorem dX9_behind_174 : decode cX9_behind 174 = .ok (.bipush 11, 2) := by decide +kernel
theorem dX9_behind_176 : decode cX9_behind 176 = .ok (.goto 7, 3) := by decide +kernel
theorem dX9_behind_179 : decode cX9_behind 179 = .ok (.iload_n 1, 1) := by decide +kernel
theorem dX9_behind_180 : decode cX9_behind 180 = .ok (.invokestatic 41, 3) := by decide +kernel
theorem dX9_behind_183 : decode cX9_behind 183 = .ok (.ireturn, 1) := by decide +kernel
theorem dX9_behind_184 : decode cX9_behind 184 = .ok (.iload_n 1, 1) := by decide +kernel
theorem dX9_behind_185 : decode cX9_behind 185 = .ok (.bipush 48, 2) := by decide +kernel
theorem dX9_behind_187 : decode cX9_behind 187 = .ok (.if_icmp .ne 8, 3) := by decide +kernel
theorem dX9_behind_190 : decode cX9_behind 190 = .ok (.bipush 11, 2) := by decide +kernel
theorem dX9_behind_192 : decode cX9_behind 192 = .ok (.goto 7, 3) := by decide +kernel
theorem dX9_behind_195 : decode cX9_behind 195 = .ok (.iload_n 1, 1) := by decide +kernel
theorem dX9_behind_196 : decode cX9_behind 196 = .ok (.invokestatic 41, 3) := by decide +kernel
theorem dX9_behind_199 : decode cX9_behind 199 = .ok (.ireturn, 1) := by decide +kernel
theorem dX9_behind_200 : decode cX9_behind 200 = .ok (.iload_n 1, 1) := by decide +kernel
theorem dX9_behind_201 : decode cX9_behind 201 = .ok (.invokestatic 41, 3) := by decide +kernel
theorem dX9_behind_204 : decode cX9_behind 204 = .ok (.ireturn, 1) := by decide +kernel
theorem dX9_behind_205 : decode cX9_behind 205 = .ok (.iconst (-1), 1) := by decide +kernel
theorem dX9_behind_206 : decode cX9_behind 206 = .ok (.ireturn, 1) := by decide +kernel
theorem dX9_errorPlace_0 : decode cX9_errorPlace 0 = .ok (.iconst 0, 1) := by decide +kernel
theorem dX9_errorPlace_1 : decode cX9_errorPlace 1 = .ok (.istore_n 1, 1) := by decide +kernel
theorem dX9_errorPlace_2 : decode cX9_errorPlace 2 = .ok (.iconst 0, 1) := by decide +kernel
theorem dX9_errorPlace_3 : decode cX9_errorPlace 3 = .ok (.istore_n 2, 1) := by decide +kernel
theorem dX9_errorPlace_4 : decode cX9_errorPlace 4 = .ok (.iload_n 2, 1) := by decide +kernel
theorem dX9_errorPlace_5 : decode cX9_errorPlace 5 = .ok (.aload_n 0, 1) := by decide +kernel
theorem dX9_errorPlace_6 : decode cX9_errorPlace 6 = .ok (.getfield 15, 3) := by decide +kernel
theorem dX9_errorPlace_9 : decode cX9_errorPlace 9 = .ok (.if_icmp .ge 26, 3) := by decide +kernel
theorem dX9_errorPlace_12 : decode cX9_errorPlace 12 = .ok (.iload_n 1, 1) := by decide +kernel
theorem dX9_errorPlace_13 : decode cX9_errorPlace 13 = .ok (.aload_n 0, 1) := by decide +kernel
theorem dX9_errorPlace_14 : decode cX9_errorPlace 14 = .ok (.iload_n 2, 1) := by decide +kernel
theorem dX9_errorPlace_15 : decode cX9_errorPlace 15 = .ok (.invokevirtual 19, 3) := by decide +kernel
theorem dX9_errorPlace_18 : decode cX9_errorPlace 18 = .ok (.invokestatic 23, 3) := by decide +kernel
theorem dX9_errorPlace_21 : decode cX9_errorPlace 21 = .ok (.istore_n 1, 1) := by decide +kernel
theorem dX9_errorPlace_22 : decode cX9_errorPlace 22 = .ok (.iload_n 1, 1) := by decide +kernel
theorem dX9_errorPlace_23 : decode cX9_errorPlace 23 = .ok (.iconst (-1), 1) := by decide +kernel
theorem dX9_errorPlace_24 : decode cX9_errorPlace 24 = .ok (.if_icmp .ne 5, 3) := by decide +kernel
theorem dX9_errorPlace_27 : decode cX9_errorPlace 27 = .ok (.iload_n 2, 1) := by decide +kernel
theorem dX9_errorPlace_28 : decode cX9_errorPlace 28 = .ok (.ireturn, 1) := by decide +kernel
theorem dX9_errorPlace_29 : decode cX9_errorPlace 29 = .ok (.iinc 2 1, 3) := by decide +kernel
theorem dX9_errorPlace_32 : decode cX9_errorPlace 32 = .ok (.goto (-28), 3) := by decide +kernel
theorem dX9_errorPlace_35 : decode cX9_errorPlace 35 = .ok (.aload_n 0, 1) := by decide +kernel
theorem dX9_errorPlace_36 : decode cX9_errorPlace 36 = .ok (.getfield 15, 3) := by decide +kernel
theorem dX9_errorPlace_39 : decode cX9_errorPlace 39 = .ok (.ireturn, 1) := by decide +kernel
theorem dX9_isComplete_0 : decode cX9_isComplete 0 = .ok (.iconst 0, 1) := by decide +kernel
theorem dX9_isComplete_1 : decode cX9_isComplete 1 = .ok (.istore_n 1, 1) := by decide +kernel
theorem dX9_isComplete_2 : decode cX9_isComplete 2 = .ok (.iconst 0, 1) := by decide +kernel
theorem dX9_isComplete_3 : decode cX9_isComplete 3 = .ok (.istore_n 2, 1) := by decide +kernel
theorem dX9_isComplete_4 : decode cX9_isComplete 4 = .ok (.iload_n 2, 1) := by decide +kernel
theorem dX9_isComplete_5 : decode cX9_isComplete 5 = .ok (.aload_n 0, 1) := by decide +kernel
theorem dX9_isComplete_6 : decode cX9_isComplete 6 = .ok (.getfield 15, 3) := by decide +kernel
theorem dX9_isComplete_9 : decode cX9_isComplete 9 = .ok (.if_icmp .ge 19, 3) := by decide +kernel
theorem dX9_isComplete_12 : decode cX9_isComplete 12 = .ok (.iload_n 1, 1) := by decide +kernel
theorem dX9_isComplete_13 : decode cX9_isComplete 13 = .ok (.aload_n 0, 1) := by decide +kernel
theorem dX9_isComplete_14 : decode cX9_isComplete 14 = .ok (.iload_n 2, 1) := by decide +kernel
theorem dX9_isComplete_15 : decode cX9_isComplete 15 = .ok (.invokevirtual 19, 3) := by decide +kernel
theorem dX9_isComplete_18 : decode cX9_isComplete 18 = .ok (.invokestatic 23, 3) := by decide +kernel
theorem dX9_isComplete_21 : decode cX9_isComplete 21 = .ok (.istore_n 1, 1) := by decide +kernel
theorem dX9_isComplete_22 : decode cX9_isComplete 22 = .ok (.iinc 2 1, 3) := by decide +kernel
theorem dX9_isComplete_25 : decode cX9_isComplete 25 = .ok (.goto (-21), 3) := by decide +kernel
theorem dX9_isComplete_28 : decode cX9_isComplete 28 = .ok (.iload_n 1, 1) := by decide +kernel
theorem dX9_isComplete_29 : decode cX9_isComplete 29 = .ok (.iconst 2, 1) := by decide +kernel
theorem dX9_isComplete_30 : decode cX9_isComplete 30 = .ok (.if_icmp .eq 21, 3) := by decide +kernel
theorem dX9_isComplete_33 : decode cX9_isComplete 33 = .ok (.iload_n 1, 1) := by decide +kernel
theorem dX9_isComplete_34 : decode cX9_isComplete 34 = .ok (.bipush 9, 2) := by decide +kernel
theorem dX9_isComplete_36 : decode cX9_isComplete 36 = .ok (.if_icmp .eq 15, 3) := by decide +kernel
theorem dX9_isComplete_39 : decode cX9_isComplete 39 = .ok (.iload_n 1, 1) := by decide +kernel
theorem dX9_isComplete_40 : decode cX9_isComplete 40 = .ok (.bipush 10, 2) := by decide +kernel
theorem dX9_isComplete_42 : decode cX9_isComplete 42 = .ok (.if_icmp .eq 9, 3) := by decide +kernel
theorem dX9_isComplete_45 : decode cX9_isComplete 45 = .ok (.iload_n 1, 1) := by decide +kernel
theorem dX9_isComplete_46 : decode cX9_isComplete 46 = .ok (.bipush 11, 2) := by decide +kernel
theorem dX9_isComplete_48 : decode cX9_isComplete 48 = .ok (.if_icmp .ne 7, 3) := by decide +kernel
theorem dX9_isComplete_51 : decode cX9_isComplete 51 = .ok (.iconst 1, 1) := by decide +kernel
theorem dX9_isComplete_52 : decode cX9_isComplete 52 = .ok (.goto 4, 3) := by decide +kernel
theorem dX9_isComplete_55 : decode cX9_isComplete 55 = .ok (.iconst 0, 1) := by decide +kernel
theorem dX9_isComplete_56 : decode cX9_isComplete 56 = .ok (.ireturn, 1) := by decide +kernel
theorem dX9_endOfPart_0 : decode cX9_endOfPart 0 = .ok (.iload_n 1, 1) := by decide +kernel
theorem dX9_endOfPart_1 : decode cX9_endOfPart 1 = .ok (.istore_n 2, 1) := by decide +kernel
theorem dX9_endOfPart_2 : decode cX9_endOfPart 2 = .ok (.iload_n 2, 1) := by decide +kernel
theorem dX9_endOfPart_3 : decode cX9_endOfPart 3 = .ok (.aload_n 0, 1) := by decide +kernel
theorem dX9_endOfPart_4 : decode cX9_endOfPart 4 = .ok (.getfield 15, 3) := by decide +kernel
theorem dX9_endOfPart_7 : decode cX9_endOfPart 7 = .ok (.if_icmp .ge 19, 3) := by decide +kernel
theorem dX9_endOfPart_10 : decode cX9_endOfPart 10 = .ok (.aload_n 0, 1) := by decide +kernel
theorem dX9_endOfPart_11 : decode cX9_endOfPart 11 = .ok (.iload_n 2, 1) := by decide +kernel
theorem dX9_endOfPart_12 : decode cX9_endOfPart 12 = .ok (.invokevirtual 19, 3) := by decide +kernel
theorem dX9_endOfPart_15 : decode cX9_endOfPart 15 = .ok (.bipush 59, 2) := by decide +kernel
theorem dX9_endOfPart_17 : decode cX9_endOfPart 17 = .ok (.if_icmp .eq 9, 3) := by decide +kernel
theorem dX9_endOfPart_20 : decode cX9_endOfPart 20 = .ok (.iinc 2 1, 3) := by decide +kernel
theorem dX9_endOfPart_23 : decode cX9_endOfPart 23 = .ok (.goto (-21), 3) := by decide +kernel
theorem dX9_endOfPart_26 : decode cX9_endOfPart 26 = .ok (.iload_n 2, 1) := by decide +kernel
theorem dX9_endOfPart_27 : decode cX9_endOfPart 27 = .ok (.ireturn, 1) := by decide +kernel
theorem dX9_endOfNumber_0 : decode cX9_endOfNumber 0 = .ok (.iload_n 1, 1) := by decide +kernel
theorem dX9_endOfNumber_1 : decode cX9_endOfNumber 1 = .ok (.istore_n 2, 1) := by decide +kernel
theorem dX9_endOfNumber_2 : decode cX9_endOfNumber 2 = .ok (.iload_n 2, 1) := by decide +kernel
theorem dX9_endOfNumber_3 : decode cX9_endOfNumber 3 = .ok (.aload_n 0, 1) := by decide +kernel
theorem dX9_endOfNumber_4 : decode cX9_endOfNumber 4 = .ok (.getfield 15, 3) := by decide +kernel
theorem dX9_endOfNumber_7 : decode cX9_endOfNumber 7 = .ok (.if_icmp .ge 22, 3) := by decide +kernel
theorem dX9_endOfNumber_10 : decode cX9_endOfNumber 10 = .ok (.aload_n 0, 1) := by decide +kernel
theorem dX9_endOfNumber_11 : decode cX9_endOfNumber 11 = .ok (.iload_n 2, 1) := by decide +kernel
theorem dX9_endOfNumber_12 : decode cX9_endOfNumber 12 = .ok (.invokevirtual 19, 3) := by decide +kernel
theorem dX9_endOfNumber_15 : decode cX9_endOfNumber 15 = .ok (.bipush 48, 2) := by decide +kernel
theorem dX9_endOfNumber_17 : decode cX9_endOfNumber 17 = .ok (.invokestatic 27, 3) := by decide +kernel
theorem dX9_endOfNumber_20 : decode cX9_endOfNumber 20 = .ok (.ifCond .eq 9, 3) := by decide +kernel
theorem dX9_endOfNumber_23 : decode cX9_endOfNumber 23 = .ok (.iinc 2 1, 3) := by decide +kernel
theorem dX9_endOfNumber_26 : decode cX9_endOfNumber 26 = .ok (.goto (-24), 3) := by decide +kernel
theorem dX9_endOfNumber_29 : decode cX9_endOfNumber 29 = .ok (.iload_n 2, 1) := by decide +kernel
theorem dX9_endOfNumber_30 : decode cX9_endOfNumber 30 = .ok (.ireturn, 1) := by decide +kernel
theorem dX9_number_0 : decode cX9_number 0 = .ok (.aload_n 0, 1) := by decide +kernel
theorem dX9_number_1 : decode cX9_number 1 = .ok (.iload_n 1, 1) := by decide +kernel
theorem dX9_number_2 : decode cX9_number 2 = .ok (.invokevirtual 31, 3) := by decide +kernel
theorem dX9_number_5 : decode cX9_number 5 = .ok (.istore_n 2, 1) := by decide +kernel
theorem dX9_number_6 : decode cX9_number 6 = .ok (.iconst 0, 1) := by decide +kernel
theorem dX9_number_7 : decode cX9_number 7 = .ok (.istore_n 3, 1) := by decide +kernel
theorem dX9_number_8 : decode cX9_number 8 = .ok (.iload_n 1, 1) := by decide +kernel
theorem dX9_number_9 : decode cX9_number 9 = .ok (.istore 4, 2) := by decide +kernel
theorem dX9_number_11 : decode cX9_number 11 = .ok (.iload 4, 2) := by decide +kernel
theorem dX9_number_13 : decode cX9_number 13 = .ok (.iload_n 2, 1) := by decide +kernel
theorem dX9_number_14 : decode cX9_number 14 = .ok (.if_icmp .ge 24, 3) := by decide +kernel
theorem dX9_number_17 : decode cX9_number 17 = .ok (.bipush 10, 2) := by decide +kernel
theorem dX9_number_19 : decode cX9_number 19 = .ok (.iload_n 3, 1) := by decide +kernel
theorem dX9_number_20 : decode cX9_number 20 = .ok (.imul, 1) := by decide +kernel
theorem dX9_number_21 : decode cX9_number 21 = .ok (.aload_n 0, 1) := by decide +kernel
theorem dX9_number_22 : decode cX9_number 22 = .ok (.iload 4, 2) := by decide +kernel
theorem dX9_number_24 : decode cX9_number 24 = .ok (.invokevirtual 19, 3) := by decide +kernel
theorem dX9_number_27 : decode cX9_number 27 = .ok (.iadd, 1) := by decide +kernel
theorem dX9_number_28 : decode cX9_number 28 = .ok (.bipush 48, 2) := by decide +kernel
theorem dX9_number_30 : decode cX9_number 30 = .ok (.isub, 1) := by decide +kernel
theorem dX9_number_31 : decode cX9_number 31 = .ok (.istore_n 3, 1) := by decide +kernel
theorem dX9_number_32 : decode cX9_number 32 = .ok (.iinc 4 1, 3) := by decide +kernel
theorem dX9_number_35 : decode cX9_number 35 = .ok (.goto (-24), 3) := by decide +kernel
theorem dX9_number_38 : decode cX9_number 38 = .ok (.iload_n 3, 1) := by decide +kernel
theorem dX9_number_39 : decode cX9_number 39 = .ok (.ireturn, 1) := by decide +kernel
