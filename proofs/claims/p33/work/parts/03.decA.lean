theorem dX0_init_0 : decode cX0_init 0 = .ok (.aload_n 0, 1) := by decide +kernel
theorem dX0_init_1 : decode cX0_init 1 = .ok (.invokespecial 3, 3) := by decide +kernel
theorem dX0_init_4 : decode cX0_init 4 = .ok (.aload_n 0, 1) := by decide +kernel
theorem dX0_init_5 : decode cX0_init 5 = .ok (.iconst 0, 1) := by decide +kernel
theorem dX0_init_6 : decode cX0_init 6 = .ok (.iconst 0, 1) := by decide +kernel
theorem dX0_init_7 : decode cX0_init 7 = .ok (.iconst 0, 1) := by decide +kernel
theorem dX0_init_8 : decode cX0_init 8 = .ok (.invokevirtual 9, 3) := by decide +kernel
theorem dX0_init_11 : decode cX0_init 11 = .ok (.return_, 1) := by decide +kernel
theorem dX0_reset_0 : decode cX0_reset 0 = .ok (.aload_n 0, 1) := by decide +kernel
theorem dX0_reset_1 : decode cX0_reset 1 = .ok (.iload_n 1, 1) := by decide +kernel
theorem dX0_reset_2 : decode cX0_reset 2 = .ok (.putfield 15, 3) := by decide +kernel
theorem dX0_reset_5 : decode cX0_reset 5 = .ok (.aload_n 0, 1) := by decide +kernel
theorem dX0_reset_6 : decode cX0_reset 6 = .ok (.iload_n 2, 1) := by decide +kernel
theorem dX0_reset_7 : decode cX0_reset 7 = .ok (.putfield 19, 3) := by decide +kernel
theorem dX0_reset_10 : decode cX0_reset 10 = .ok (.aload_n 0, 1) := by decide +kernel
theorem dX0_reset_11 : decode cX0_reset 11 = .ok (.iload_n 3, 1) := by decide +kernel
theorem dX0_reset_12 : decode cX0_reset 12 = .ok (.putfield 22, 3) := by decide +kernel
theorem dX0_reset_15 : decode cX0_reset 15 = .ok (.aload_n 0, 1) := by decide +kernel
theorem dX0_reset_16 : decode cX0_reset 16 = .ok (.iconst 0, 1) := by decide +kernel
theorem dX0_reset_17 : decode cX0_reset 17 = .ok (.putfield 25, 3) := by decide +kernel
theorem dX0_reset_20 : decode cX0_reset 20 = .ok (.return_, 1) := by decide +kernel
theorem dX0_isSettled_0 : decode cX0_isSettled 0 = .ok (.aload_n 0, 1) := by decide +kernel
theorem dX0_isSettled_1 : decode cX0_isSettled 1 = .ok (.getfield 25, 3) := by decide +kernel
theorem dX0_isSettled_4 : decode cX0_isSettled 4 = .ok (.ifCond .eq 7, 3) := by decide +kernel
theorem dX0_isSettled_7 : decode cX0_isSettled 7 = .ok (.iconst 1, 1) := by decide +kernel
theorem dX0_isSettled_8 : decode cX0_isSettled 8 = .ok (.goto 4, 3) := by decide +kernel
theorem dX0_isSettled_11 : decode cX0_isSettled 11 = .ok (.iconst 0, 1) := by decide +kernel
theorem dX0_isSettled_12 : decode cX0_isSettled 12 = .ok (.ireturn, 1) := by decide +kernel
theorem dX0_copyFrom_0 : decode cX0_copyFrom 0 = .ok (.aload_n 0, 1) := by decide +kernel
theorem dX0_copyFrom_1 : decode cX0_copyFrom 1 = .ok (.aload_n 1, 1) := by decide +kernel
theorem dX0_copyFrom_2 : decode cX0_copyFrom 2 = .ok (.getfield 15, 3) := by decide +kernel
theorem dX0_copyFrom_5 : decode cX0_copyFrom 5 = .ok (.putfield 15, 3) := by decide +kernel
theorem dX0_copyFrom_8 : decode cX0_copyFrom 8 = .ok (.aload_n 0, 1) := by decide +kernel
theorem dX0_copyFrom_9 : decode cX0_copyFrom 9 = .ok (.aload_n 1, 1) := by decide +kernel
theorem dX0_copyFrom_10 : decode cX0_copyFrom 10 = .ok (.getfield 19, 3) := by decide +kernel
theorem dX0_copyFrom_13 : decode cX0_copyFrom 13 = .ok (.putfield 19, 3) := by decide +kernel
theorem dX0_copyFrom_16 : decode cX0_copyFrom 16 = .ok (.aload_n 0, 1) := by decide +kernel
theorem dX0_copyFrom_17 : decode cX0_copyFrom 17 = .ok (.aload_n 1, 1) := by decide +kernel
theorem dX0_copyFrom_18 : decode cX0_copyFrom 18 = .ok (.getfield 22, 3) := by decide +kernel
theorem dX0_copyFrom_21 : decode cX0_copyFrom 21 = .ok (.putfield 22, 3) := by decide +kernel
theorem dX0_copyFrom_24 : decode cX0_copyFrom 24 = .ok (.aload_n 0, 1) := by decide +kernel
theorem dX0_copyFrom_25 : decode cX0_copyFrom 25 = .ok (.aload_n 1, 1) := by decide +kernel
theorem dX0_copyFrom_26 : decode cX0_copyFrom 26 = .ok (.getfield 25, 3) := by decide +kernel
theorem dX0_copyFrom_29 : decode cX0_copyFrom 29 = .ok (.putfield 25, 3) := by decide +kernel
theorem dX0_copyFrom_32 : decode cX0_copyFrom 32 = .ok (.return_, 1) := by decide +kernel
theorem dX1_init_0 : decode cX1_init 0 = .ok (.aload_n 0, 1) := by decide +kernel
theorem dX1_init_1 : decode cX1_init 1 = .ok (.invokespecial 3, 3) := by decide +kernel
theorem dX1_init_4 : decode cX1_init 4 = .ok (.aload_n 0, 1) := by decide +kernel
theorem dX1_init_5 : decode cX1_init 5 = .ok (.aload_n 1, 1) := by decide +kernel
theorem dX1_init_6 : decode cX1_init 6 = .ok (.iconst 0, 1) := by decide +kernel
theorem dX1_init_7 : decode cX1_init 7 = .ok (.invokevirtual 9, 3) := by decide +kernel
theorem dX1_init_10 : decode cX1_init 10 = .ok (.return_, 1) := by decide +kernel
theorem dX1_reset_0 : decode cX1_reset 0 = .ok (.aload_n 0, 1) := by decide +kernel
theorem dX1_reset_1 : decode cX1_reset 1 = .ok (.aload_n 1, 1) := by decide +kernel
theorem dX1_reset_2 : decode cX1_reset 2 = .ok (.putfield 15, 3) := by decide +kernel
theorem dX1_reset_5 : decode cX1_reset 5 = .ok (.aload_n 0, 1) := by decide +kernel
theorem dX1_reset_6 : decode cX1_reset 6 = .ok (.iload_n 2, 1) := by decide +kernel
theorem dX1_reset_7 : decode cX1_reset 7 = .ok (.putfield 19, 3) := by decide +kernel
theorem dX1_reset_10 : decode cX1_reset 10 = .ok (.aload_n 0, 1) := by decide +kernel
theorem dX1_reset_11 : decode cX1_reset 11 = .ok (.iconst 0, 1) := by decide +kernel
theorem dX1_reset_12 : decode cX1_reset 12 = .ok (.putfield 23, 3) := by decide +kernel
theorem dX1_reset_15 : decode cX1_reset 15 = .ok (.return_, 1) := by decide +kernel
theorem dX1_copyFrom_0 : decode cX1_copyFrom 0 = .ok (.aload_n 0, 1) := by decide +kernel
theorem dX1_copyFrom_1 : decode cX1_copyFrom 1 = .ok (.aload_n 1, 1) := by decide +kernel
theorem dX1_copyFrom_2 : decode cX1_copyFrom 2 = .ok (.getfield 15, 3) := by decide +kernel
theorem dX1_copyFrom_5 : decode cX1_copyFrom 5 = .ok (.putfield 15, 3) := by decide +kernel
theorem dX1_copyFrom_8 : decode cX1_copyFrom 8 = .ok (.aload_n 0, 1) := by decide +kernel
theorem dX1_copyFrom_9 : decode cX1_copyFrom 9 = .ok (.aload_n 1, 1) := by decide +kernel
theorem dX1_copyFrom_10 : decode cX1_copyFrom 10 = .ok (.getfield 19, 3) := by decide +kernel
theorem dX1_copyFrom_13 : decode cX1_copyFrom 13 = .ok (.putfield 19, 3) := by decide +kernel
theorem dX1_copyFrom_16 : decode cX1_copyFrom 16 = .ok (.aload_n 0, 1) := by decide +kernel
theorem dX1_copyFrom_17 : decode cX1_copyFrom 17 = .ok (.aload_n 1, 1) := by decide +kernel
theorem dX1_copyFrom_18 : decode cX1_copyFrom 18 = .ok (.getfield 23, 3) := by decide +kernel
theorem dX1_copyFrom_21 : decode cX1_copyFrom 21 = .ok (.putfield 23, 3) := by decide +kernel
theorem dX1_copyFrom_24 : decode cX1_copyFrom 24 = .ok (.return_, 1) := by decide +kernel
theorem dX2_init_0 : decode cX2_init 0 = .ok (.aload_n 0, 1) := by decide +kernel
theorem dX2_init_1 : decode cX2_init 1 = .ok (.invokespecial 3, 3) := by decide +kernel
theorem dX2_init_4 : decode cX2_init 4 = .ok (.aload_n 0, 1) := by decide +kernel
theorem dX2_init_5 : decode cX2_init 5 = .ok (.iconst 4, 1) := by decide +kernel
theorem dX2_init_6 : decode cX2_init 6 = .ok (.anewarray 9, 3) := by decide +kernel
theorem dX2_init_9 : decode cX2_init 9 = .ok (.putfield 11, 3) := by decide +kernel
theorem dX2_init_12 : decode cX2_init 12 = .ok (.iconst 0, 1) := by decide +kernel
theorem dX2_init_13 : decode cX2_init 13 = .ok (.istore_n 3, 1) := by decide +kernel
theorem dX2_init_14 : decode cX2_init 14 = .ok (.iload_n 3, 1) := by decide +kernel
theorem dX2_init_15 : decode cX2_init 15 = .ok (.iconst 4, 1) := by decide +kernel
theorem dX2_init_16 : decode cX2_init 16 = .ok (.if_icmp .ge 24, 3) := by decide +kernel
theorem dX2_init_19 : decode cX2_init 19 = .ok (.aload_n 0, 1) := by decide +kernel
theorem dX2_init_20 : decode cX2_init 20 = .ok (.getfield 11, 3) := by decide +kernel
theorem dX2_init_23 : decode cX2_init 23 = .ok (.iload_n 3, 1) := by decide +kernel
theorem dX2_init_24 : decode cX2_init 24 = .ok (.new 9, 3) := by decide +kernel
theorem dX2_init_27 : decode cX2_init 27 = .ok (.dup, 1) := by decide +kernel
theorem dX2_init_28 : decode cX2_init 28 = .ok (.aload_n 1, 1) := by decide +kernel
theorem dX2_init_29 : decode cX2_init 29 = .ok (.aload_n 2, 1) := by decide +kernel
theorem dX2_init_30 : decode cX2_init 30 = .ok (.invokespecial 17, 3) := by decide +kernel
theorem dX2_init_33 : decode cX2_init 33 = .ok (.aastore, 1) := by decide +kernel
theorem dX2_init_34 : decode cX2_init 34 = .ok (.iinc 3 1, 3) := by decide +kernel
theorem dX2_init_37 : decode cX2_init 37 = .ok (.goto (-23), 3) := by decide +kernel
theorem dX2_init_40 : decode cX2_init 40 = .ok (.aload_n 0, 1) := by decide +kernel
theorem dX2_init_41 : decode cX2_init 41 = .ok (.iconst 0, 1) := by decide +kernel
theorem dX2_init_42 : decode cX2_init 42 = .ok (.putfield 20, 3) := by decide +kernel
theorem dX2_init_45 : decode cX2_init 45 = .ok (.return_, 1) := by decide +kernel
theorem dX2_push_0 : decode cX2_push 0 = .ok (.aload_n 0, 1) := by decide +kernel
theorem dX2_push_1 : decode cX2_push 1 = .ok (.getfield 20, 3) := by decide +kernel
theorem dX2_push_4 : decode cX2_push 4 = .ok (.iconst 4, 1) := by decide +kernel
theorem dX2_push_5 : decode cX2_push 5 = .ok (.if_icmp .lt 7, 3) := by decide +kernel
theorem dX2_push_8 : decode cX2_push 8 = .ok (.aload_n 0, 1) := by decide +kernel
theorem dX2_push_9 : decode cX2_push 9 = .ok (.invokevirtual 24, 3) := by decide +kernel
theorem dX2_push_12 : decode cX2_push 12 = .ok (.aload_n 0, 1) := by decide +kernel
theorem dX2_push_13 : decode cX2_push 13 = .ok (.getfield 11, 3) := by decide +kernel
theorem dX2_push_16 : decode cX2_push 16 = .ok (.aload_n 0, 1) := by decide +kernel
theorem dX2_push_17 : decode cX2_push 17 = .ok (.getfield 20, 3) := by decide +kernel
theorem dX2_push_20 : decode cX2_push 20 = .ok (.aaload, 1) := by decide +kernel
theorem dX2_push_21 : decode cX2_push 21 = .ok (.aload_n 1, 1) := by decide +kernel
theorem dX2_push_22 : decode cX2_push 22 = .ok (.invokevirtual 27, 3) := by decide +kernel
theorem dX2_push_25 : decode cX2_push 25 = .ok (.aload_n 0, 1) := by decide +kernel
theorem dX2_push_26 : decode cX2_push 26 = .ok (.dup, 1) := by decide +kernel
theorem dX2_push_27 : decode cX2_push 27 = .ok (.getfield 20, 3) := by decide +kernel
theorem dX2_push_30 : decode cX2_push 30 = .ok (.iconst 1, 1) := by decide +kernel
theorem dX2_push_31 : decode cX2_push 31 = .ok (.iadd, 1) := by decide +kernel
theorem dX2_push_32 : decode cX2_push 32 = .ok (.putfield 20, 3) := by decide +kernel
theorem dX2_push_35 : decode cX2_push 35 = .ok (.return_, 1) := by decide +kernel
theorem dX2_dropOldest_0 : decode cX2_dropOldest 0 = .ok (.aload_n 0, 1) := by decide +kernel
theorem dX2_dropOldest_1 : decode cX2_dropOldest 1 = .ok (.getfield 11, 3) := by decide +kernel
theorem dX2_dropOldest_4 : decode cX2_dropOldest 4 = .ok (.iconst 0, 1) := by decide +kernel
theorem dX2_dropOldest_5 : decode cX2_dropOldest 5 = .ok (.aaload, 1) := by decide +kernel
theorem dX2_dropOldest_6 : decode cX2_dropOldest 6 = .ok (.astore_n 1, 1) := by decide +kernel
theorem dX2_dropOldest_7 : decode cX2_dropOldest 7 = .ok (.iconst 1, 1) := by decide +kernel
theorem dX2_dropOldest_8 : decode cX2_dropOldest 8 = .ok (.istore_n 2, 1) := by decide +kernel
theorem dX2_dropOldest_9 : decode cX2_dropOldest 9 = .ok (.iload_n 2, 1) := by decide +kernel
theorem dX2_dropOldest_10 : decode cX2_dropOldest 10 = .ok (.iconst 4, 1) := by decide +kernel
theorem dX2_dropOldest_11 : decode cX2_dropOldest 11 = .ok (.if_icmp .ge 23, 3) := by decide +kernel
theorem dX2_dropOldest_14 : decode cX2_dropOldest 14 = .ok (.aload_n 0, 1) := by decide +kernel
theorem dX2_dropOldest_15 : decode cX2_dropOldest 15 = .ok (.getfield 11, 3) := by decide +kernel
theorem dX2_dropOldest_18 : decode cX2_dropOldest 18 = .ok (.iload_n 2, 1) := by decide +kernel
theorem dX2_dropOldest_19 : decode cX2_dropOldest 19 = .ok (.iconst 1, 1) := by decide +kernel
theorem dX2_dropOldest_20 : decode cX2_dropOldest 20 = .ok (.isub, 1) := by decide +kernel
theorem dX2_dropOldest_21 : decode cX2_dropOldest 21 = .ok (.aload_n 0, 1) := by decide +kernel
theorem dX2_dropOldest_22 : decode cX2_dropOldest 22 = .ok (.getfield 11, 3) := by decide +kernel
theorem dX2_dropOldest_25 : decode cX2_dropOldest 25 = .ok (.iload_n 2, 1) := by decide +kernel
theorem dX2_dropOldest_26 : decode cX2_dropOldest 26 = .ok (.aaload, 1) := by decide +kernel
theorem dX2_dropOldest_27 : decode cX2_dropOldest 27 = .ok (.aastore, 1) := by decide +kernel
theorem dX2_dropOldest_28 : decode cX2_dropOldest 28 = .ok (.iinc 2 1, 3) := by decide +kernel
theorem dX2_dropOldest_31 : decode cX2_dropOldest 31 = .ok (.goto (-22), 3) := by decide +kernel
theorem dX2_dropOldest_34 : decode cX2_dropOldest 34 = .ok (.aload_n 0, 1) := by decide +kernel
theorem dX2_dropOldest_35 : decode cX2_dropOldest 35 = .ok (.getfield 11, 3) := by decide +kernel
theorem dX2_dropOldest_38 : decode cX2_dropOldest 38 = .ok (.iconst 3, 1) := by decide +kernel
theorem dX2_dropOldest_39 : decode cX2_dropOldest 39 = .ok (.aload_n 1, 1) := by decide +kernel
theorem dX2_dropOldest_40 : decode cX2_dropOldest 40 = .ok (.aastore, 1) := by decide +kernel
theorem dX2_dropOldest_41 : decode cX2_dropOldest 41 = .ok (.aload_n 0, 1) := by decide +kernel
theorem dX2_dropOldest_42 : decode cX2_dropOldest 42 = .ok (.iconst 3, 1) := by decide +kernel
theorem dX2_dropOldest_43 : decode cX2_dropOldest 43 = .ok (.putfield 20, 3) := by decide +kernel
theorem dX2_dropOldest_46 : decode cX2_dropOldest 46 = .ok (.return_, 1) := by decide +kernel
theorem dX2_pop_0 : decode cX2_pop 0 = .ok (.aload_n 0, 1) := by decide +kernel
theorem dX2_pop_1 : decode cX2_pop 1 = .ok (.getfield 20, 3) := by decide +kernel
theorem dX2_pop_4 : decode cX2_pop 4 = .ok (.ifCond .le 26, 3) := by decide +kernel
theorem dX2_pop_7 : decode cX2_pop 7 = .ok (.aload_n 0, 1) := by decide +kernel
theorem dX2_pop_8 : decode cX2_pop 8 = .ok (.dup, 1) := by decide +kernel
theorem dX2_pop_9 : decode cX2_pop 9 = .ok (.getfield 20, 3) := by decide +kernel
theorem dX2_pop_12 : decode cX2_pop 12 = .ok (.iconst 1, 1) := by decide +kernel
theorem dX2_pop_13 : decode cX2_pop 13 = .ok (.isub, 1) := by decide +kernel
theorem dX2_pop_14 : decode cX2_pop 14 = .ok (.putfield 20, 3) := by decide +kernel
theorem dX2_pop_17 : decode cX2_pop 17 = .ok (.aload_n 1, 1) := by decide +kernel
theorem dX2_pop_18 : decode cX2_pop 18 = .ok (.aload_n 0, 1) := by decide +kernel
theorem dX2_pop_19 : decode cX2_pop 19 = .ok (.getfield 11, 3) := by decide +kernel
theorem dX2_pop_22 : decode cX2_pop 22 = .ok (.aload_n 0, 1) := by decide +kernel
theorem dX2_pop_23 : decode cX2_pop 23 = .ok (.getfield 20, 3) := by decide +kernel
theorem dX2_pop_26 : decode cX2_pop 26 = .ok (.aaload, 1) := by decide +kernel
theorem dX2_pop_27 : decode cX2_pop 27 = .ok (.invokevirtual 27, 3) := by decide +kernel
theorem dX2_pop_30 : decode cX2_pop 30 = .ok (.return_, 1) := by decide +kernel
theorem dX3_init_0 : decode cX3_init 0 = .ok (.aload_n 0, 1) := by decide +kernel
theorem dX3_init_1 : decode cX3_init 1 = .ok (.invokespecial 3, 3) := by decide +kernel
theorem dX3_init_4 : decode cX3_init 4 = .ok (.aload_n 0, 1) := by decide +kernel
theorem dX3_init_5 : decode cX3_init 5 = .ok (.bipush 9, 2) := by decide +kernel
theorem dX3_init_7 : decode cX3_init 7 = .ok (.newarray .int, 2) := by decide +kernel
theorem dX3_init_9 : decode cX3_init 9 = .ok (.putfield 9, 3) := by decide +kernel
theorem dX3_init_12 : decode cX3_init 12 = .ok (.return_, 1) := by decide +kernel
theorem dX3_between_0 : decode cX3_between 0 = .ok (.iconst 0, 1) := by decide +kernel
theorem dX3_between_1 : decode cX3_between 1 = .ok (.istore_n 3, 1) := by decide +kernel
theorem dX3_between_2 : decode cX3_between 2 = .ok (.iload_n 3, 1) := by decide +kernel
theorem dX3_between_3 : decode cX3_between 3 = .ok (.aload_n 2, 1) := by decide +kernel
theorem dX3_between_4 : decode cX3_between 4 = .ok (.getfield 15, 3) := by decide +kernel
theorem dX3_between_7 : decode cX3_between 7 = .ok (.if_icmp .gt 16, 3) := by decide +kernel
theorem dX3_between_10 : decode cX3_between 10 = .ok (.aload_n 0, 1) := by decide +kernel
theorem dX3_between_11 : decode cX3_between 11 = .ok (.getfield 9, 3) := by decide +kernel
theorem dX3_between_14 : decode cX3_between 14 = .ok (.iload_n 3, 1) := by decide +kernel
theorem dX3_between_15 : decode cX3_between 15 = .ok (.iload_n 3, 1) := by decide +kernel
theorem dX3_between_16 : decode cX3_between 16 = .ok (.iastore, 1) := by decide +kernel
theorem dX3_between_17 : decode cX3_between 17 = .ok (.iinc 3 1, 3) := by decide +kernel
theorem dX3_between_20 : decode cX3_between 20 = .ok (.goto (-18), 3) := by decide +kernel
theorem dX3_between_23 : decode cX3_between 23 = .ok (.iconst 1, 1) := by decide +kernel
theorem dX3_between_24 : decode cX3_between 24 = .ok (.istore_n 3, 1) := by decide +kernel
theorem dX3_between_25 : decode cX3_between 25 = .ok (.iload_n 3, 1) := by decide +kernel
theorem dX3_between_26 : decode cX3_between 26 = .ok (.aload_n 1, 1) := by decide +kernel
theorem dX3_between_27 : decode cX3_between 27 = .ok (.getfield 15, 3) := by decide +kernel
theorem dX3_between_30 : decode cX3_between 30 = .ok (.if_icmp .gt 134, 3) := by decide +kernel
theorem dX3_between_33 : decode cX3_between 33 = .ok (.aload_n 0, 1) := by decide +kernel
theorem dX3_between_34 : decode cX3_between 34 = .ok (.getfield 9, 3) := by decide +kernel
theorem dX3_between_37 : decode cX3_between 37 = .ok (.iconst 0, 1) := by decide +kernel
theorem dX3_between_38 : decode cX3_between 38 = .ok (.iaload, 1) := by decide +kernel
theorem dX3_between_39 : decode cX3_between 39 = .ok (.istore 4, 2) := by decide +kernel
theorem dX3_between_41 : decode cX3_between 41 = .ok (.aload_n 0, 1) := by decide +kernel
theorem dX3_between_42 : decode cX3_between 42 = .ok (.getfield 9, 3) := by decide +kernel
theorem dX3_between_45 : decode cX3_between 45 = .ok (.iconst 0, 1) := by decide +kernel
theorem dX3_between_46 : decode cX3_between 46 = .ok (.iload_n 3, 1) := by decide +kernel
theorem dX3_between_47 : decode cX3_between 47 = .ok (.iastore, 1) := by decide +kernel
theorem dX3_between_48 : decode cX3_between 48 = .ok (.iconst 1, 1) := by decide +kernel
theorem dX3_between_49 : decode cX3_between 49 = .ok (.istore 5, 2) := by decide +kernel
theorem dX3_between_51 : decode cX3_between 51 = .ok (.iload 5, 2) := by decide +kernel
theorem dX3_between_53 : decode cX3_between 53 = .ok (.aload_n 2, 1) := by decide +kernel
theorem dX3_between_54 : decode cX3_between 54 = .ok (.getfield 15, 3) := by decide +kernel
theorem dX3_between_57 : decode cX3_between 57 = .ok (.if_icmp .gt 101, 3) := by decide +kernel
theorem dX3_between_60 : decode cX3_between 60 = .ok (.iload 4, 2) := by decide +kernel
theorem dX3_between_62 : decode cX3_between 62 = .ok (.istore 6, 2) := by decide +kernel
theorem dX3_between_64 : decode cX3_between 64 = .ok (.aload_n 0, 1) := by decide +kernel
theorem dX3_between_65 : decode cX3_between 65 = .ok (.getfield 9, 3) := by decide +kernel
theorem dX3_between_68 : decode cX3_between 68 = .ok (.iload 5, 2) := by decide +kernel
theorem dX3_between_70 : decode cX3_between 70 = .ok (.iaload, 1) := by decide +kernel
theorem dX3_between_71 : decode cX3_between 71 = .ok (.istore 4, 2) := by decide +kernel
theorem dX3_between_73 : decode cX3_between 73 = .ok (.aload_n 1, 1) := by decide +kernel
theorem dX3_between_74 : decode cX3_between 74 = .ok (.getfield 21, 3) := by decide +kernel
theorem dX3_between_77 : decode cX3_between 77 = .ok (.iload_n 3, 1) := by decide +kernel
theorem dX3_between_78 : decode cX3_between 78 = .ok (.iconst 1, 1) := by decide +kernel
theorem dX3_between_79 : decode cX3_between 79 = .ok (.isub, 1) := by decide +kernel
theorem dX3_between_80 : decode cX3_between 80 = .ok (.laload, 1) := by decide +kernel
theorem dX3_between_81 : decode cX3_between 81 = .ok (.aload_n 2, 1) := by decide +kernel
theorem dX3_between_82 : decode cX3_between 82 = .ok (.getfield 21, 3) := by decide +kernel
theorem dX3_between_85 : decode cX3_between 85 = .ok (.iload 5, 2) := by decide +kernel
theorem dX3_between_87 : decode cX3_between 87 = .ok (.iconst 1, 1) := by decide +kernel
theorem dX3_between_88 : decode cX3_between 88 = .ok (.isub, 1) := by decide +kernel
theorem dX3_between_89 : decode cX3_between 89 = .ok (.laload, 1) := by decide +kernel
theorem dX3_between_90 : decode cX3_between 90 = .ok (.lcmp, 1) := by decide +kernel
theorem dX3_between_91 : decode cX3_between 91 = .ok (.ifCond .eq 52, 3) := by decide +kernel
theorem dX3_between_94 : decode cX3_between 94 = .ok (.iload 6, 2) := by decide +kernel
theorem dX3_between_96 : decode cX3_between 96 = .ok (.iload 4, 2) := by decide +kernel
theorem dX3_between_98 : decode cX3_between 98 = .ok (.if_icmp .ge 8, 3) := by decide +kernel
theorem dX3_between_101 : decode cX3_between 101 = .ok (.iload 6, 2) := by decide +kernel
theorem dX3_between_103 : decode cX3_between 103 = .ok (.goto 5, 3) := by decide +kernel
theorem dX3_between_106 : decode cX3_between 106 = .ok (.iload 4, 2) := by decide +kernel
theorem dX3_between_108 : decode cX3_between 108 = .ok (.istore 6, 2) := by decide +kernel
theorem dX3_between_110 : decode cX3_between 110 = .ok (.iload 6, 2) := by decide +kernel
theorem dX3_between_112 : decode cX3_between 112 = .ok (.aload_n 0, 1) := by decide +kernel
theorem dX3_between_113 : decode cX3_between 113 = .ok (.getfield 9, 3) := by decide +kernel
theorem dX3_between_116 : decode cX3_between 116 = .ok (.iload 5, 2) := by decide +kernel
theorem dX3_between_118 : decode cX3_between 118 = .ok (.iconst 1, 1) := by decide +kernel
theorem dX3_between_119 : decode cX3_between 119 = .ok (.isub, 1) := by decide +kernel
theorem dX3_between_120 : decode cX3_between 120 = .ok (.iaload, 1) := by decide +kernel
theorem dX3_between_121 : decode cX3_between 121 = .ok (.if_icmp .ge 8, 3) := by decide +kernel
theorem dX3_between_124 : decode cX3_between 124 = .ok (.iload 6, 2) := by decide +kernel
theorem dX3_between_126 : decode cX3_between 126 = .ok (.goto 12, 3) := by decide +kernel
theorem dX3_between_129 : decode cX3_between 129 = .ok (.aload_n 0, 1) := by decide +kernel
theorem dX3_between_130 : decode cX3_between 130 = .ok (.getfield 9, 3) := by decide +kernel
theorem dX3_between_133 : decode cX3_between 133 = .ok (.iload 5, 2) := by decide +kernel
theorem dX3_between_135 : decode cX3_between 135 = .ok (.iconst 1, 1) := by decide +kernel
theorem dX3_between_136 : decode cX3_between 136 = .ok (.isub, 1) := by decide +kernel
theorem dX3_between_137 : decode cX3_between 137 = .ok (.iaload, 1) := by decide +kernel
theorem dX3_between_138 : decode cX3_between 138 = .ok (.istore 6, 2) := by decide +kernel
theorem dX3_between_140 : decode cX3_between 140 = .ok (.iinc 6 1, 3) := by decide +kernel
theorem dX3_between_143 : decode cX3_between 143 = .ok (.aload_n 0, 1) := by decide +kernel
theorem dX3_between_144 : decode cX3_between 144 = .ok (.getfield 9, 3) := by decide +kernel
theorem dX3_between_147 : decode cX3_between 147 = .ok (.iload 5, 2) := by decide +kernel
theorem dX3_between_149 : decode cX3_between 149 = .ok (.iload 6, 2) := by decide +kernel
theorem dX3_between_151 : decode cX3_between 151 = .ok (.iastore, 1) := by decide +kernel
theorem dX3_between_152 : decode cX3_between 152 = .ok (.iinc 5 1, 3) := by decide +kernel
theorem dX3_between_155 : decode cX3_between 155 = .ok (.goto (-104), 3) := by decide +kernel
theorem dX3_between_158 : decode cX3_between 158 = .ok (.iinc 3 1, 3) := by decide +kernel
theorem dX3_between_161 : decode cX3_between 161 = .ok (.goto (-136), 3) := by decide +kernel
theorem dX3_between_164 : decode cX3_between 164 = .ok (.aload_n 0, 1) := by decide +kernel
theorem dX3_between_165 : decode cX3_between 165 = .ok (.getfield 9, 3) := by decide +kernel
theorem dX3_between_168 : decode cX3_between 168 = .ok (.aload_n 2, 1) := by decide +kernel
theorem dX3_between_169 : decode cX3_between 169 = .ok (.getfield 15, 3) := by decide +kernel
theorem dX3_between_172 : decode cX3_between 172 = .ok (.iaload, 1) := by decide +kernel
theorem dX3_between_173 : decode cX3_between 173 = .ok (.ireturn, 1) := by decide +kernel
theorem dX3_match_0 : decode cX3_match 0 = .ok (.aload_n 1, 1) := by decide +kernel
theorem dX3_match_1 : decode cX3_match 1 = .ok (.getfield 15, 3) := by decide +kernel
theorem dX3_match_4 : decode cX3_match 4 = .ok (.aload_n 2, 1) := by decide +kernel
theorem dX3_match_5 : decode cX3_match 5 = .ok (.getfield 15, 3) := by decide +kernel
theorem dX3_match_8 : decode cX3_match 8 = .ok (.invokestatic 25, 3) := by decide +kernel
theorem dX3_match_11 : decode cX3_match 11 = .ok (.istore_n 3, 1) := by decide +kernel
theorem dX3_match_12 : decode cX3_match 12 = .ok (.iload_n 3, 1) := by decide +kernel
theorem dX3_match_13 : decode cX3_match 13 = .ok (.ifCond .ne 5, 3) := by decide +kernel
theorem dX3_match_16 : decode cX3_match 16 = .ok (.iconst 0, 1) := by decide +kernel
theorem dX3_match_17 : decode cX3_match 17 = .ok (.ireturn, 1) := by decide +kernel
theorem dX3_match_18 : decode cX3_match 18 = .ok (.bipush 100, 2) := by decide +kernel
theorem dX3_match_20 : decode cX3_match 20 = .ok (.iload_n 3, 1) := by decide +kernel
theorem dX3_match_21 : decode cX3_match 21 = .ok (.aload_n 0, 1) := by decide +kernel
theorem dX3_match_22 : decode cX3_match 22 = .ok (.aload_n 1, 1) := by decide +kernel
theorem dX3_match_23 : decode cX3_match 23 = .ok (.aload_n 2, 1) := by decide +kernel
theorem dX3_match_24 : decode cX3_match 24 = .ok (.invokevirtual 31, 3) := by decide +kernel
theorem dX3_match_27 : decode cX3_match 27 = .ok (.isub, 1) := by decide +kernel
theorem dX3_match_28 : decode cX3_match 28 = .ok (.imul, 1) := by decide +kernel
theorem dX3_match_29 : decode cX3_match 29 = .ok (.iload_n 3, 1) := by decide +kernel
theorem dX3_match_30 : decode cX3_match 30 = .ok (.idiv, 1) := by decide +kernel
theorem dX3_match_31 : decode cX3_match 31 = .ok (.ireturn, 1) := by decide +kernel
theorem dX4_init_0 : decode cX4_init 0 = .ok (.aload_n 0, 1) := by decide +kernel
theorem dX4_init_1 : decode cX4_init 1 = .ok (.invokespecial 3, 3) := by decide +kernel
theorem dX4_init_4 : decode cX4_init 4 = .ok (.aload_n 0, 1) := by decide +kernel
theorem dX4_init_5 : decode cX4_init 5 = .ok (.aload_n 1, 1) := by decide +kernel
theorem dX4_init_6 : decode cX4_init 6 = .ok (.putfield 9, 3) := by decide +kernel
theorem dX4_init_9 : decode cX4_init 9 = .ok (.aload_n 0, 1) := by decide +kernel
theorem dX4_init_10 : decode cX4_init 10 = .ok (.bipush 40, 2) := by decide +kernel
theorem dX4_init_12 : decode cX4_init 12 = .ok (.anewarray 15, 3) := by decide +kernel
theorem dX4_init_15 : decode cX4_init 15 = .ok (.putfield 17, 3) := by decide +kernel
theorem dX4_init_18 : decode cX4_init 18 = .ok (.iconst 0, 1) := by decide +kernel
theorem dX4_init_19 : decode cX4_init 19 = .ok (.istore_n 3, 1) := by decide +kernel
theorem dX4_init_20 : decode cX4_init 20 = .ok (.iload_n 3, 1) := by decide +kernel
theorem dX4_init_21 : decode cX4_init 21 = .ok (.bipush 40, 2) := by decide +kernel
theorem dX4_init_23 : decode cX4_init 23 = .ok (.if_icmp .ge 23, 3) := by decide +kernel
theorem dX4_init_26 : decode cX4_init 26 = .ok (.aload_n 0, 1) := by decide +kernel
theorem dX4_init_27 : decode cX4_init 27 = .ok (.getfield 17, 3) := by decide +kernel
theorem dX4_init_30 : decode cX4_init 30 = .ok (.iload_n 3, 1) := by decide +kernel
theorem dX4_init_31 : decode cX4_init 31 = .ok (.new 15, 3) := by decide +kernel
theorem dX4_init_34 : decode cX4_init 34 = .ok (.dup, 1) := by decide +kernel
theorem dX4_init_35 : decode cX4_init 35 = .ok (.aload_n 2, 1) := by decide +kernel
theorem dX4_init_36 : decode cX4_init 36 = .ok (.invokespecial 21, 3) := by decide +kernel
theorem dX4_init_39 : decode cX4_init 39 = .ok (.aastore, 1) := by decide +kernel
theorem dX4_init_40 : decode cX4_init 40 = .ok (.iinc 3 1, 3) := by decide +kernel
theorem dX4_init_43 : decode cX4_init 43 = .ok (.goto (-23), 3) := by decide +kernel
theorem dX4_init_46 : decode cX4_init 46 = .ok (.aload_n 0, 1) := by decide +kernel
theorem dX4_init_47 : decode cX4_init 47 = .ok (.iconst 0, 1) := by decide +kernel
theorem dX4_init_48 : decode cX4_init 48 = .ok (.putfield 24, 3) := by decide +kernel
theorem dX4_init_51 : decode cX4_init 51 = .ok (.aload_n 0, 1) := by decide +kernel
theorem dX4_init_52 : decode cX4_init 52 = .ok (.bipush 10, 2) := by decide +kernel
theorem dX4_init_54 : decode cX4_init 54 = .ok (.anewarray 28, 3) := by decide +kernel
theorem dX4_init_57 : decode cX4_init 57 = .ok (.putfield 30, 3) := by decide +kernel
theorem dX4_init_60 : decode cX4_init 60 = .ok (.iconst 0, 1) := by decide +kernel
theorem dX4_init_61 : decode cX4_init 61 = .ok (.istore_n 3, 1) := by decide +kernel
theorem dX4_init_62 : decode cX4_init 62 = .ok (.iload_n 3, 1) := by decide +kernel
theorem dX4_init_63 : decode cX4_init 63 = .ok (.bipush 10, 2) := by decide +kernel
theorem dX4_init_65 : decode cX4_init 65 = .ok (.if_icmp .ge 22, 3) := by decide +kernel
theorem dX4_init_68 : decode cX4_init 68 = .ok (.aload_n 0, 1) := by decide +kernel
theorem dX4_init_69 : decode cX4_init 69 = .ok (.getfield 30, 3) := by decide +kernel
theorem dX4_init_72 : decode cX4_init 72 = .ok (.iload_n 3, 1) := by decide +kernel
theorem dX4_init_73 : decode cX4_init 73 = .ok (.new 28, 3) := by decide +kernel
theorem dX4_init_76 : decode cX4_init 76 = .ok (.dup, 1) := by decide +kernel
theorem dX4_init_77 : decode cX4_init 77 = .ok (.invokespecial 34, 3) := by decide +kernel
theorem dX4_init_80 : decode cX4_init 80 = .ok (.aastore, 1) := by decide +kernel
theorem dX4_init_81 : decode cX4_init 81 = .ok (.iinc 3 1, 3) := by decide +kernel
theorem dX4_init_84 : decode cX4_init 84 = .ok (.goto (-22), 3) := by decide +kernel
theorem dX4_init_87 : decode cX4_init 87 = .ok (.aload_n 0, 1) := by decide +kernel
theorem dX4_init_88 : decode cX4_init 88 = .ok (.iconst 0, 1) := by decide +kernel
theorem dX4_init_89 : decode cX4_init 89 = .ok (.putfield 35, 3) := by decide +kernel
theorem dX4_init_92 : decode cX4_init 92 = .ok (.return_, 1) := by decide +kernel
theorem dX4_hasEntry_0 : decode cX4_hasEntry 0 = .ok (.iload_n 1, 1) := by decide +kernel
theorem dX4_hasEntry_1 : decode cX4_hasEntry 1 = .ok (.ifCond .lt 15, 3) := by decide +kernel
theorem dX4_hasEntry_4 : decode cX4_hasEntry 4 = .ok (.iload_n 1, 1) := by decide +kernel
theorem dX4_hasEntry_5 : decode cX4_hasEntry 5 = .ok (.aload_n 0, 1) := by decide +kernel
theorem dX4_hasEntry_6 : decode cX4_hasEntry 6 = .ok (.getfield 24, 3) := by decide +kernel
theorem dX4_hasEntry_9 : decode cX4_hasEntry 9 = .ok (.if_icmp .ge 7, 3) := by decide +kernel
theorem dX4_hasEntry_12 : decode cX4_hasEntry 12 = .ok (.iconst 1, 1) := by decide +kernel
theorem dX4_hasEntry_13 : decode cX4_hasEntry 13 = .ok (.goto 4, 3) := by decide +kernel
theorem dX4_hasEntry_16 : decode cX4_hasEntry 16 = .ok (.iconst 0, 1) := by decide +kernel
theorem dX4_hasEntry_17 : decode cX4_hasEntry 17 = .ok (.ireturn, 1) := by decide +kernel
theorem dX4_hasDispute_0 : decode cX4_hasDispute 0 = .ok (.iload_n 1, 1) := by decide +kernel
theorem dX4_hasDispute_1 : decode cX4_hasDispute 1 = .ok (.ifCond .lt 15, 3) := by decide +kernel
theorem dX4_hasDispute_4 : decode cX4_hasDispute 4 = .ok (.iload_n 1, 1) := by decide +kernel
theorem dX4_hasDispute_5 : decode cX4_hasDispute 5 = .ok (.aload_n 0, 1) := by decide +kernel
theorem dX4_hasDispute_6 : decode cX4_hasDispute 6 = .ok (.getfield 35, 3) := by decide +kernel
theorem dX4_hasDispute_9 : decode cX4_hasDispute 9 = .ok (.if_icmp .ge 7, 3) := by decide +kernel
theorem dX4_hasDispute_12 : decode cX4_hasDispute 12 = .ok (.iconst 1, 1) := by decide +kernel
theorem dX4_hasDispute_13 : decode cX4_hasDispute 13 = .ok (.goto 4, 3) := by decide +kernel
theorem dX4_hasDispute_16 : decode cX4_hasDispute 16 = .ok (.iconst 0, 1) := by decide +kernel
theorem dX4_hasDispute_17 : decode cX4_hasDispute 17 = .ok (.ireturn, 1) := by decide +kernel
theorem dX4_alikeEntry_0 : decode cX4_alikeEntry 0 = .ok (.iconst 0, 1) := by decide +kernel
theorem dX4_alikeEntry_1 : decode cX4_alikeEntry 1 = .ok (.istore_n 2, 1) := by decide +kernel
theorem dX4_alikeEntry_2 : decode cX4_alikeEntry 2 = .ok (.iload_n 2, 1) := by decide +kernel
theorem dX4_alikeEntry_3 : decode cX4_alikeEntry 3 = .ok (.aload_n 0, 1) := by decide +kernel
theorem dX4_alikeEntry_4 : decode cX4_alikeEntry 4 = .ok (.getfield 24, 3) := by decide +kernel
theorem dX4_alikeEntry_7 : decode cX4_alikeEntry 7 = .ok (.if_icmp .ge 27, 3) := by decide +kernel
theorem dX4_alikeEntry_10 : decode cX4_alikeEntry 10 = .ok (.aload_n 0, 1) := by decide +kernel
theorem dX4_alikeEntry_11 : decode cX4_alikeEntry 11 = .ok (.getfield 17, 3) := by decide +kernel
theorem dX4_alikeEntry_14 : decode cX4_alikeEntry 14 = .ok (.iload_n 2, 1) := by decide +kernel
theorem dX4_alikeEntry_15 : decode cX4_alikeEntry 15 = .ok (.aaload, 1) := by decide +kernel
theorem dX4_alikeEntry_16 : decode cX4_alikeEntry 16 = .ok (.getfield 38, 3) := by decide +kernel
theorem dX4_alikeEntry_19 : decode cX4_alikeEntry 19 = .ok (.aload_n 1, 1) := by decide +kernel
theorem dX4_alikeEntry_20 : decode cX4_alikeEntry 20 = .ok (.invokevirtual 42, 3) := by decide +kernel
theorem dX4_alikeEntry_23 : decode cX4_alikeEntry 23 = .ok (.ifCond .eq 5, 3) := by decide +kernel
theorem dX4_alikeEntry_26 : decode cX4_alikeEntry 26 = .ok (.iload_n 2, 1) := by decide +kernel
theorem dX4_alikeEntry_27 : decode cX4_alikeEntry 27 = .ok (.ireturn, 1) := by decide +kernel
theorem dX4_alikeEntry_28 : decode cX4_alikeEntry 28 = .ok (.iinc 2 1, 3) := by decide +kernel
theorem dX4_alikeEntry_31 : decode cX4_alikeEntry 31 = .ok (.goto (-29), 3) := by decide +kernel
theorem dX4_alikeEntry_34 : decode cX4_alikeEntry 34 = .ok (.bipush (-5), 2) := by decide +kernel
theorem dX4_alikeEntry_36 : decode cX4_alikeEntry 36 = .ok (.ireturn, 1) := by decide +kernel
theorem dX4_addEntry_0 : decode cX4_addEntry 0 = .ok (.aload_n 0, 1) := by decide +kernel
theorem dX4_addEntry_1 : decode cX4_addEntry 1 = .ok (.getfield 24, 3) := by decide +kernel
theorem dX4_addEntry_4 : decode cX4_addEntry 4 = .ok (.bipush 40, 2) := by decide +kernel
theorem dX4_addEntry_6 : decode cX4_addEntry 6 = .ok (.if_icmp .lt 6, 3) := by decide +kernel
theorem dX4_addEntry_9 : decode cX4_addEntry 9 = .ok (.bipush (-3), 2) := by decide +kernel
theorem dX4_addEntry_11 : decode cX4_addEntry 11 = .ok (.ireturn, 1) := by decide +kernel
theorem dX4_addEntry_12 : decode cX4_addEntry 12 = .ok (.aload_n 0, 1) := by decide +kernel
theorem dX4_addEntry_13 : decode cX4_addEntry 13 = .ok (.getfield 17, 3) := by decide +kernel
theorem dX4_addEntry_16 : decode cX4_addEntry 16 = .ok (.aload_n 0, 1) := by decide +kernel
theorem dX4_addEntry_17 : decode cX4_addEntry 17 = .ok (.getfield 24, 3) := by decide +kernel
theorem dX4_addEntry_20 : decode cX4_addEntry 20 = .ok (.aaload, 1) := by decide +kernel
theorem dX4_addEntry_21 : decode cX4_addEntry 21 = .ok (.aload_n 1, 1) := by decide +kernel
theorem dX4_addEntry_22 : decode cX4_addEntry 22 = .ok (.iload_n 2, 1) := by decide +kernel
theorem dX4_addEntry_23 : decode cX4_addEntry 23 = .ok (.invokevirtual 48, 3) := by decide +kernel
theorem dX4_addEntry_26 : decode cX4_addEntry 26 = .ok (.aload_n 0, 1) := by decide +kernel
theorem dX4_addEntry_27 : decode cX4_addEntry 27 = .ok (.dup, 1) := by decide +kernel
theorem dX4_addEntry_28 : decode cX4_addEntry 28 = .ok (.getfield 24, 3) := by decide +kernel
theorem dX4_addEntry_31 : decode cX4_addEntry 31 = .ok (.iconst 1, 1) := by decide +kernel
theorem dX4_addEntry_32 : decode cX4_addEntry 32 = .ok (.iadd, 1) := by decide +kernel
theorem dX4_addEntry_33 : decode cX4_addEntry 33 = .ok (.putfield 24, 3) := by decide +kernel
theorem dX4_addEntry_36 : decode cX4_addEntry 36 = .ok (.aload_n 0, 1) := by decide +kernel
theorem dX4_addEntry_37 : decode cX4_addEntry 37 = .ok (.getfield 24, 3) := by decide +kernel
theorem dX4_addEntry_40 : decode cX4_addEntry 40 = .ok (.iconst 1, 1) := by decide +kernel
theorem dX4_addEntry_41 : decode cX4_addEntry 41 = .ok (.isub, 1) := by decide +kernel
theorem dX4_addEntry_42 : decode cX4_addEntry 42 = .ok (.ireturn, 1) := by decide +kernel
theorem dX4_distanceTo_0 : decode cX4_distanceTo 0 = .ok (.aload_n 0, 1) := by decide +kernel
theorem dX4_distanceTo_1 : decode cX4_distanceTo 1 = .ok (.getfield 9, 3) := by decide +kernel
theorem dX4_distanceTo_4 : decode cX4_distanceTo 4 = .ok (.aload_n 1, 1) := by decide +kernel
theorem dX4_distanceTo_5 : decode cX4_distanceTo 5 = .ok (.aload_n 0, 1) := by decide +kernel
theorem dX4_distanceTo_6 : decode cX4_distanceTo 6 = .ok (.getfield 17, 3) := by decide +kernel
theorem dX4_distanceTo_9 : decode cX4_distanceTo 9 = .ok (.iload_n 2, 1) := by decide +kernel
theorem dX4_distanceTo_10 : decode cX4_distanceTo 10 = .ok (.aaload, 1) := by decide +kernel
theorem dX4_distanceTo_11 : decode cX4_distanceTo 11 = .ok (.getfield 38, 3) := by decide +kernel
theorem dX4_distanceTo_14 : decode cX4_distanceTo 14 = .ok (.invokevirtual 52, 3) := by decide +kernel
theorem dX4_distanceTo_17 : decode cX4_distanceTo 17 = .ok (.ireturn, 1) := by decide +kernel
theorem dX4_bestMatch_0 : decode cX4_bestMatch 0 = .ok (.iconst 0, 1) := by decide +kernel
theorem dX4_bestMatch_1 : decode cX4_bestMatch 1 = .ok (.istore_n 2, 1) := by decide +kernel
theorem dX4_bestMatch_2 : decode cX4_bestMatch 2 = .ok (.iconst 0, 1) := by decide +kernel
theorem dX4_bestMatch_3 : decode cX4_bestMatch 3 = .ok (.istore_n 3, 1) := by decide +kernel
theorem dX4_bestMatch_4 : decode cX4_bestMatch 4 = .ok (.iload_n 3, 1) := by decide +kernel
theorem dX4_bestMatch_5 : decode cX4_bestMatch 5 = .ok (.aload_n 0, 1) := by decide +kernel
theorem dX4_bestMatch_6 : decode cX4_bestMatch 6 = .ok (.getfield 24, 3) := by decide +kernel
theorem dX4_bestMatch_9 : decode cX4_bestMatch 9 = .ok (.if_icmp .ge 31, 3) := by decide +kernel
theorem dX4_bestMatch_12 : decode cX4_bestMatch 12 = .ok (.iload_n 2, 1) := by decide +kernel
theorem dX4_bestMatch_13 : decode cX4_bestMatch 13 = .ok (.aload_n 0, 1) := by decide +kernel
theorem dX4_bestMatch_14 : decode cX4_bestMatch 14 = .ok (.getfield 9, 3) := by decide +kernel
theorem dX4_bestMatch_17 : decode cX4_bestMatch 17 = .ok (.aload_n 1, 1) := by decide +kernel
theorem dX4_bestMatch_18 : decode cX4_bestMatch 18 = .ok (.aload_n 0, 1) := by decide +kernel
theorem dX4_bestMatch_19 : decode cX4_bestMatch 19 = .ok (.getfield 17, 3) := by decide +kernel
theorem dX4_bestMatch_22 : decode cX4_bestMatch 22 = .ok (.iload_n 3, 1) := by decide +kernel
theorem dX4_bestMatch_23 : decode cX4_bestMatch 23 = .ok (.aaload, 1) := by decide +kernel
theorem dX4_bestMatch_24 : decode cX4_bestMatch 24 = .ok (.getfield 38, 3) := by decide +kernel
theorem dX4_bestMatch_27 : decode cX4_bestMatch 27 = .ok (.invokevirtual 58, 3) := by decide +kernel
theorem dX4_bestMatch_30 : decode cX4_bestMatch 30 = .ok (.invokestatic 61, 3) := by decide +kernel
theorem dX4_bestMatch_33 : decode cX4_bestMatch 33 = .ok (.istore_n 2, 1) := by decide +kernel
theorem dX4_bestMatch_34 : decode cX4_bestMatch 34 = .ok (.iinc 3 1, 3) := by decide +kernel
theorem dX4_bestMatch_37 : decode cX4_bestMatch 37 = .ok (.goto (-33), 3) := by decide +kernel
theorem dX4_bestMatch_40 : decode cX4_bestMatch 40 = .ok (.iload_n 2, 1) := by decide +kernel
theorem dX4_bestMatch_41 : decode cX4_bestMatch 41 = .ok (.ireturn, 1) := by decide +kernel
theorem dX4_bestEntry_0 : decode cX4_bestEntry 0 = .ok (.aload_n 0, 1) := by decide +kernel
theorem dX4_bestEntry_1 : decode cX4_bestEntry 1 = .ok (.aload_n 1, 1) := by decide +kernel
theorem dX4_bestEntry_2 : decode cX4_bestEntry 2 = .ok (.invokevirtual 67, 3) := by decide +kernel
theorem dX4_bestEntry_5 : decode cX4_bestEntry 5 = .ok (.istore_n 2, 1) := by decide +kernel
theorem dX4_bestEntry_6 : decode cX4_bestEntry 6 = .ok (.iconst 0, 1) := by decide +kernel
theorem dX4_bestEntry_7 : decode cX4_bestEntry 7 = .ok (.istore_n 3, 1) := by decide +kernel
theorem dX4_bestEntry_8 : decode cX4_bestEntry 8 = .ok (.iload_n 2, 1) := by decide +kernel
theorem dX4_bestEntry_9 : decode cX4_bestEntry 9 = .ok (.ifCond .le 40, 3) := by decide +kernel
theorem dX4_bestEntry_12 : decode cX4_bestEntry 12 = .ok (.iload_n 3, 1) := by decide +kernel
theorem dX4_bestEntry_13 : decode cX4_bestEntry 13 = .ok (.aload_n 0, 1) := by decide +kernel
theorem dX4_bestEntry_14 : decode cX4_bestEntry 14 = .ok (.getfield 24, 3) := by decide +kernel
theorem dX4_bestEntry_17 : decode cX4_bestEntry 17 = .ok (.if_icmp .ge 32, 3) := by decide +kernel
theorem dX4_bestEntry_20 : decode cX4_bestEntry 20 = .ok (.aload_n 0, 1) := by decide +kernel
theorem dX4_bestEntry_21 : decode cX4_bestEntry 21 = .ok (.getfield 9, 3) := by decide +kernel
theorem dX4_bestEntry_24 : decode cX4_bestEntry 24 = .ok (.aload_n 1, 1) := by decide +kernel
theorem dX4_bestEntry_25 : decode cX4_bestEntry 25 = .ok (.aload_n 0, 1) := by decide +kernel
theorem dX4_bestEntry_26 : decode cX4_bestEntry 26 = .ok (.getfield 17, 3) := by decide +kernel
theorem dX4_bestEntry_29 : decode cX4_bestEntry 29 = .ok (.iload_n 3, 1) := by decide +kernel
theorem dX4_bestEntry_30 : decode cX4_bestEntry 30 = .ok (.aaload, 1) := by decide +kernel
theorem dX4_bestEntry_31 : decode cX4_bestEntry 31 = .ok (.getfield 38, 3) := by decide +kernel
theorem dX4_bestEntry_34 : decode cX4_bestEntry 34 = .ok (.invokevirtual 58, 3) := by decide +kernel
theorem dX4_bestEntry_37 : decode cX4_bestEntry 37 = .ok (.iload_n 2, 1) := by decide +kernel
theorem dX4_bestEntry_38 : decode cX4_bestEntry 38 = .ok (.if_icmp .ne 5, 3) := by decide +kernel
theorem dX4_bestEntry_41 : decode cX4_bestEntry 41 = .ok (.iload_n 3, 1) := by decide +kernel
theorem dX4_bestEntry_42 : decode cX4_bestEntry 42 = .ok (.ireturn, 1) := by decide +kernel
theorem dX4_bestEntry_43 : decode cX4_bestEntry 43 = .ok (.iinc 3 1, 3) := by decide +kernel
theorem dX4_bestEntry_46 : decode cX4_bestEntry 46 = .ok (.goto (-38), 3) := by decide +kernel
theorem dX4_bestEntry_49 : decode cX4_bestEntry 49 = .ok (.bipush (-5), 2) := by decide +kernel
theorem dX4_bestEntry_51 : decode cX4_bestEntry 51 = .ok (.ireturn, 1) := by decide +kernel
theorem dX4_fillFromEntries_0 : decode cX4_fillFromEntries 0 = .ok (.iconst 0, 1) := by decide +kernel
theorem dX4_fillFromEntries_1 : decode cX4_fillFromEntries 1 = .ok (.istore_n 2, 1) := by decide +kernel
theorem dX4_fillFromEntries_2 : decode cX4_fillFromEntries 2 = .ok (.iload_n 2, 1) := by decide +kernel
theorem dX4_fillFromEntries_3 : decode cX4_fillFromEntries 3 = .ok (.aload_n 1, 1) := by decide +kernel
theorem dX4_fillFromEntries_4 : decode cX4_fillFromEntries 4 = .ok (.getfield 71, 3) := by decide +kernel
theorem dX4_fillFromEntries_7 : decode cX4_fillFromEntries 7 = .ok (.if_icmp .ge 52, 3) := by decide +kernel
theorem dX4_fillFromEntries_10 : decode cX4_fillFromEntries 10 = .ok (.aload_n 0, 1) := by decide +kernel
theorem dX4_fillFromEntries_11 : decode cX4_fillFromEntries 11 = .ok (.aload_n 1, 1) := by decide +kernel
theorem dX4_fillFromEntries_12 : decode cX4_fillFromEntries 12 = .ok (.getfield 76, 3) := by decide +kernel
theorem dX4_fillFromEntries_15 : decode cX4_fillFromEntries 15 = .ok (.iload_n 2, 1) := by decide +kernel
theorem dX4_fillFromEntries_16 : decode cX4_fillFromEntries 16 = .ok (.aaload, 1) := by decide +kernel
theorem dX4_fillFromEntries_17 : decode cX4_fillFromEntries 17 = .ok (.invokevirtual 80, 3) := by decide +kernel
theorem dX4_fillFromEntries_20 : decode cX4_fillFromEntries 20 = .ok (.istore_n 3, 1) := by decide +kernel
theorem dX4_fillFromEntries_21 : decode cX4_fillFromEntries 21 = .ok (.aload_n 1, 1) := by decide +kernel
theorem dX4_fillFromEntries_22 : decode cX4_fillFromEntries 22 = .ok (.getfield 83, 3) := by decide +kernel
theorem dX4_fillFromEntries_25 : decode cX4_fillFromEntries 25 = .ok (.iload_n 2, 1) := by decide +kernel
theorem dX4_fillFromEntries_26 : decode cX4_fillFromEntries 26 = .ok (.iaload, 1) := by decide +kernel
theorem dX4_fillFromEntries_27 : decode cX4_fillFromEntries 27 = .ok (.ifCond .ne 26, 3) := by decide +kernel
theorem dX4_fillFromEntries_30 : decode cX4_fillFromEntries 30 = .ok (.aload_n 0, 1) := by decide +kernel
theorem dX4_fillFromEntries_31 : decode cX4_fillFromEntries 31 = .ok (.iload_n 3, 1) := by decide +kernel
theorem dX4_fillFromEntries_32 : decode cX4_fillFromEntries 32 = .ok (.invokevirtual 87, 3) := by decide +kernel
theorem dX4_fillFromEntries_35 : decode cX4_fillFromEntries 35 = .ok (.ifCond .eq 18, 3) := by decide +kernel
theorem dX4_fillFromEntries_38 : decode cX4_fillFromEntries 38 = .ok (.aload_n 1, 1) := by decide +kernel
theorem dX4_fillFromEntries_39 : decode cX4_fillFromEntries 39 = .ok (.iload_n 2, 1) := by decide +kernel
theorem dX4_fillFromEntries_40 : decode cX4_fillFromEntries 40 = .ok (.aload_n 0, 1) := by decide +kernel
theorem dX4_fillFromEntries_41 : decode cX4_fillFromEntries 41 = .ok (.getfield 17, 3) := by decide +kernel
theorem dX4_fillFromEntries_44 : decode cX4_fillFromEntries 44 = .ok (.iload_n 3, 1) := by decide +kernel
theorem dX4_fillFromEntries_45 : decode cX4_fillFromEntries 45 = .ok (.aaload, 1) := by decide +kernel
theorem dX4_fillFromEntries_46 : decode cX4_fillFromEntries 46 = .ok (.getfield 91, 3) := by decide +kernel
theorem dX4_fillFromEntries_49 : decode cX4_fillFromEntries 49 = .ok (.iconst 3, 1) := by decide +kernel
theorem dX4_fillFromEntries_50 : decode cX4_fillFromEntries 50 = .ok (.invokevirtual 94, 3) := by decide +kernel
theorem dX4_fillFromEntries_53 : decode cX4_fillFromEntries 53 = .ok (.iinc 2 1, 3) := by decide +kernel
theorem dX4_fillFromEntries_56 : decode cX4_fillFromEntries 56 = .ok (.goto (-54), 3) := by decide +kernel
theorem dX4_fillFromEntries_59 : decode cX4_fillFromEntries 59 = .ok (.return_, 1) := by decide +kernel
theorem dX4_isSettledOtherwise_0 : decode cX4_isSettledOtherwise 0 = .ok (.aload_n 0, 1) := by decide +kernel
theorem dX4_isSettledOtherwise_1 : decode cX4_isSettledOtherwise 1 = .ok (.aload_n 1, 1) := by decide +kernel
theorem dX4_isSettledOtherwise_2 : decode cX4_isSettledOtherwise 2 = .ok (.invokevirtual 80, 3) := by decide +kernel
theorem dX4_isSettledOtherwise_5 : decode cX4_isSettledOtherwise 5 = .ok (.istore_n 3, 1) := by decide +kernel
theorem dX4_isSettledOtherwise_6 : decode cX4_isSettledOtherwise 6 = .ok (.aload_n 0, 1) := by decide +kernel
theorem dX4_isSettledOtherwise_7 : decode cX4_isSettledOtherwise 7 = .ok (.iload_n 3, 1) := by decide +kernel
theorem dX4_isSettledOtherwise_8 : decode cX4_isSettledOtherwise 8 = .ok (.invokevirtual 87, 3) := by decide +kernel
theorem dX4_isSettledOtherwise_11 : decode cX4_isSettledOtherwise 11 = .ok (.ifCond .eq 32, 3) := by decide +kernel
theorem dX4_isSettledOtherwise_14 : decode cX4_isSettledOtherwise 14 = .ok (.aload_n 0, 1) := by decide +kernel
theorem dX4_isSettledOtherwise_15 : decode cX4_isSettledOtherwise 15 = .ok (.getfield 17, 3) := by decide +kernel
theorem dX4_isSettledOtherwise_18 : decode cX4_isSettledOtherwise 18 = .ok (.iload_n 3, 1) := by decide +kernel
theorem dX4_isSettledOtherwise_19 : decode cX4_isSettledOtherwise 19 = .ok (.aaload, 1) := by decide +kernel
theorem dX4_isSettledOtherwise_20 : decode cX4_isSettledOtherwise 20 = .ok (.getfield 98, 3) := by decide +kernel
theorem dX4_isSettledOtherwise_23 : decode cX4_isSettledOtherwise 23 = .ok (.ifCond .eq 20, 3) := by decide +kernel
theorem dX4_isSettledOtherwise_26 : decode cX4_isSettledOtherwise 26 = .ok (.aload_n 0, 1) := by decide +kernel
theorem dX4_isSettledOtherwise_27 : decode cX4_isSettledOtherwise 27 = .ok (.getfield 17, 3) := by decide +kernel
theorem dX4_isSettledOtherwise_30 : decode cX4_isSettledOtherwise 30 = .ok (.iload_n 3, 1) := by decide +kernel
theorem dX4_isSettledOtherwise_31 : decode cX4_isSettledOtherwise 31 = .ok (.aaload, 1) := by decide +kernel
theorem dX4_isSettledOtherwise_32 : decode cX4_isSettledOtherwise 32 = .ok (.getfield 91, 3) := by decide +kernel
theorem dX4_isSettledOtherwise_35 : decode cX4_isSettledOtherwise 35 = .ok (.iload_n 2, 1) := by decide +kernel
theorem dX4_isSettledOtherwise_36 : decode cX4_isSettledOtherwise 36 = .ok (.if_icmp .eq 7, 3) := by decide +kernel
theorem dX4_isSettledOtherwise_39 : decode cX4_isSettledOtherwise 39 = .ok (.iconst 1, 1) := by decide +kernel
theorem dX4_isSettledOtherwise_40 : decode cX4_isSettledOtherwise 40 = .ok (.goto 4, 3) := by decide +kernel
theorem dX4_isSettledOtherwise_43 : decode cX4_isSettledOtherwise 43 = .ok (.iconst 0, 1) := by decide +kernel
theorem dX4_isSettledOtherwise_44 : decode cX4_isSettledOtherwise 44 = .ok (.ireturn, 1) := by decide +kernel
theorem dX4_hasRoomFor_0 : decode cX4_hasRoomFor 0 = .ok (.aload_n 0, 1) := by decide +kernel
theorem dX4_hasRoomFor_1 : decode cX4_hasRoomFor 1 = .ok (.aload_n 1, 1) := by decide +kernel
theorem dX4_hasRoomFor_2 : decode cX4_hasRoomFor 2 = .ok (.invokevirtual 80, 3) := by decide +kernel
theorem dX4_hasRoomFor_5 : decode cX4_hasRoomFor 5 = .ok (.istore_n 3, 1) := by decide +kernel
theorem dX4_hasRoomFor_6 : decode cX4_hasRoomFor 6 = .ok (.aload_n 0, 1) := by decide +kernel
theorem dX4_hasRoomFor_7 : decode cX4_hasRoomFor 7 = .ok (.iload_n 3, 1) := by decide +kernel
theorem dX4_hasRoomFor_8 : decode cX4_hasRoomFor 8 = .ok (.invokevirtual 87, 3) := by decide +kernel
theorem dX4_hasRoomFor_11 : decode cX4_hasRoomFor 11 = .ok (.ifCond .ne 18, 3) := by decide +kernel
theorem dX4_hasRoomFor_14 : decode cX4_hasRoomFor 14 = .ok (.aload_n 0, 1) := by decide +kernel
theorem dX4_hasRoomFor_15 : decode cX4_hasRoomFor 15 = .ok (.getfield 24, 3) := by decide +kernel
theorem dX4_hasRoomFor_18 : decode cX4_hasRoomFor 18 = .ok (.bipush 40, 2) := by decide +kernel
theorem dX4_hasRoomFor_20 : decode cX4_hasRoomFor 20 = .ok (.if_icmp .ge 7, 3) := by decide +kernel
theorem dX4_hasRoomFor_23 : decode cX4_hasRoomFor 23 = .ok (.iconst 1, 1) := by decide +kernel
theorem dX4_hasRoomFor_24 : decode cX4_hasRoomFor 24 = .ok (.goto 4, 3) := by decide +kernel
theorem dX4_hasRoomFor_27 : decode cX4_hasRoomFor 27 = .ok (.iconst 0, 1) := by decide +kernel
theorem dX4_hasRoomFor_28 : decode cX4_hasRoomFor 28 = .ok (.ireturn, 1) := by decide +kernel
theorem dX4_hasRoomFor_29 : decode cX4_hasRoomFor 29 = .ok (.aload_n 0, 1) := by decide +kernel
theorem dX4_hasRoomFor_30 : decode cX4_hasRoomFor 30 = .ok (.iload_n 3, 1) := by decide +kernel
theorem dX4_hasRoomFor_31 : decode cX4_hasRoomFor 31 = .ok (.iload_n 2, 1) := by decide +kernel
theorem dX4_hasRoomFor_32 : decode cX4_hasRoomFor 32 = .ok (.invokevirtual 102, 3) := by decide +kernel
theorem dX4_hasRoomFor_35 : decode cX4_hasRoomFor 35 = .ok (.ifCond .eq 12, 3) := by decide +kernel
theorem dX4_hasRoomFor_38 : decode cX4_hasRoomFor 38 = .ok (.aload_n 0, 1) := by decide +kernel
theorem dX4_hasRoomFor_39 : decode cX4_hasRoomFor 39 = .ok (.getfield 35, 3) := by decide +kernel
theorem dX4_hasRoomFor_42 : decode cX4_hasRoomFor 42 = .ok (.bipush 10, 2) := by decide +kernel
theorem dX4_hasRoomFor_44 : decode cX4_hasRoomFor 44 = .ok (.if_icmp .ge 7, 3) := by decide +kernel
theorem dX4_hasRoomFor_47 : decode cX4_hasRoomFor 47 = .ok (.iconst 1, 1) := by decide +kernel
theorem dX4_hasRoomFor_48 : decode cX4_hasRoomFor 48 = .ok (.goto 4, 3) := by decide +kernel
theorem dX4_hasRoomFor_51 : decode cX4_hasRoomFor 51 = .ok (.iconst 0, 1) := by decide +kernel
theorem dX4_hasRoomFor_52 : decode cX4_hasRoomFor 52 = .ok (.ireturn, 1) := by decide +kernel
theorem dX4_learn_0 : decode cX4_learn 0 = .ok (.aload_n 0, 1) := by decide +kernel
theorem dX4_learn_1 : decode cX4_learn 1 = .ok (.aload_n 1, 1) := by decide +kernel
theorem dX4_learn_2 : decode cX4_learn 2 = .ok (.invokevirtual 80, 3) := by decide +kernel
theorem dX4_learn_5 : decode cX4_learn 5 = .ok (.istore_n 3, 1) := by decide +kernel
theorem dX4_learn_6 : decode cX4_learn 6 = .ok (.aload_n 0, 1) := by decide +kernel
theorem dX4_learn_7 : decode cX4_learn 7 = .ok (.iload_n 3, 1) := by decide +kernel
theorem dX4_learn_8 : decode cX4_learn 8 = .ok (.invokevirtual 87, 3) := by decide +kernel
theorem dX4_learn_11 : decode cX4_learn 11 = .ok (.ifCond .ne 13, 3) := by decide +kernel
theorem dX4_learn_14 : decode cX4_learn 14 = .ok (.aload_n 0, 1) := by decide +kernel
theorem dX4_learn_15 : decode cX4_learn 15 = .ok (.aload_n 1, 1) := by decide +kernel
theorem dX4_learn_16 : decode cX4_learn 16 = .ok (.iload_n 2, 1) := by decide +kernel
theorem dX4_learn_17 : decode cX4_learn 17 = .ok (.invokevirtual 106, 3) := by decide +kernel
theorem dX4_learn_20 : decode cX4_learn 20 = .ok (.pop, 1) := by decide +kernel
theorem dX4_learn_21 : decode cX4_learn 21 = .ok (.goto 54, 3) := by decide +kernel
theorem dX4_learn_24 : decode cX4_learn 24 = .ok (.aload_n 0, 1) := by decide +kernel
theorem dX4_learn_25 : decode cX4_learn 25 = .ok (.iload_n 3, 1) := by decide +kernel
theorem dX4_learn_26 : decode cX4_learn 26 = .ok (.iload_n 2, 1) := by decide +kernel
theorem dX4_learn_27 : decode cX4_learn 27 = .ok (.invokevirtual 102, 3) := by decide +kernel
theorem dX4_learn_30 : decode cX4_learn 30 = .ok (.ifCond .eq 45, 3) := by decide +kernel
theorem dX4_learn_33 : decode cX4_learn 33 = .ok (.aload_n 0, 1) := by decide +kernel
theorem dX4_learn_34 : decode cX4_learn 34 = .ok (.getfield 35, 3) := by decide +kernel
theorem dX4_learn_37 : decode cX4_learn 37 = .ok (.bipush 10, 2) := by decide +kernel
theorem dX4_learn_39 : decode cX4_learn 39 = .ok (.if_icmp .ge 36, 3) := by decide +kernel
theorem dX4_learn_42 : decode cX4_learn 42 = .ok (.aload_n 0, 1) := by decide +kernel
theorem dX4_learn_43 : decode cX4_learn 43 = .ok (.getfield 30, 3) := by decide +kernel
theorem dX4_learn_46 : decode cX4_learn 46 = .ok (.aload_n 0, 1) := by decide +kernel
theorem dX4_learn_47 : decode cX4_learn 47 = .ok (.getfield 35, 3) := by decide +kernel
theorem dX4_learn_50 : decode cX4_learn 50 = .ok (.aaload, 1) := by decide +kernel
theorem dX4_learn_51 : decode cX4_learn 51 = .ok (.iload_n 3, 1) := by decide +kernel
theorem dX4_learn_52 : decode cX4_learn 52 = .ok (.aload_n 0, 1) := by decide +kernel
theorem dX4_learn_53 : decode cX4_learn 53 = .ok (.getfield 17, 3) := by decide +kernel
theorem dX4_learn_56 : decode cX4_learn 56 = .ok (.iload_n 3, 1) := by decide +kernel
theorem dX4_learn_57 : decode cX4_learn 57 = .ok (.aaload, 1) := by decide +kernel
theorem dX4_learn_58 : decode cX4_learn 58 = .ok (.getfield 91, 3) := by decide +kernel
theorem dX4_learn_61 : decode cX4_learn 61 = .ok (.iload_n 2, 1) := by decide +kernel
theorem dX4_learn_62 : decode cX4_learn 62 = .ok (.invokevirtual 110, 3) := by decide +kernel
theorem dX4_learn_65 : decode cX4_learn 65 = .ok (.aload_n 0, 1) := by decide +kernel
theorem dX4_learn_66 : decode cX4_learn 66 = .ok (.dup, 1) := by decide +kernel
theorem dX4_learn_67 : decode cX4_learn 67 = .ok (.getfield 35, 3) := by decide +kernel
theorem dX4_learn_70 : decode cX4_learn 70 = .ok (.iconst 1, 1) := by decide +kernel
theorem dX4_learn_71 : decode cX4_learn 71 = .ok (.iadd, 1) := by decide +kernel
theorem dX4_learn_72 : decode cX4_learn 72 = .ok (.putfield 35, 3) := by decide +kernel
theorem dX4_learn_75 : decode cX4_learn 75 = .ok (.return_, 1) := by decide +kernel
theorem dX4_needsDispute_0 : decode cX4_needsDispute 0 = .ok (.aload_n 0, 1) := by decide +kernel
theorem dX4_needsDispute_1 : decode cX4_needsDispute 1 = .ok (.getfield 17, 3) := by decide +kernel
theorem dX4_needsDispute_4 : decode cX4_needsDispute 4 = .ok (.iload_n 1, 1) := by decide +kernel
theorem dX4_needsDispute_5 : decode cX4_needsDispute 5 = .ok (.aaload, 1) := by decide +kernel
theorem dX4_needsDispute_6 : decode cX4_needsDispute 6 = .ok (.getfield 91, 3) := by decide +kernel
theorem dX4_needsDispute_9 : decode cX4_needsDispute 9 = .ok (.iload_n 2, 1) := by decide +kernel
theorem dX4_needsDispute_10 : decode cX4_needsDispute 10 = .ok (.if_icmp .eq 17, 3) := by decide +kernel
theorem dX4_needsDispute_13 : decode cX4_needsDispute 13 = .ok (.aload_n 0, 1) := by decide +kernel
theorem dX4_needsDispute_14 : decode cX4_needsDispute 14 = .ok (.iload_n 1, 1) := by decide +kernel
theorem dX4_needsDispute_15 : decode cX4_needsDispute 15 = .ok (.invokevirtual 112, 3) := by decide +kernel
theorem dX4_needsDispute_18 : decode cX4_needsDispute 18 = .ok (.bipush (-5), 2) := by decide +kernel
theorem dX4_needsDispute_20 : decode cX4_needsDispute 20 = .ok (.if_icmp .ne 7, 3) := by decide +kernel
theorem dX4_needsDispute_23 : decode cX4_needsDispute 23 = .ok (.iconst 1, 1) := by decide +kernel
theorem dX4_needsDispute_24 : decode cX4_needsDispute 24 = .ok (.goto 4, 3) := by decide +kernel
theorem dX4_needsDispute_27 : decode cX4_needsDispute 27 = .ok (.iconst 0, 1) := by decide +kernel
theorem dX4_needsDispute_28 : decode cX4_needsDispute 28 = .ok (.ireturn, 1) := by decide +kernel
theorem dX4_openDispute_0 : decode cX4_openDispute 0 = .ok (.iconst 0, 1) := by decide +kernel
theorem dX4_openDispute_1 : decode cX4_openDispute 1 = .ok (.istore_n 2, 1) := by decide +kernel
theorem dX4_openDispute_2 : decode cX4_openDispute 2 = .ok (.iload_n 2, 1) := by decide +kernel
theorem dX4_openDispute_3 : decode cX4_openDispute 3 = .ok (.aload_n 0, 1) := by decide +kernel
theorem dX4_openDispute_4 : decode cX4_openDispute 4 = .ok (.getfield 35, 3) := by decide +kernel
theorem dX4_openDispute_7 : decode cX4_openDispute 7 = .ok (.if_icmp .ge 36, 3) := by decide +kernel
theorem dX4_openDispute_10 : decode cX4_openDispute 10 = .ok (.aload_n 0, 1) := by decide +kernel
theorem dX4_openDispute_11 : decode cX4_openDispute 11 = .ok (.getfield 30, 3) := by decide +kernel
theorem dX4_openDispute_14 : decode cX4_openDispute 14 = .ok (.iload_n 2, 1) := by decide +kernel
theorem dX4_openDispute_15 : decode cX4_openDispute 15 = .ok (.aaload, 1) := by decide +kernel
theorem dX4_openDispute_16 : decode cX4_openDispute 16 = .ok (.getfield 116, 3) := by decide +kernel
theorem dX4_openDispute_19 : decode cX4_openDispute 19 = .ok (.iload_n 1, 1) := by decide +kernel
theorem dX4_openDispute_20 : decode cX4_openDispute 20 = .ok (.if_icmp .ne 17, 3) := by decide +kernel
theorem dX4_openDispute_23 : decode cX4_openDispute 23 = .ok (.aload_n 0, 1) := by decide +kernel
theorem dX4_openDispute_24 : decode cX4_openDispute 24 = .ok (.getfield 30, 3) := by decide +kernel
theorem dX4_openDispute_27 : decode cX4_openDispute 27 = .ok (.iload_n 2, 1) := by decide +kernel
theorem dX4_openDispute_28 : decode cX4_openDispute 28 = .ok (.aaload, 1) := by decide +kernel
theorem dX4_openDispute_29 : decode cX4_openDispute 29 = .ok (.invokevirtual 119, 3) := by decide +kernel
theorem dX4_openDispute_32 : decode cX4_openDispute 32 = .ok (.ifCond .ne 5, 3) := by decide +kernel
theorem dX4_openDispute_35 : decode cX4_openDispute 35 = .ok (.iload_n 2, 1) := by decide +kernel
theorem dX4_openDispute_36 : decode cX4_openDispute 36 = .ok (.ireturn, 1) := by decide +kernel
theorem dX4_openDispute_37 : decode cX4_openDispute 37 = .ok (.iinc 2 1, 3) := by decide +kernel
theorem dX4_openDispute_40 : decode cX4_openDispute 40 = .ok (.goto (-38), 3) := by decide +kernel
theorem dX4_openDispute_43 : decode cX4_openDispute 43 = .ok (.bipush (-5), 2) := by decide +kernel
theorem dX4_openDispute_45 : decode cX4_openDispute 45 = .ok (.ireturn, 1) := by decide +kernel
theorem dX4_isDisputed_0 : decode cX4_isDisputed 0 = .ok (.aload_n 0, 1) := by decide +kernel
theorem dX4_isDisputed_1 : decode cX4_isDisputed 1 = .ok (.aload_n 1, 1) := by decide +kernel
theorem dX4_isDisputed_2 : decode cX4_isDisputed 2 = .ok (.invokevirtual 80, 3) := by decide +kernel
theorem dX4_isDisputed_5 : decode cX4_isDisputed 5 = .ok (.istore_n 2, 1) := by decide +kernel
theorem dX4_isDisputed_6 : decode cX4_isDisputed 6 = .ok (.aload_n 0, 1) := by decide +kernel
theorem dX4_isDisputed_7 : decode cX4_isDisputed 7 = .ok (.iload_n 2, 1) := by decide +kernel
theorem dX4_isDisputed_8 : decode cX4_isDisputed 8 = .ok (.invokevirtual 87, 3) := by decide +kernel
theorem dX4_isDisputed_11 : decode cX4_isDisputed 11 = .ok (.ifCond .eq 17, 3) := by decide +kernel
theorem dX4_isDisputed_14 : decode cX4_isDisputed 14 = .ok (.aload_n 0, 1) := by decide +kernel
theorem dX4_isDisputed_15 : decode cX4_isDisputed 15 = .ok (.iload_n 2, 1) := by decide +kernel
theorem dX4_isDisputed_16 : decode cX4_isDisputed 16 = .ok (.invokevirtual 112, 3) := by decide +kernel
theorem dX4_isDisputed_19 : decode cX4_isDisputed 19 = .ok (.bipush (-5), 2) := by decide +kernel
theorem dX4_isDisputed_21 : decode cX4_isDisputed 21 = .ok (.if_icmp .eq 7, 3) := by decide +kernel
theorem dX4_isDisputed_24 : decode cX4_isDisputed 24 = .ok (.iconst 1, 1) := by decide +kernel
theorem dX4_isDisputed_25 : decode cX4_isDisputed 25 = .ok (.goto 4, 3) := by decide +kernel
theorem dX4_isDisputed_28 : decode cX4_isDisputed 28 = .ok (.iconst 0, 1) := by decide +kernel
theorem dX4_isDisputed_29 : decode cX4_isDisputed 29 = .ok (.ireturn, 1) := by decide +kernel
theorem dX4_countOpenDisputes_0 : decode cX4_countOpenDisputes 0 = .ok (.iconst 0, 1) := by decide +kernel
theorem dX4_countOpenDisputes_1 : decode cX4_countOpenDisputes 1 = .ok (.istore_n 1, 1) := by decide +kernel
theorem dX4_countOpenDisputes_2 : decode cX4_countOpenDisputes 2 = .ok (.iconst 0, 1) := by decide +kernel
theorem dX4_countOpenDisputes_3 : decode cX4_countOpenDisputes 3 = .ok (.istore_n 2, 1) := by decide +kernel
theorem dX4_countOpenDisputes_4 : decode cX4_countOpenDisputes 4 = .ok (.iload_n 2, 1) := by decide +kernel
theorem dX4_countOpenDisputes_5 : decode cX4_countOpenDisputes 5 = .ok (.aload_n 0, 1) := by decide +kernel
theorem dX4_countOpenDisputes_6 : decode cX4_countOpenDisputes 6 = .ok (.getfield 35, 3) := by decide +kernel
theorem dX4_countOpenDisputes_9 : decode cX4_countOpenDisputes 9 = .ok (.if_icmp .ge 24, 3) := by decide +kernel
theorem dX4_countOpenDisputes_12 : decode cX4_countOpenDisputes 12 = .ok (.aload_n 0, 1) := by decide +kernel
theorem dX4_countOpenDisputes_13 : decode cX4_countOpenDisputes 13 = .ok (.getfield 30, 3) := by decide +kernel
theorem dX4_countOpenDisputes_16 : decode cX4_countOpenDisputes 16 = .ok (.iload_n 2, 1) := by decide +kernel
theorem dX4_countOpenDisputes_17 : decode cX4_countOpenDisputes 17 = .ok (.aaload, 1) := by decide +kernel
theorem dX4_countOpenDisputes_18 : decode cX4_countOpenDisputes 18 = .ok (.invokevirtual 119, 3) := by decide +kernel
theorem dX4_countOpenDisputes_21 : decode cX4_countOpenDisputes 21 = .ok (.ifCond .ne 6, 3) := by decide +kernel
theorem dX4_countOpenDisputes_24 : decode cX4_countOpenDisputes 24 = .ok (.iinc 1 1, 3) := by decide +kernel
theorem dX4_countOpenDisputes_27 : decode cX4_countOpenDisputes 27 = .ok (.iinc 2 1, 3) := by decide +kernel
theorem dX4_countOpenDisputes_30 : decode cX4_countOpenDisputes 30 = .ok (.goto (-26), 3) := by decide +kernel
theorem dX4_countOpenDisputes_33 : decode cX4_countOpenDisputes 33 = .ok (.iload_n 1, 1) := by decide +kernel
theorem dX4_countOpenDisputes_34 : decode cX4_countOpenDisputes 34 = .ok (.ireturn, 1) := by decide +kernel
theorem dX4_copyFrom_0 : decode cX4_copyFrom 0 = .ok (.aload_n 0, 1) := by decide +kernel
theorem dX4_copyFrom_1 : decode cX4_copyFrom 1 = .ok (.aload_n 1, 1) := by decide +kernel
theorem dX4_copyFrom_2 : decode cX4_copyFrom 2 = .ok (.getfield 24, 3) := by decide +kernel
theorem dX4_copyFrom_5 : decode cX4_copyFrom 5 = .ok (.putfield 24, 3) := by decide +kernel
theorem dX4_copyFrom_8 : decode cX4_copyFrom 8 = .ok (.iconst 0, 1) := by decide +kernel
theorem dX4_copyFrom_9 : decode cX4_copyFrom 9 = .ok (.istore_n 2, 1) := by decide +kernel
theorem dX4_copyFrom_10 : decode cX4_copyFrom 10 = .ok (.iload_n 2, 1) := by decide +kernel
theorem dX4_copyFrom_11 : decode cX4_copyFrom 11 = .ok (.aload_n 0, 1) := by decide +kernel
theorem dX4_copyFrom_12 : decode cX4_copyFrom 12 = .ok (.getfield 24, 3) := by decide +kernel
theorem dX4_copyFrom_15 : decode cX4_copyFrom 15 = .ok (.if_icmp .ge 24, 3) := by decide +kernel
theorem dX4_copyFrom_18 : decode cX4_copyFrom 18 = .ok (.aload_n 0, 1) := by decide +kernel
theorem dX4_copyFrom_19 : decode cX4_copyFrom 19 = .ok (.getfield 17, 3) := by decide +kernel
theorem dX4_copyFrom_22 : decode cX4_copyFrom 22 = .ok (.iload_n 2, 1) := by decide +kernel
theorem dX4_copyFrom_23 : decode cX4_copyFrom 23 = .ok (.aaload, 1) := by decide +kernel
theorem dX4_copyFrom_24 : decode cX4_copyFrom 24 = .ok (.aload_n 1, 1) := by decide +kernel
theorem dX4_copyFrom_25 : decode cX4_copyFrom 25 = .ok (.getfield 17, 3) := by decide +kernel
theorem dX4_copyFrom_28 : decode cX4_copyFrom 28 = .ok (.iload_n 2, 1) := by decide +kernel
theorem dX4_copyFrom_29 : decode cX4_copyFrom 29 = .ok (.aaload, 1) := by decide +kernel
theorem dX4_copyFrom_30 : decode cX4_copyFrom 30 = .ok (.invokevirtual 123, 3) := by decide +kernel
theorem dX4_copyFrom_33 : decode cX4_copyFrom 33 = .ok (.iinc 2 1, 3) := by decide +kernel
theorem dX4_copyFrom_36 : decode cX4_copyFrom 36 = .ok (.goto (-26), 3) := by decide +kernel
theorem dX4_copyFrom_39 : decode cX4_copyFrom 39 = .ok (.aload_n 0, 1) := by decide +kernel
theorem dX4_copyFrom_40 : decode cX4_copyFrom 40 = .ok (.aload_n 1, 1) := by decide +kernel
theorem dX4_copyFrom_41 : decode cX4_copyFrom 41 = .ok (.getfield 35, 3) := by decide +kernel
theorem dX4_copyFrom_44 : decode cX4_copyFrom 44 = .ok (.putfield 35, 3) := by decide +kernel
theorem dX4_copyFrom_47 : decode cX4_copyFrom 47 = .ok (.iconst 0, 1) := by decide +kernel
theorem dX4_copyFrom_48 : decode cX4_copyFrom 48 = .ok (.istore_n 2, 1) := by decide +kernel
theorem dX4_copyFrom_49 : decode cX4_copyFrom 49 = .ok (.iload_n 2, 1) := by decide +kernel
theorem dX4_copyFrom_50 : decode cX4_copyFrom 50 = .ok (.aload_n 0, 1) := by decide +kernel
theorem dX4_copyFrom_51 : decode cX4_copyFrom 51 = .ok (.getfield 35, 3) := by decide +kernel
theorem dX4_copyFrom_54 : decode cX4_copyFrom 54 = .ok (.if_icmp .ge 24, 3) := by decide +kernel
theorem dX4_copyFrom_57 : decode cX4_copyFrom 57 = .ok (.aload_n 0, 1) := by decide +kernel
theorem dX4_copyFrom_58 : decode cX4_copyFrom 58 = .ok (.getfield 30, 3) := by decide +kernel
theorem dX4_copyFrom_61 : decode cX4_copyFrom 61 = .ok (.iload_n 2, 1) := by decide +kernel
theorem dX4_copyFrom_62 : decode cX4_copyFrom 62 = .ok (.aaload, 1) := by decide +kernel
theorem dX4_copyFrom_63 : decode cX4_copyFrom 63 = .ok (.aload_n 1, 1) := by decide +kernel
theorem dX4_copyFrom_64 : decode cX4_copyFrom 64 = .ok (.getfield 30, 3) := by decide +kernel
theorem dX4_copyFrom_67 : decode cX4_copyFrom 67 = .ok (.iload_n 2, 1) := by decide +kernel
theorem dX4_copyFrom_68 : decode cX4_copyFrom 68 = .ok (.aaload, 1) := by decide +kernel
theorem dX4_copyFrom_69 : decode cX4_copyFrom 69 = .ok (.invokevirtual 127, 3) := by decide +kernel
theorem dX4_copyFrom_72 : decode cX4_copyFrom 72 = .ok (.iinc 2 1, 3) := by decide +kernel
theorem dX4_copyFrom_75 : decode cX4_copyFrom 75 = .ok (.goto (-26), 3) := by decide +kernel
theorem dX4_copyFrom_78 : decode cX4_copyFrom 78 = .ok (.return_, 1) := by decide +kernel
theorem dX5_init_0 : decode cX5_init 0 = .ok (.aload_n 0, 1) := by decide +kernel
theorem dX5_init_1 : decode cX5_init 1 = .ok (.invokespecial 3, 3) := by decide +kernel
theorem dX5_init_4 : decode cX5_init 4 = .ok (.aload_n 0, 1) := by decide +kernel
theorem dX5_init_5 : decode cX5_init 5 = .ok (.iconst 0, 1) := by decide +kernel
theorem dX5_init_6 : decode cX5_init 6 = .ok (.invokevirtual 9, 3) := by decide +kernel
theorem dX5_init_9 : decode cX5_init 9 = .ok (.return_, 1) := by decide +kernel
theorem dX5_reset_0 : decode cX5_reset 0 = .ok (.aload_n 0, 1) := by decide +kernel
theorem dX5_reset_1 : decode cX5_reset 1 = .ok (.iload_n 1, 1) := by decide +kernel
theorem dX5_reset_2 : decode cX5_reset 2 = .ok (.putfield 15, 3) := by decide +kernel
theorem dX5_reset_5 : decode cX5_reset 5 = .ok (.aload_n 0, 1) := by decide +kernel
theorem dX5_reset_6 : decode cX5_reset 6 = .ok (.iconst 0, 1) := by decide +kernel
theorem dX5_reset_7 : decode cX5_reset 7 = .ok (.putfield 19, 3) := by decide +kernel
theorem dX5_reset_10 : decode cX5_reset 10 = .ok (.aload_n 0, 1) := by decide +kernel
theorem dX5_reset_11 : decode cX5_reset 11 = .ok (.bipush (-5), 2) := by decide +kernel
theorem dX5_reset_13 : decode cX5_reset 13 = .ok (.putfield 22, 3) := by decide +kernel
theorem dX5_reset_16 : decode cX5_reset 16 = .ok (.return_, 1) := by decide +kernel
theorem dX5_isBarredFrom_0 : decode cX5_isBarredFrom 0 = .ok (.aload_n 0, 1) := by decide +kernel
theorem dX5_isBarredFrom_1 : decode cX5_isBarredFrom 1 = .ok (.getfield 19, 3) := by decide +kernel
theorem dX5_isBarredFrom_4 : decode cX5_isBarredFrom 4 = .ok (.iload_n 1, 1) := by decide +kernel
theorem dX5_isBarredFrom_5 : decode cX5_isBarredFrom 5 = .ok (.ishr, 1) := by decide +kernel
theorem dX5_isBarredFrom_6 : decode cX5_isBarredFrom 6 = .ok (.iconst 1, 1) := by decide +kernel
theorem dX5_isBarredFrom_7 : decode cX5_isBarredFrom 7 = .ok (.iand, 1) := by decide +kernel
theorem dX5_isBarredFrom_8 : decode cX5_isBarredFrom 8 = .ok (.iconst 1, 1) := by decide +kernel
theorem dX5_isBarredFrom_9 : decode cX5_isBarredFrom 9 = .ok (.if_icmp .ne 7, 3) := by decide +kernel
theorem dX5_isBarredFrom_12 : decode cX5_isBarredFrom 12 = .ok (.iconst 1, 1) := by decide +kernel
theorem dX5_isBarredFrom_13 : decode cX5_isBarredFrom 13 = .ok (.goto 4, 3) := by decide +kernel
theorem dX5_isBarredFrom_16 : decode cX5_isBarredFrom 16 = .ok (.iconst 0, 1) := by decide +kernel
theorem dX5_isBarredFrom_17 : decode cX5_isBarredFrom 17 = .ok (.ireturn, 1) := by decide +kernel
theorem dX5_setBarredFrom_0 : decode cX5_setBarredFrom 0 = .ok (.iload_n 2, 1) := by decide +kernel
theorem dX5_setBarredFrom_1 : decode cX5_setBarredFrom 1 = .ok (.ifCond .eq 18, 3) := by decide +kernel
theorem dX5_setBarredFrom_4 : decode cX5_setBarredFrom 4 = .ok (.aload_n 0, 1) := by decide +kernel
theorem dX5_setBarredFrom_5 : decode cX5_setBarredFrom 5 = .ok (.dup, 1) := by decide +kernel
theorem dX5_setBarredFrom_6 : decode cX5_setBarredFrom 6 = .ok (.getfield 19, 3) := by decide +kernel
theorem dX5_setBarredFrom_9 : decode cX5_setBarredFrom 9 = .ok (.iconst 1, 1) := by decide +kernel
theorem dX5_setBarredFrom_10 : decode cX5_setBarredFrom 10 = .ok (.iload_n 1, 1) := by decide +kernel
theorem dX5_setBarredFrom_11 : decode cX5_setBarredFrom 11 = .ok (.ishl, 1) := by decide +kernel
theorem dX5_setBarredFrom_12 : decode cX5_setBarredFrom 12 = .ok (.ior, 1) := by decide +kernel
theorem dX5_setBarredFrom_13 : decode cX5_setBarredFrom 13 = .ok (.putfield 19, 3) := by decide +kernel
theorem dX5_setBarredFrom_16 : decode cX5_setBarredFrom 16 = .ok (.goto 17, 3) := by decide +kernel
theorem dX5_setBarredFrom_19 : decode cX5_setBarredFrom 19 = .ok (.aload_n 0, 1) := by decide +kernel
theorem dX5_setBarredFrom_20 : decode cX5_setBarredFrom 20 = .ok (.dup, 1) := by decide +kernel
theorem dX5_setBarredFrom_21 : decode cX5_setBarredFrom 21 = .ok (.getfield 19, 3) := by decide +kernel
theorem dX5_setBarredFrom_24 : decode cX5_setBarredFrom 24 = .ok (.iconst 1, 1) := by decide +kernel
theorem dX5_setBarredFrom_25 : decode cX5_setBarredFrom 25 = .ok (.iload_n 1, 1) := by decide +kernel
theorem dX5_setBarredFrom_26 : decode cX5_setBarredFrom 26 = .ok (.ishl, 1) := by decide +kernel
theorem dX5_setBarredFrom_27 : decode cX5_setBarredFrom 27 = .ok (.iconst (-1), 1) := by decide +kernel
theorem dX5_setBarredFrom_28 : decode cX5_setBarredFrom 28 = .ok (.ixor, 1) := by decide +kernel
theorem dX5_setBarredFrom_29 : decode cX5_setBarredFrom 29 = .ok (.iand, 1) := by decide +kernel
theorem dX5_setBarredFrom_30 : decode cX5_setBarredFrom 30 = .ok (.putfield 19, 3) := by decide +kernel
theorem dX5_setBarredFrom_33 : decode cX5_setBarredFrom 33 = .ok (.return_, 1) := by decide +kernel
theorem dX5_copyFrom_0 : decode cX5_copyFrom 0 = .ok (.aload_n 0, 1) := by decide +kernel
theorem dX5_copyFrom_1 : decode cX5_copyFrom 1 = .ok (.aload_n 1, 1) := by decide +kernel
theorem dX5_copyFrom_2 : decode cX5_copyFrom 2 = .ok (.getfield 15, 3) := by decide +kernel
theorem dX5_copyFrom_5 : decode cX5_copyFrom 5 = .ok (.putfield 15, 3) := by decide +kernel
theorem dX5_copyFrom_8 : decode cX5_copyFrom 8 = .ok (.aload_n 0, 1) := by decide +kernel
theorem dX5_copyFrom_9 : decode cX5_copyFrom 9 = .ok (.aload_n 1, 1) := by decide +kernel
theorem dX5_copyFrom_10 : decode cX5_copyFrom 10 = .ok (.getfield 19, 3) := by decide +kernel
theorem dX5_copyFrom_13 : decode cX5_copyFrom 13 = .ok (.putfield 19, 3) := by decide +kernel
theorem dX5_copyFrom_16 : decode cX5_copyFrom 16 = .ok (.aload_n 0, 1) := by decide +kernel
theorem dX5_copyFrom_17 : decode cX5_copyFrom 17 = .ok (.aload_n 1, 1) := by decide +kernel
theorem dX5_copyFrom_18 : decode cX5_copyFrom 18 = .ok (.getfield 22, 3) := by decide +kernel
theorem dX5_copyFrom_21 : decode cX5_copyFrom 21 = .ok (.putfield 22, 3) := by decide +kernel
theorem dX5_copyFrom_24 : decode cX5_copyFrom 24 = .ok (.return_, 1) := by decide +kernel
theorem dX6_init_0 : decode cX6_init 0 = .ok (.aload_n 0, 1) := by decide +kernel
theorem dX6_init_1 : decode cX6_init 1 = .ok (.invokespecial 3, 3) := by decide +kernel
theorem dX6_init_4 : decode cX6_init 4 = .ok (.aload_n 0, 1) := by decide +kernel
theorem dX6_init_5 : decode cX6_init 5 = .ok (.aload_n 1, 1) := by decide +kernel
theorem dX6_init_6 : decode cX6_init 6 = .ok (.putfield 9, 3) := by decide +kernel
theorem dX6_init_9 : decode cX6_init 9 = .ok (.aload_n 0, 1) := by decide +kernel
theorem dX6_init_10 : decode cX6_init 10 = .ok (.bipush 8, 2) := by decide +kernel
theorem dX6_init_12 : decode cX6_init 12 = .ok (.newarray .long, 2) := by decide +kernel
theorem dX6_init_14 : decode cX6_init 14 = .ok (.putfield 15, 3) := by decide +kernel
theorem dX6_init_17 : decode cX6_init 17 = .ok (.aload_n 0, 1) := by decide +kernel
theorem dX6_init_18 : decode cX6_init 18 = .ok (.iconst 0, 1) := by decide +kernel
theorem dX6_init_19 : decode cX6_init 19 = .ok (.putfield 19, 3) := by decide +kernel
theorem dX6_init_22 : decode cX6_init 22 = .ok (.lconst 0, 1) := by decide +kernel
theorem dX6_init_23 : decode cX6_init 23 = .ok (.lstore_n 2, 1) := by decide +kernel
theorem dX6_init_24 : decode cX6_init 24 = .ok (.iconst 0, 1) := by decide +kernel
theorem dX6_init_25 : decode cX6_init 25 = .ok (.istore 4, 2) := by decide +kernel
theorem dX6_init_27 : decode cX6_init 27 = .ok (.iload 4, 2) := by decide +kernel
theorem dX6_init_29 : decode cX6_init 29 = .ok (.aload_n 1, 1) := by decide +kernel
theorem dX6_init_30 : decode cX6_init 30 = .ok (.arraylength, 1) := by decide +kernel
theorem dX6_init_31 : decode cX6_init 31 = .ok (.if_icmp .ge 45, 3) := by decide +kernel
theorem dX6_init_34 : decode cX6_init 34 = .ok (.aload_n 1, 1) := by decide +kernel
theorem dX6_init_35 : decode cX6_init 35 = .ok (.iload 4, 2) := by decide +kernel
theorem dX6_init_37 : decode cX6_init 37 = .ok (.caload, 1) := by decide +kernel
theorem dX6_init_38 : decode cX6_init 38 = .ok (.bipush 32, 2) := by decide +kernel
theorem dX6_init_40 : decode cX6_init 40 = .ok (.if_icmp .ne 13, 3) := by decide +kernel
theorem dX6_init_43 : decode cX6_init 43 = .ok (.aload_n 0, 1) := by decide +kernel
theorem dX6_init_44 : decode cX6_init 44 = .ok (.lload_n 2, 1) := by decide +kernel
theorem dX6_init_45 : decode cX6_init 45 = .ok (.invokevirtual 23, 3) := by decide +kernel
theorem dX6_init_48 : decode cX6_init 48 = .ok (.lconst 0, 1) := by decide +kernel
theorem dX6_init_49 : decode cX6_init 49 = .ok (.lstore_n 2, 1) := by decide +kernel
theorem dX6_init_50 : decode cX6_init 50 = .ok (.goto 20, 3) := by decide +kernel
theorem dX6_init_53 : decode cX6_init 53 = .ok (.lload_n 2, 1) := by decide +kernel
theorem dX6_init_54 : decode cX6_init 54 = .ok (.ldc2_w 27, 3) := by decide +kernel
theorem dX6_init_57 : decode cX6_init 57 = .ok (.lmul, 1) := by decide +kernel
theorem dX6_init_58 : decode cX6_init 58 = .ok (.aload_n 1, 1) := by decide +kernel
theorem dX6_init_59 : decode cX6_init 59 = .ok (.iload 4, 2) := by decide +kernel
theorem dX6_init_61 : decode cX6_init 61 = .ok (.caload, 1) := by decide +kernel
theorem dX6_init_62 : decode cX6_init 62 = .ok (.bipush 97, 2) := by decide +kernel
theorem dX6_init_64 : decode cX6_init 64 = .ok (.isub, 1) := by decide +kernel
theorem dX6_init_65 : decode cX6_init 65 = .ok (.iconst 1, 1) := by decide +kernel
theorem dX6_init_66 : decode cX6_init 66 = .ok (.iadd, 1) := by decide +kernel
theorem dX6_init_67 : decode cX6_init 67 = .ok (.i2l, 1) := by decide +kernel
theorem dX6_init_68 : decode cX6_init 68 = .ok (.ladd, 1) := by decide +kernel
theorem dX6_init_69 : decode cX6_init 69 = .ok (.lstore_n 2, 1) := by decide +kernel
theorem dX6_init_70 : decode cX6_init 70 = .ok (.iinc 4 1, 3) := by decide +kernel
theorem dX6_init_73 : decode cX6_init 73 = .ok (.goto (-46), 3) := by decide +kernel
theorem dX6_init_76 : decode cX6_init 76 = .ok (.aload_n 0, 1) := by decide +kernel
theorem dX6_init_77 : decode cX6_init 77 = .ok (.lload_n 2, 1) := by decide +kernel
theorem dX6_init_78 : decode cX6_init 78 = .ok (.invokevirtual 23, 3) := by decide +kernel
theorem dX6_init_81 : decode cX6_init 81 = .ok (.return_, 1) := by decide +kernel
theorem dX6_addWord_0 : decode cX6_addWord 0 = .ok (.lload_n 1, 1) := by decide +kernel
theorem dX6_addWord_1 : decode cX6_addWord 1 = .ok (.lconst 0, 1) := by decide +kernel
theorem dX6_addWord_2 : decode cX6_addWord 2 = .ok (.lcmp, 1) := by decide +kernel
theorem dX6_addWord_3 : decode cX6_addWord 3 = .ok (.ifCond .eq 32, 3) := by decide +kernel
theorem dX6_addWord_6 : decode cX6_addWord 6 = .ok (.aload_n 0, 1) := by decide +kernel
theorem dX6_addWord_7 : decode cX6_addWord 7 = .ok (.getfield 19, 3) := by decide +kernel
theorem dX6_addWord_10 : decode cX6_addWord 10 = .ok (.bipush 8, 2) := by decide +kernel
theorem dX6_addWord_12 : decode cX6_addWord 12 = .ok (.if_icmp .ge 23, 3) := by decide +kernel
theorem dX6_addWord_15 : decode cX6_addWord 15 = .ok (.aload_n 0, 1) := by decide +kernel
theorem dX6_addWord_16 : decode cX6_addWord 16 = .ok (.getfield 15, 3) := by decide +kernel
theorem dX6_addWord_19 : decode cX6_addWord 19 = .ok (.aload_n 0, 1) := by decide +kernel
theorem dX6_addWord_20 : decode cX6_addWord 20 = .ok (.getfield 19, 3) := by decide +kernel
theorem dX6_addWord_23 : decode cX6_addWord 23 = .ok (.lload_n 1, 1) := by decide +kernel
theorem dX6_addWord_24 : decode cX6_addWord 24 = .ok (.lastore, 1) := by decide +kernel
theorem dX6_addWord_25 : decode cX6_addWord 25 = .ok (.aload_n 0, 1) := by decide +kernel
theorem dX6_addWord_26 : decode cX6_addWord 26 = .ok (.dup, 1) := by decide +kernel
theorem dX6_addWord_27 : decode cX6_addWord 27 = .ok (.getfield 19, 3) := by decide +kernel
theorem dX6_addWord_30 : decode cX6_addWord 30 = .ok (.iconst 1, 1) := by decide +kernel
theorem dX6_addWord_31 : decode cX6_addWord 31 = .ok (.iadd, 1) := by decide +kernel
theorem dX6_addWord_32 : decode cX6_addWord 32 = .ok (.putfield 19, 3) := by decide +kernel
theorem dX6_addWord_35 : decode cX6_addWord 35 = .ok (.return_, 1) := by decide +kernel
theorem dX6_isAlike_0 : decode cX6_isAlike 0 = .ok (.aload_n 0, 1) := by decide +kernel
theorem dX6_isAlike_1 : decode cX6_isAlike 1 = .ok (.getfield 19, 3) := by decide +kernel
theorem dX6_isAlike_4 : decode cX6_isAlike 4 = .ok (.aload_n 1, 1) := by decide +kernel
theorem dX6_isAlike_5 : decode cX6_isAlike 5 = .ok (.getfield 19, 3) := by decide +kernel
theorem dX6_isAlike_8 : decode cX6_isAlike 8 = .ok (.if_icmp .eq 5, 3) := by decide +kernel
theorem dX6_isAlike_11 : decode cX6_isAlike 11 = .ok (.iconst 0, 1) := by decide +kernel
theorem dX6_isAlike_12 : decode cX6_isAlike 12 = .ok (.ireturn, 1) := by decide +kernel
theorem dX6_isAlike_13 : decode cX6_isAlike 13 = .ok (.iconst 0, 1) := by decide +kernel
theorem dX6_isAlike_14 : decode cX6_isAlike 14 = .ok (.istore_n 2, 1) := by decide +kernel
theorem dX6_isAlike_15 : decode cX6_isAlike 15 = .ok (.iload_n 2, 1) := by decide +kernel
theorem dX6_isAlike_16 : decode cX6_isAlike 16 = .ok (.aload_n 0, 1) := by decide +kernel
theorem dX6_isAlike_17 : decode cX6_isAlike 17 = .ok (.getfield 19, 3) := by decide +kernel
theorem dX6_isAlike_20 : decode cX6_isAlike 20 = .ok (.if_icmp .ge 27, 3) := by decide +kernel
theorem dX6_isAlike_23 : decode cX6_isAlike 23 = .ok (.aload_n 0, 1) := by decide +kernel
theorem dX6_isAlike_24 : decode cX6_isAlike 24 = .ok (.getfield 15, 3) := by decide +kernel
theorem dX6_isAlike_27 : decode cX6_isAlike 27 = .ok (.iload_n 2, 1) := by decide +kernel
theorem dX6_isAlike_28 : decode cX6_isAlike 28 = .ok (.laload, 1) := by decide +kernel
theorem dX6_isAlike_29 : decode cX6_isAlike 29 = .ok (.aload_n 1, 1) := by decide +kernel
theorem dX6_isAlike_30 : decode cX6_isAlike 30 = .ok (.getfield 15, 3) := by decide +kernel
theorem dX6_isAlike_33 : decode cX6_isAlike 33 = .ok (.iload_n 2, 1) := by decide +kernel
theorem dX6_isAlike_34 : decode cX6_isAlike 34 = .ok (.laload, 1) := by decide +kernel
theorem dX6_isAlike_35 : decode cX6_isAlike 35 = .ok (.lcmp, 1) := by decide +kernel
theorem dX6_isAlike_36 : decode cX6_isAlike 36 = .ok (.ifCond .eq 5, 3) := by decide +kernel
theorem dX6_isAlike_39 : decode cX6_isAlike 39 = .ok (.iconst 0, 1) := by decide +kernel
theorem dX6_isAlike_40 : decode cX6_isAlike 40 = .ok (.ireturn, 1) := by decide +kernel
theorem dX6_isAlike_41 : decode cX6_isAlike 41 = .ok (.iinc 2 1, 3) := by decide +kernel
theorem dX6_isAlike_44 : decode cX6_isAlike 44 = .ok (.goto (-29), 3) := by decide +kernel
theorem dX6_isAlike_47 : decode cX6_isAlike 47 = .ok (.iconst 1, 1) := by decide +kernel
theorem dX6_isAlike_48 : decode cX6_isAlike 48 = .ok (.ireturn, 1) := by decide +kernel
theorem dX7_init_0 : decode cX7_init 0 = .ok (.aload_n 0, 1) := by decide +kernel
theorem dX7_init_1 : decode cX7_init 1 = .ok (.invokespecial 3, 3) := by decide +kernel
theorem dX7_init_4 : decode cX7_init 4 = .ok (.aload_n 0, 1) := by decide +kernel
theorem dX7_init_5 : decode cX7_init 5 = .ok (.getstatic 9, 3) := by decide +kernel
theorem dX7_init_8 : decode cX7_init 8 = .ok (.invokevirtual 13, 3) := by decide +kernel
theorem dX7_init_11 : decode cX7_init 11 = .ok (.checkcast 14, 3) := by decide +kernel
theorem dX7_init_14 : decode cX7_init 14 = .ok (.putfield 18, 3) := by decide +kernel
theorem dX7_init_17 : decode cX7_init 17 = .ok (.aload_n 0, 1) := by decide +kernel
theorem dX7_init_18 : decode cX7_init 18 = .ok (.bipush 6, 2) := by decide +kernel
theorem dX7_init_20 : decode cX7_init 20 = .ok (.anewarray 23, 3) := by decide +kernel
theorem dX7_init_23 : decode cX7_init 23 = .ok (.putfield 25, 3) := by decide +kernel
theorem dX7_init_26 : decode cX7_init 26 = .ok (.iconst 0, 1) := by decide +kernel
theorem dX7_init_27 : decode cX7_init 27 = .ok (.istore_n 3, 1) := by decide +kernel
theorem dX7_init_28 : decode cX7_init 28 = .ok (.iload_n 3, 1) := by decide +kernel
theorem dX7_init_29 : decode cX7_init 29 = .ok (.bipush 6, 2) := by decide +kernel
theorem dX7_init_31 : decode cX7_init 31 = .ok (.if_icmp .ge 22, 3) := by decide +kernel
theorem dX7_init_34 : decode cX7_init 34 = .ok (.aload_n 0, 1) := by decide +kernel
theorem dX7_init_35 : decode cX7_init 35 = .ok (.getfield 25, 3) := by decide +kernel
theorem dX7_init_38 : decode cX7_init 38 = .ok (.iload_n 3, 1) := by decide +kernel
theorem dX7_init_39 : decode cX7_init 39 = .ok (.new 23, 3) := by decide +kernel
theorem dX7_init_42 : decode cX7_init 42 = .ok (.dup, 1) := by decide +kernel
theorem dX7_init_43 : decode cX7_init 43 = .ok (.invokespecial 29, 3) := by decide +kernel
theorem dX7_init_46 : decode cX7_init 46 = .ok (.aastore, 1) := by decide +kernel
theorem dX7_init_47 : decode cX7_init 47 = .ok (.iinc 3 1, 3) := by decide +kernel
theorem dX7_init_50 : decode cX7_init 50 = .ok (.goto (-22), 3) := by decide +kernel
theorem dX7_init_53 : decode cX7_init 53 = .ok (.aload_n 0, 1) := by decide +kernel
theorem dX7_init_54 : decode cX7_init 54 = .ok (.iconst 0, 1) := by decide +kernel
theorem dX7_init_55 : decode cX7_init 55 = .ok (.putfield 30, 3) := by decide +kernel
theorem dX7_init_58 : decode cX7_init 58 = .ok (.aload_n 0, 1) := by decide +kernel
theorem dX7_init_59 : decode cX7_init 59 = .ok (.bipush 8, 2) := by decide +kernel
theorem dX7_init_61 : decode cX7_init 61 = .ok (.anewarray 34, 3) := by decide +kernel
theorem dX7_init_64 : decode cX7_init 64 = .ok (.putfield 36, 3) := by decide +kernel
theorem dX7_init_67 : decode cX7_init 67 = .ok (.iconst 0, 1) := by decide +kernel
theorem dX7_init_68 : decode cX7_init 68 = .ok (.istore_n 3, 1) := by decide +kernel
theorem dX7_init_69 : decode cX7_init 69 = .ok (.iload_n 3, 1) := by decide +kernel
theorem dX7_init_70 : decode cX7_init 70 = .ok (.bipush 8, 2) := by decide +kernel
theorem dX7_init_72 : decode cX7_init 72 = .ok (.if_icmp .ge 23, 3) := by decide +kernel
theorem dX7_init_75 : decode cX7_init 75 = .ok (.aload_n 0, 1) := by decide +kernel
theorem dX7_init_76 : decode cX7_init 76 = .ok (.getfield 36, 3) := by decide +kernel
theorem dX7_init_79 : decode cX7_init 79 = .ok (.iload_n 3, 1) := by decide +kernel
theorem dX7_init_80 : decode cX7_init 80 = .ok (.new 34, 3) := by decide +kernel
theorem dX7_init_83 : decode cX7_init 83 = .ok (.dup, 1) := by decide +kernel
theorem dX7_init_84 : decode cX7_init 84 = .ok (.aload_n 2, 1) := by decide +kernel
theorem dX7_init_85 : decode cX7_init 85 = .ok (.invokespecial 40, 3) := by decide +kernel
theorem dX7_init_88 : decode cX7_init 88 = .ok (.aastore, 1) := by decide +kernel
theorem dX7_init_89 : decode cX7_init 89 = .ok (.iinc 3 1, 3) := by decide +kernel
theorem dX7_init_92 : decode cX7_init 92 = .ok (.goto (-23), 3) := by decide +kernel
theorem dX7_init_95 : decode cX7_init 95 = .ok (.aload_n 0, 1) := by decide +kernel
theorem dX7_init_96 : decode cX7_init 96 = .ok (.iconst 0, 1) := by decide +kernel
theorem dX7_init_97 : decode cX7_init 97 = .ok (.putfield 43, 3) := by decide +kernel
theorem dX7_init_100 : decode cX7_init 100 = .ok (.aload_n 0, 1) := by decide +kernel
theorem dX7_init_101 : decode cX7_init 101 = .ok (.bipush 8, 2) := by decide +kernel
theorem dX7_init_103 : decode cX7_init 103 = .ok (.newarray .int, 2) := by decide +kernel
theorem dX7_init_105 : decode cX7_init 105 = .ok (.putfield 46, 3) := by decide +kernel
theorem dX7_init_108 : decode cX7_init 108 = .ok (.aload_n 0, 1) := by decide +kernel
theorem dX7_init_109 : decode cX7_init 109 = .ok (.new 49, 3) := by decide +kernel
theorem dX7_init_112 : decode cX7_init 112 = .ok (.dup, 1) := by decide +kernel
theorem dX7_init_113 : decode cX7_init 113 = .ok (.aload_n 1, 1) := by decide +kernel
theorem dX7_init_114 : decode cX7_init 114 = .ok (.aload_n 2, 1) := by decide +kernel
theorem dX7_init_115 : decode cX7_init 115 = .ok (.invokespecial 51, 3) := by decide +kernel
theorem dX7_init_118 : decode cX7_init 118 = .ok (.putfield 54, 3) := by decide +kernel
theorem dX7_init_121 : decode cX7_init 121 = .ok (.aload_n 0, 1) := by decide +kernel
theorem dX7_init_122 : decode cX7_init 122 = .ok (.bipush 6, 2) := by decide +kernel
theorem dX7_init_124 : decode cX7_init 124 = .ok (.newarray .int, 2) := by decide +kernel
theorem dX7_init_126 : decode cX7_init 126 = .ok (.putfield 58, 3) := by decide +kernel
theorem dX7_init_129 : decode cX7_init 129 = .ok (.return_, 1) := by decide +kernel
theorem dX7_hasPerson_0 : decode cX7_hasPerson 0 = .ok (.iload_n 1, 1) := by decide +kernel
theorem dX7_hasPerson_1 : decode cX7_hasPerson 1 = .ok (.ifCond .lt 15, 3) := by decide +kernel
theorem dX7_hasPerson_4 : decode cX7_hasPerson 4 = .ok (.iload_n 1, 1) := by decide +kernel
theorem dX7_hasPerson_5 : decode cX7_hasPerson 5 = .ok (.aload_n 0, 1) := by decide +kernel
theorem dX7_hasPerson_6 : decode cX7_hasPerson 6 = .ok (.getfield 30, 3) := by decide +kernel
theorem dX7_hasPerson_9 : decode cX7_hasPerson 9 = .ok (.if_icmp .ge 7, 3) := by decide +kernel
theorem dX7_hasPerson_12 : decode cX7_hasPerson 12 = .ok (.iconst 1, 1) := by decide +kernel
theorem dX7_hasPerson_13 : decode cX7_hasPerson 13 = .ok (.goto 4, 3) := by decide +kernel
theorem dX7_hasPerson_16 : decode cX7_hasPerson 16 = .ok (.iconst 0, 1) := by decide +kernel
theorem dX7_hasPerson_17 : decode cX7_hasPerson 17 = .ok (.ireturn, 1) := by decide +kernel
theorem dX7_hasFile_0 : decode cX7_hasFile 0 = .ok (.iload_n 1, 1) := by decide +kernel
theorem dX7_hasFile_1 : decode cX7_hasFile 1 = .ok (.ifCond .lt 15, 3) := by decide +kernel
theorem dX7_hasFile_4 : decode cX7_hasFile 4 = .ok (.iload_n 1, 1) := by decide +kernel
theorem dX7_hasFile_5 : decode cX7_hasFile 5 = .ok (.aload_n 0, 1) := by decide +kernel
theorem dX7_hasFile_6 : decode cX7_hasFile 6 = .ok (.getfield 43, 3) := by decide +kernel
theorem dX7_hasFile_9 : decode cX7_hasFile 9 = .ok (.if_icmp .ge 7, 3) := by decide +kernel
theorem dX7_hasFile_12 : decode cX7_hasFile 12 = .ok (.iconst 1, 1) := by decide +kernel
theorem dX7_hasFile_13 : decode cX7_hasFile 13 = .ok (.goto 4, 3) := by decide +kernel
theorem dX7_hasFile_16 : decode cX7_hasFile 16 = .ok (.iconst 0, 1) := by decide +kernel
theorem dX7_hasFile_17 : decode cX7_hasFile 17 = .ok (.ireturn, 1) := by decide +kernel
theorem dX7_hasSegment_0 : decode cX7_hasSegment 0 = .ok (.aload_n 0, 1) := by decide +kernel
theorem dX7_hasSegment_1 : decode cX7_hasSegment 1 = .ok (.iload_n 1, 1) := by decide +kernel
theorem dX7_hasSegment_2 : decode cX7_hasSegment 2 = .ok (.invokevirtual 61, 3) := by decide +kernel
theorem dX7_hasSegment_5 : decode cX7_hasSegment 5 = .ok (.ifCond .eq 24, 3) := by decide +kernel
theorem dX7_hasSegment_8 : decode cX7_hasSegment 8 = .ok (.iload_n 2, 1) := by decide +kernel
theorem dX7_hasSegment_9 : decode cX7_hasSegment 9 = .ok (.ifCond .lt 20, 3) := by decide +kernel
theorem dX7_hasSegment_12 : decode cX7_hasSegment 12 = .ok (.iload_n 2, 1) := by decide +kernel
theorem dX7_hasSegment_13 : decode cX7_hasSegment 13 = .ok (.aload_n 0, 1) := by decide +kernel
theorem dX7_hasSegment_14 : decode cX7_hasSegment 14 = .ok (.getfield 36, 3) := by decide +kernel
theorem dX7_hasSegment_17 : decode cX7_hasSegment 17 = .ok (.iload_n 1, 1) := by decide +kernel
theorem dX7_hasSegment_18 : decode cX7_hasSegment 18 = .ok (.aaload, 1) := by decide +kernel
theorem dX7_hasSegment_19 : decode cX7_hasSegment 19 = .ok (.getfield 65, 3) := by decide +kernel
theorem dX7_hasSegment_22 : decode cX7_hasSegment 22 = .ok (.if_icmp .ge 7, 3) := by decide +kernel
theorem dX7_hasSegment_25 : decode cX7_hasSegment 25 = .ok (.iconst 1, 1) := by decide +kernel
theorem dX7_hasSegment_26 : decode cX7_hasSegment 26 = .ok (.goto 4, 3) := by decide +kernel
theorem dX7_hasSegment_29 : decode cX7_hasSegment 29 = .ok (.iconst 0, 1) := by decide +kernel
theorem dX7_hasSegment_30 : decode cX7_hasSegment 30 = .ok (.ireturn, 1) := by decide +kernel
theorem dX7_hire_0 : decode cX7_hire 0 = .ok (.aload_n 0, 1) := by decide +kernel
theorem dX7_hire_1 : decode cX7_hire 1 = .ok (.getfield 30, 3) := by decide +kernel
theorem dX7_hire_4 : decode cX7_hire 4 = .ok (.bipush 6, 2) := by decide +kernel
theorem dX7_hire_6 : decode cX7_hire 6 = .ok (.if_icmp .lt 6, 3) := by decide +kernel
theorem dX7_hire_9 : decode cX7_hire 9 = .ok (.bipush (-3), 2) := by decide +kernel
theorem dX7_hire_11 : decode cX7_hire 11 = .ok (.ireturn, 1) := by decide +kernel
theorem dX7_hire_12 : decode cX7_hire 12 = .ok (.aload_n 0, 1) := by decide +kernel
theorem dX7_hire_13 : decode cX7_hire 13 = .ok (.getfield 25, 3) := by decide +kernel
theorem dX7_hire_16 : decode cX7_hire 16 = .ok (.aload_n 0, 1) := by decide +kernel
theorem dX7_hire_17 : decode cX7_hire 17 = .ok (.getfield 30, 3) := by decide +kernel
theorem dX7_hire_20 : decode cX7_hire 20 = .ok (.aaload, 1) := by decide +kernel
theorem dX7_hire_21 : decode cX7_hire 21 = .ok (.iload_n 1, 1) := by decide +kernel
theorem dX7_hire_22 : decode cX7_hire 22 = .ok (.invokevirtual 68, 3) := by decide +kernel
theorem dX7_hire_25 : decode cX7_hire 25 = .ok (.aload_n 0, 1) := by decide +kernel
theorem dX7_hire_26 : decode cX7_hire 26 = .ok (.dup, 1) := by decide +kernel
theorem dX7_hire_27 : decode cX7_hire 27 = .ok (.getfield 30, 3) := by decide +kernel
theorem dX7_hire_30 : decode cX7_hire 30 = .ok (.iconst 1, 1) := by decide +kernel
theorem dX7_hire_31 : decode cX7_hire 31 = .ok (.iadd, 1) := by decide +kernel
theorem dX7_hire_32 : decode cX7_hire 32 = .ok (.putfield 30, 3) := by decide +kernel
theorem dX7_hire_35 : decode cX7_hire 35 = .ok (.aload_n 0, 1) := by decide +kernel
theorem dX7_hire_36 : decode cX7_hire 36 = .ok (.getfield 30, 3) := by decide +kernel
theorem dX7_hire_39 : decode cX7_hire 39 = .ok (.iconst 1, 1) := by decide +kernel
theorem dX7_hire_40 : decode cX7_hire 40 = .ok (.isub, 1) := by decide +kernel
theorem dX7_hire_41 : decode cX7_hire 41 = .ok (.ireturn, 1) := by decide +kernel
theorem dX7_addFile_0 : decode cX7_addFile 0 = .ok (.aload_n 0, 1) := by decide +kernel
theorem dX7_addFile_1 : decode cX7_addFile 1 = .ok (.getfield 43, 3) := by decide +kernel
theorem dX7_addFile_4 : decode cX7_addFile 4 = .ok (.bipush 8, 2) := by decide +kernel
theorem dX7_addFile_6 : decode cX7_addFile 6 = .ok (.if_icmp .lt 6, 3) := by decide +kernel
theorem dX7_addFile_9 : decode cX7_addFile 9 = .ok (.bipush (-3), 2) := by decide +kernel
theorem dX7_addFile_11 : decode cX7_addFile 11 = .ok (.ireturn, 1) := by decide +kernel
theorem dX7_addFile_12 : decode cX7_addFile 12 = .ok (.aload_n 0, 1) := by decide +kernel
theorem dX7_addFile_13 : decode cX7_addFile 13 = .ok (.getfield 36, 3) := by decide +kernel
theorem dX7_addFile_16 : decode cX7_addFile 16 = .ok (.aload_n 0, 1) := by decide +kernel
theorem dX7_addFile_17 : decode cX7_addFile 17 = .ok (.getfield 43, 3) := by decide +kernel
theorem dX7_addFile_20 : decode cX7_addFile 20 = .ok (.aaload, 1) := by decide +kernel
theorem dX7_addFile_21 : decode cX7_addFile 21 = .ok (.invokevirtual 72, 3) := by decide +kernel
theorem dX7_addFile_24 : decode cX7_addFile 24 = .ok (.aload_n 0, 1) := by decide +kernel
theorem dX7_addFile_25 : decode cX7_addFile 25 = .ok (.getfield 46, 3) := by decide +kernel
theorem dX7_addFile_28 : decode cX7_addFile 28 = .ok (.aload_n 0, 1) := by decide +kernel
theorem dX7_addFile_29 : decode cX7_addFile 29 = .ok (.getfield 43, 3) := by decide +kernel
theorem dX7_addFile_32 : decode cX7_addFile 32 = .ok (.aload_n 0, 1) := by decide +kernel
theorem dX7_addFile_33 : decode cX7_addFile 33 = .ok (.getfield 43, 3) := by decide +kernel
theorem dX7_addFile_36 : decode cX7_addFile 36 = .ok (.iastore, 1) := by decide +kernel
theorem dX7_addFile_37 : decode cX7_addFile 37 = .ok (.aload_n 0, 1) := by decide +kernel
theorem dX7_addFile_38 : decode cX7_addFile 38 = .ok (.dup, 1) := by decide +kernel
theorem dX7_addFile_39 : decode cX7_addFile 39 = .ok (.getfield 43, 3) := by decide +kernel
theorem dX7_addFile_42 : decode cX7_addFile 42 = .ok (.iconst 1, 1) := by decide +kernel
theorem dX7_addFile_43 : decode cX7_addFile 43 = .ok (.iadd, 1) := by decide +kernel
theorem dX7_addFile_44 : decode cX7_addFile 44 = .ok (.putfield 43, 3) := by decide +kernel
theorem dX7_addFile_47 : decode cX7_addFile 47 = .ok (.aload_n 0, 1) := by decide +kernel
theorem dX7_addFile_48 : decode cX7_addFile 48 = .ok (.getfield 43, 3) := by decide +kernel
theorem dX7_addFile_51 : decode cX7_addFile 51 = .ok (.iconst 1, 1) := by decide +kernel
theorem dX7_addFile_52 : decode cX7_addFile 52 = .ok (.isub, 1) := by decide +kernel
theorem dX7_addFile_53 : decode cX7_addFile 53 = .ok (.ireturn, 1) := by decide +kernel
theorem dX7_placeOf_0 : decode cX7_placeOf 0 = .ok (.iconst 0, 1) := by decide +kernel
theorem dX7_placeOf_1 : decode cX7_placeOf 1 = .ok (.istore_n 2, 1) := by decide +kernel
theorem dX7_placeOf_2 : decode cX7_placeOf 2 = .ok (.iload_n 2, 1) := by decide +kernel
theorem dX7_placeOf_3 : decode cX7_placeOf 3 = .ok (.aload_n 0, 1) := by decide +kernel
theorem dX7_placeOf_4 : decode cX7_placeOf 4 = .ok (.getfield 43, 3) := by decide +kernel
theorem dX7_placeOf_7 : decode cX7_placeOf 7 = .ok (.if_icmp .ge 21, 3) := by decide +kernel
theorem dX7_placeOf_10 : decode cX7_placeOf 10 = .ok (.aload_n 0, 1) := by decide +kernel
theorem dX7_placeOf_11 : decode cX7_placeOf 11 = .ok (.getfield 46, 3) := by decide +kernel
theorem dX7_placeOf_14 : decode cX7_placeOf 14 = .ok (.iload_n 2, 1) := by decide +kernel
theorem dX7_placeOf_15 : decode cX7_placeOf 15 = .ok (.iaload, 1) := by decide +kernel
theorem dX7_placeOf_16 : decode cX7_placeOf 16 = .ok (.iload_n 1, 1) := by decide +kernel
theorem dX7_placeOf_17 : decode cX7_placeOf 17 = .ok (.if_icmp .ne 5, 3) := by decide +kernel
theorem dX7_placeOf_20 : decode cX7_placeOf 20 = .ok (.iload_n 2, 1) := by decide +kernel
theorem dX7_placeOf_21 : decode cX7_placeOf 21 = .ok (.ireturn, 1) := by decide +kernel
theorem dX7_placeOf_22 : decode cX7_placeOf 22 = .ok (.iinc 2 1, 3) := by decide +kernel
theorem dX7_placeOf_25 : decode cX7_placeOf 25 = .ok (.goto (-23), 3) := by decide +kernel
theorem dX7_placeOf_28 : decode cX7_placeOf 28 = .ok (.bipush (-5), 2) := by decide +kernel
theorem dX7_placeOf_30 : decode cX7_placeOf 30 = .ok (.ireturn, 1) := by decide +kernel
theorem dX7_exchangePlaces_0 : decode cX7_exchangePlaces 0 = .ok (.iconst 0, 1) := by decide +kernel
theorem dX7_exchangePlaces_1 : decode cX7_exchangePlaces 1 = .ok (.istore_n 3, 1) := by decide +kernel
theorem dX7_exchangePlaces_2 : decode cX7_exchangePlaces 2 = .ok (.iload_n 3, 1) := by decide +kernel
theorem dX7_exchangePlaces_3 : decode cX7_exchangePlaces 3 = .ok (.aload_n 0, 1) := by decide +kernel
theorem dX7_exchangePlaces_4 : decode cX7_exchangePlaces 4 = .ok (.getfield 43, 3) := by decide +kernel
theorem dX7_exchangePlaces_7 : decode cX7_exchangePlaces 7 = .ok (.if_icmp .ge 46, 3) := by decide +kernel
theorem dX7_exchangePlaces_10 : decode cX7_exchangePlaces 10 = .ok (.aload_n 0, 1) := by decide +kernel
theorem dX7_exchangePlaces_11 : decode cX7_exchangePlaces 11 = .ok (.getfield 46, 3) := by decide +kernel
theorem dX7_exchangePlaces_14 : decode cX7_exchangePlaces 14 = .ok (.iload_n 3, 1) := by decide +kernel
theorem dX7_exchangePlaces_15 : decode cX7_exchangePlaces 15 = .ok (.iaload, 1) := by decide +kernel
theorem dX7_exchangePlaces_16 : decode cX7_exchangePlaces 16 = .ok (.iload_n 1, 1) := by decide +kernel
theorem dX7_exchangePlaces_17 : decode cX7_exchangePlaces 17 = .ok (.if_icmp .ne 13, 3) := by decide +kernel
theorem dX7_exchangePlaces_20 : decode cX7_exchangePlaces 20 = .ok (.aload_n 0, 1) := by decide +kernel
theorem dX7_exchangePlaces_21 : decode cX7_exchangePlaces 21 = .ok (.getfield 46, 3) := by decide +kernel
theorem dX7_exchangePlaces_24 : decode cX7_exchangePlaces 24 = .ok (.iload_n 3, 1) := by decide +kernel
theorem dX7_exchangePlaces_25 : decode cX7_exchangePlaces 25 = .ok (.iload_n 2, 1) := by decide +kernel
theorem dX7_exchangePlaces_26 : decode cX7_exchangePlaces 26 = .ok (.iastore, 1) := by decide +kernel
theorem dX7_exchangePlaces_27 : decode cX7_exchangePlaces 27 = .ok (.goto 20, 3) := by decide +kernel
theorem dX7_exchangePlaces_30 : decode cX7_exchangePlaces 30 = .ok (.aload_n 0, 1) := by decide +kernel
theorem dX7_exchangePlaces_31 : decode cX7_exchangePlaces 31 = .ok (.getfield 46, 3) := by decide +kernel
theorem dX7_exchangePlaces_34 : decode cX7_exchangePlaces 34 = .ok (.iload_n 3, 1) := by decide +kernel
theorem dX7_exchangePlaces_35 : decode cX7_exchangePlaces 35 = .ok (.iaload, 1) := by decide +kernel
theorem dX7_exchangePlaces_36 : decode cX7_exchangePlaces 36 = .ok (.iload_n 2, 1) := by decide +kernel
theorem dX7_exchangePlaces_37 : decode cX7_exchangePlaces 37 = .ok (.if_icmp .ne 10, 3) := by decide +kernel
theorem dX7_exchangePlaces_40 : decode cX7_exchangePlaces 40 = .ok (.aload_n 0, 1) := by decide +kernel
theorem dX7_exchangePlaces_41 : decode cX7_exchangePlaces 41 = .ok (.getfield 46, 3) := by decide +kernel
theorem dX7_exchangePlaces_44 : decode cX7_exchangePlaces 44 = .ok (.iload_n 3, 1) := by decide +kernel
theorem dX7_exchangePlaces_45 : decode cX7_exchangePlaces 45 = .ok (.iload_n 1, 1) := by decide +kernel
theorem dX7_exchangePlaces_46 : decode cX7_exchangePlaces 46 = .ok (.iastore, 1) := by decide +kernel
theorem dX7_exchangePlaces_47 : decode cX7_exchangePlaces 47 = .ok (.iinc 3 1, 3) := by decide +kernel
theorem dX7_exchangePlaces_50 : decode cX7_exchangePlaces 50 = .ok (.goto (-48), 3) := by decide +kernel
theorem dX7_exchangePlaces_53 : decode cX7_exchangePlaces 53 = .ok (.return_, 1) := by decide +kernel
theorem dX7_repeatSource_0 : decode cX7_repeatSource 0 = .ok (.aload_n 0, 1) := by decide +kernel
theorem dX7_repeatSource_1 : decode cX7_repeatSource 1 = .ok (.getfield 36, 3) := by decide +kernel
theorem dX7_repeatSource_4 : decode cX7_repeatSource 4 = .ok (.iload_n 1, 1) := by decide +kernel
theorem dX7_repeatSource_5 : decode cX7_repeatSource 5 = .ok (.aaload, 1) := by decide +kernel
theorem dX7_repeatSource_6 : decode cX7_repeatSource 6 = .ok (.invokevirtual 74, 3) := by decide +kernel
theorem dX7_repeatSource_9 : decode cX7_repeatSource 9 = .ok (.ifCond .ne 6, 3) := by decide +kernel
theorem dX7_repeatSource_12 : decode cX7_repeatSource 12 = .ok (.bipush (-5), 2) := by decide +kernel
theorem dX7_repeatSource_14 : decode cX7_repeatSource 14 = .ok (.ireturn, 1) := by decide +kernel
theorem dX7_repeatSource_15 : decode cX7_repeatSource 15 = .ok (.aload_n 0, 1) := by decide +kernel
theorem dX7_repeatSource_16 : decode cX7_repeatSource 16 = .ok (.getfield 36, 3) := by decide +kernel
theorem dX7_repeatSource_19 : decode cX7_repeatSource 19 = .ok (.iload_n 1, 1) := by decide +kernel
theorem dX7_repeatSource_20 : decode cX7_repeatSource 20 = .ok (.aaload, 1) := by decide +kernel
theorem dX7_repeatSource_21 : decode cX7_repeatSource 21 = .ok (.getfield 78, 3) := by decide +kernel
theorem dX7_repeatSource_24 : decode cX7_repeatSource 24 = .ok (.iload_n 2, 1) := by decide +kernel
theorem dX7_repeatSource_25 : decode cX7_repeatSource 25 = .ok (.aaload, 1) := by decide +kernel
theorem dX7_repeatSource_26 : decode cX7_repeatSource 26 = .ok (.astore_n 3, 1) := by decide +kernel
theorem dX7_repeatSource_27 : decode cX7_repeatSource 27 = .ok (.aload_n 0, 1) := by decide +kernel
theorem dX7_repeatSource_28 : decode cX7_repeatSource 28 = .ok (.getfield 36, 3) := by decide +kernel
theorem dX7_repeatSource_31 : decode cX7_repeatSource 31 = .ok (.iload_n 1, 1) := by decide +kernel
theorem dX7_repeatSource_32 : decode cX7_repeatSource 32 = .ok (.aaload, 1) := by decide +kernel
theorem dX7_repeatSource_33 : decode cX7_repeatSource 33 = .ok (.aload_n 3, 1) := by decide +kernel
theorem dX7_repeatSource_34 : decode cX7_repeatSource 34 = .ok (.iload_n 2, 1) := by decide +kernel
theorem dX7_repeatSource_35 : decode cX7_repeatSource 35 = .ok (.invokevirtual 82, 3) := by decide +kernel
theorem dX7_repeatSource_38 : decode cX7_repeatSource 38 = .ok (.istore 4, 2) := by decide +kernel
theorem dX7_repeatSource_40 : decode cX7_repeatSource 40 = .ok (.iload 4, 2) := by decide +kernel
theorem dX7_repeatSource_42 : decode cX7_repeatSource 42 = .ok (.bipush (-5), 2) := by decide +kernel
theorem dX7_repeatSource_44 : decode cX7_repeatSource 44 = .ok (.if_icmp .eq 11, 3) := by decide +kernel
theorem dX7_repeatSource_47 : decode cX7_repeatSource 47 = .ok (.bipush 100, 2) := by decide +kernel
theorem dX7_repeatSource_49 : decode cX7_repeatSource 49 = .ok (.iload_n 1, 1) := by decide +kernel
theorem dX7_repeatSource_50 : decode cX7_repeatSource 50 = .ok (.imul, 1) := by decide +kernel
theorem dX7_repeatSource_51 : decode cX7_repeatSource 51 = .ok (.iload 4, 2) := by decide +kernel
theorem dX7_repeatSource_53 : decode cX7_repeatSource 53 = .ok (.iadd, 1) := by decide +kernel
theorem dX7_repeatSource_54 : decode cX7_repeatSource 54 = .ok (.ireturn, 1) := by decide +kernel
theorem dX7_repeatSource_55 : decode cX7_repeatSource 55 = .ok (.aload_n 0, 1) := by decide +kernel
theorem dX7_repeatSource_56 : decode cX7_repeatSource 56 = .ok (.iload_n 1, 1) := by decide +kernel
theorem dX7_repeatSource_57 : decode cX7_repeatSource 57 = .ok (.invokevirtual 86, 3) := by decide +kernel
theorem dX7_repeatSource_60 : decode cX7_repeatSource 60 = .ok (.iconst 1, 1) := by decide +kernel
theorem dX7_repeatSource_61 : decode cX7_repeatSource 61 = .ok (.isub, 1) := by decide +kernel
theorem dX7_repeatSource_62 : decode cX7_repeatSource 62 = .ok (.istore 5, 2) := by decide +kernel
theorem dX7_repeatSource_64 : decode cX7_repeatSource 64 = .ok (.iload 5, 2) := by decide +kernel
theorem dX7_repeatSource_66 : decode cX7_repeatSource 66 = .ok (.ifCond .lt 88, 3) := by decide +kernel
theorem dX7_repeatSource_69 : decode cX7_repeatSource 69 = .ok (.aload_n 0, 1) := by decide +kernel
theorem dX7_repeatSource_70 : decode cX7_repeatSource 70 = .ok (.getfield 46, 3) := by decide +kernel
theorem dX7_repeatSource_73 : decode cX7_repeatSource 73 = .ok (.iload 5, 2) := by decide +kernel
theorem dX7_repeatSource_75 : decode cX7_repeatSource 75 = .ok (.iaload, 1) := by decide +kernel
theorem dX7_repeatSource_76 : decode cX7_repeatSource 76 = .ok (.istore 6, 2) := by decide +kernel
theorem dX7_repeatSource_78 : decode cX7_repeatSource 78 = .ok (.aload_n 0, 1) := by decide +kernel
theorem dX7_repeatSource_79 : decode cX7_repeatSource 79 = .ok (.iload 6, 2) := by decide +kernel
theorem dX7_repeatSource_81 : decode cX7_repeatSource 81 = .ok (.invokevirtual 61, 3) := by decide +kernel
theorem dX7_repeatSource_84 : decode cX7_repeatSource 84 = .ok (.ifCond .eq 20, 3) := by decide +kernel
theorem dX7_repeatSource_87 : decode cX7_repeatSource 87 = .ok (.aload_n 0, 1) := by decide +kernel
theorem dX7_repeatSource_88 : decode cX7_repeatSource 88 = .ok (.getfield 36, 3) := by decide +kernel
theorem dX7_repeatSource_91 : decode cX7_repeatSource 91 = .ok (.iload 6, 2) := by decide +kernel
theorem dX7_repeatSource_93 : decode cX7_repeatSource 93 = .ok (.aaload, 1) := by decide +kernel
theorem dX7_repeatSource_94 : decode cX7_repeatSource 94 = .ok (.invokevirtual 74, 3) := by decide +kernel
theorem dX7_repeatSource_97 : decode cX7_repeatSource 97 = .ok (.ifCond .eq 7, 3) := by decide +kernel
theorem dX7_repeatSource_100 : decode cX7_repeatSource 100 = .ok (.iconst 1, 1) := by decide +kernel
theorem dX7_repeatSource_101 : decode cX7_repeatSource 101 = .ok (.goto 4, 3) := by decide +kernel
theorem dX7_repeatSource_104 : decode cX7_repeatSource 104 = .ok (.iconst 0, 1) := by decide +kernel
theorem dX7_repeatSource_105 : decode cX7_repeatSource 105 = .ok (.istore 7, 2) := by decide +kernel
theorem dX7_repeatSource_107 : decode cX7_repeatSource 107 = .ok (.iload 7, 2) := by decide +kernel
theorem dX7_repeatSource_109 : decode cX7_repeatSource 109 = .ok (.ifCond .eq 19, 3) := by decide +kernel
theorem dX7_repeatSource_112 : decode cX7_repeatSource 112 = .ok (.aload_n 0, 1) := by decide +kernel
theorem dX7_repeatSource_113 : decode cX7_repeatSource 113 = .ok (.getfield 36, 3) := by decide +kernel
theorem dX7_repeatSource_116 : decode cX7_repeatSource 116 = .ok (.iload 6, 2) := by decide +kernel
theorem dX7_repeatSource_118 : decode cX7_repeatSource 118 = .ok (.aaload, 1) := by decide +kernel
theorem dX7_repeatSource_119 : decode cX7_repeatSource 119 = .ok (.aload_n 3, 1) := by decide +kernel
theorem dX7_repeatSource_120 : decode cX7_repeatSource 120 = .ok (.bipush 12, 2) := by decide +kernel
theorem dX7_repeatSource_122 : decode cX7_repeatSource 122 = .ok (.invokevirtual 82, 3) := by decide +kernel
theorem dX7_repeatSource_125 : decode cX7_repeatSource 125 = .ok (.goto 5, 3) := by decide +kernel
theorem dX7_repeatSource_128 : decode cX7_repeatSource 128 = .ok (.bipush (-5), 2) := by decide +kernel
theorem dX7_repeatSource_130 : decode cX7_repeatSource 130 = .ok (.istore 4, 2) := by decide +kernel
theorem dX7_repeatSource_132 : decode cX7_repeatSource 132 = .ok (.iload 4, 2) := by decide +kernel
theorem dX7_repeatSource_134 : decode cX7_repeatSource 134 = .ok (.bipush (-5), 2) := by decide +kernel
theorem dX7_repeatSource_136 : decode cX7_repeatSource 136 = .ok (.if_icmp .eq 12, 3) := by decide +kernel
theorem dX7_repeatSource_139 : decode cX7_repeatSource 139 = .ok (.bipush 100, 2) := by decide +kernel
theorem dX7_repeatSource_141 : decode cX7_repeatSource 141 = .ok (.iload 6, 2) := by decide +kernel
theorem dX7_repeatSource_143 : decode cX7_repeatSource 143 = .ok (.imul, 1) := by decide +kernel
theorem dX7_repeatSource_144 : decode cX7_repeatSource 144 = .ok (.iload 4, 2) := by decide +kernel
theorem dX7_repeatSource_146 : decode cX7_repeatSource 146 = .ok (.iadd, 1) := by decide +kernel
theorem dX7_repeatSource_147 : decode cX7_repeatSource 147 = .ok (.ireturn, 1) := by decide +kernel
theorem dX7_repeatSource_148 : decode cX7_repeatSource 148 = .ok (.iinc 5 (-1), 3) := by decide +kernel
theorem dX7_repeatSource_151 : decode cX7_repeatSource 151 = .ok (.goto (-87), 3) := by decide +kernel
theorem dX7_repeatSource_154 : decode cX7_repeatSource 154 = .ok (.bipush (-5), 2) := by decide +kernel
theorem dX7_repeatSource_156 : decode cX7_repeatSource 156 = .ok (.ireturn, 1) := by decide +kernel
theorem dX7_bandOf_0 : decode cX7_bandOf 0 = .ok (.aload_n 0, 1) := by decide +kernel
theorem dX7_bandOf_1 : decode cX7_bandOf 1 = .ok (.iload_n 1, 1) := by decide +kernel
theorem dX7_bandOf_2 : decode cX7_bandOf 2 = .ok (.iload_n 2, 1) := by decide +kernel
theorem dX7_bandOf_3 : decode cX7_bandOf 3 = .ok (.invokevirtual 90, 3) := by decide +kernel
theorem dX7_bandOf_6 : decode cX7_bandOf 6 = .ok (.bipush (-5), 2) := by decide +kernel
theorem dX7_bandOf_8 : decode cX7_bandOf 8 = .ok (.if_icmp .eq 5, 3) := by decide +kernel
theorem dX7_bandOf_11 : decode cX7_bandOf 11 = .ok (.iconst 0, 1) := by decide +kernel
theorem dX7_bandOf_12 : decode cX7_bandOf 12 = .ok (.ireturn, 1) := by decide +kernel
theorem dX7_bandOf_13 : decode cX7_bandOf 13 = .ok (.aload_n 0, 1) := by decide +kernel
theorem dX7_bandOf_14 : decode cX7_bandOf 14 = .ok (.getfield 54, 3) := by decide +kernel
theorem dX7_bandOf_17 : decode cX7_bandOf 17 = .ok (.aload_n 0, 1) := by decide +kernel
theorem dX7_bandOf_18 : decode cX7_bandOf 18 = .ok (.getfield 36, 3) := by decide +kernel
theorem dX7_bandOf_21 : decode cX7_bandOf 21 = .ok (.iload_n 1, 1) := by decide +kernel
theorem dX7_bandOf_22 : decode cX7_bandOf 22 = .ok (.aaload, 1) := by decide +kernel
theorem dX7_bandOf_23 : decode cX7_bandOf 23 = .ok (.getfield 78, 3) := by decide +kernel
theorem dX7_bandOf_26 : decode cX7_bandOf 26 = .ok (.iload_n 2, 1) := by decide +kernel
theorem dX7_bandOf_27 : decode cX7_bandOf 27 = .ok (.aaload, 1) := by decide +kernel
theorem dX7_bandOf_28 : decode cX7_bandOf 28 = .ok (.invokevirtual 94, 3) := by decide +kernel
theorem dX7_bandOf_31 : decode cX7_bandOf 31 = .ok (.istore_n 3, 1) := by decide +kernel
theorem dX7_bandOf_32 : decode cX7_bandOf 32 = .ok (.iload_n 3, 1) := by decide +kernel
theorem dX7_bandOf_33 : decode cX7_bandOf 33 = .ok (.bipush 100, 2) := by decide +kernel
theorem dX7_bandOf_35 : decode cX7_bandOf 35 = .ok (.if_icmp .ne 5, 3) := by decide +kernel
theorem dX7_bandOf_38 : decode cX7_bandOf 38 = .ok (.iconst 1, 1) := by decide +kernel
theorem dX7_bandOf_39 : decode cX7_bandOf 39 = .ok (.ireturn, 1) := by decide +kernel
theorem dX7_bandOf_40 : decode cX7_bandOf 40 = .ok (.iload_n 3, 1) := by decide +kernel
theorem dX7_bandOf_41 : decode cX7_bandOf 41 = .ok (.bipush 85, 2) := by decide +kernel
theorem dX7_bandOf_43 : decode cX7_bandOf 43 = .ok (.if_icmp .lt 5, 3) := by decide +kernel
theorem dX7_bandOf_46 : decode cX7_bandOf 46 = .ok (.iconst 2, 1) := by decide +kernel
theorem dX7_bandOf_47 : decode cX7_bandOf 47 = .ok (.ireturn, 1) := by decide +kernel
theorem dX7_bandOf_48 : decode cX7_bandOf 48 = .ok (.iload_n 3, 1) := by decide +kernel
theorem dX7_bandOf_49 : decode cX7_bandOf 49 = .ok (.bipush 75, 2) := by decide +kernel
theorem dX7_bandOf_51 : decode cX7_bandOf 51 = .ok (.if_icmp .lt 5, 3) := by decide +kernel
theorem dX7_bandOf_54 : decode cX7_bandOf 54 = .ok (.iconst 3, 1) := by decide +kernel
theorem dX7_bandOf_55 : decode cX7_bandOf 55 = .ok (.ireturn, 1) := by decide +kernel
theorem dX7_bandOf_56 : decode cX7_bandOf 56 = .ok (.iload_n 3, 1) := by decide +kernel
theorem dX7_bandOf_57 : decode cX7_bandOf 57 = .ok (.bipush 50, 2) := by decide +kernel
theorem dX7_bandOf_59 : decode cX7_bandOf 59 = .ok (.if_icmp .lt 7, 3) := by decide +kernel
theorem dX7_bandOf_62 : decode cX7_bandOf 62 = .ok (.iconst 4, 1) := by decide +kernel
theorem dX7_bandOf_63 : decode cX7_bandOf 63 = .ok (.goto 4, 3) := by decide +kernel
theorem dX7_bandOf_66 : decode cX7_bandOf 66 = .ok (.iconst 5, 1) := by decide +kernel
theorem dX7_bandOf_67 : decode cX7_bandOf 67 = .ok (.ireturn, 1) := by decide +kernel
theorem dX7_sumBandWords_0 : decode cX7_sumBandWords 0 = .ok (.iconst 0, 1) := by decide +kernel
theorem dX7_sumBandWords_1 : decode cX7_sumBandWords 1 = .ok (.istore_n 2, 1) := by decide +kernel
theorem dX7_sumBandWords_2 : decode cX7_sumBandWords 2 = .ok (.iload_n 2, 1) := by decide +kernel
theorem dX7_sumBandWords_3 : decode cX7_sumBandWords 3 = .ok (.bipush 6, 2) := by decide +kernel
theorem dX7_sumBandWords_5 : decode cX7_sumBandWords 5 = .ok (.if_icmp .ge 16, 3) := by decide +kernel
theorem dX7_sumBandWords_8 : decode cX7_sumBandWords 8 = .ok (.aload_n 0, 1) := by decide +kernel
theorem dX7_sumBandWords_9 : decode cX7_sumBandWords 9 = .ok (.getfield 58, 3) := by decide +kernel
theorem dX7_sumBandWords_12 : decode cX7_sumBandWords 12 = .ok (.iload_n 2, 1) := by decide +kernel
theorem dX7_sumBandWords_13 : decode cX7_sumBandWords 13 = .ok (.iconst 0, 1) := by decide +kernel
theorem dX7_sumBandWords_14 : decode cX7_sumBandWords 14 = .ok (.iastore, 1) := by decide +kernel
theorem dX7_sumBandWords_15 : decode cX7_sumBandWords 15 = .ok (.iinc 2 1, 3) := by decide +kernel
theorem dX7_sumBandWords_18 : decode cX7_sumBandWords 18 = .ok (.goto (-16), 3) := by decide +kernel
theorem dX7_sumBandWords_21 : decode cX7_sumBandWords 21 = .ok (.iconst 0, 1) := by decide +kernel
theorem dX7_sumBandWords_22 : decode cX7_sumBandWords 22 = .ok (.istore_n 2, 1) := by decide +kernel
theorem dX7_sumBandWords_23 : decode cX7_sumBandWords 23 = .ok (.iload_n 2, 1) := by decide +kernel
theorem dX7_sumBandWords_24 : decode cX7_sumBandWords 24 = .ok (.aload_n 0, 1) := by decide +kernel
theorem dX7_sumBandWords_25 : decode cX7_sumBandWords 25 = .ok (.getfield 36, 3) := by decide +kernel
theorem dX7_sumBandWords_28 : decode cX7_sumBandWords 28 = .ok (.iload_n 1, 1) := by decide +kernel
theorem dX7_sumBandWords_29 : decode cX7_sumBandWords 29 = .ok (.aaload, 1) := by decide +kernel
theorem dX7_sumBandWords_30 : decode cX7_sumBandWords 30 = .ok (.getfield 65, 3) := by decide +kernel
theorem dX7_sumBandWords_33 : decode cX7_sumBandWords 33 = .ok (.if_icmp .ge 37, 3) := by decide +kernel
theorem dX7_sumBandWords_36 : decode cX7_sumBandWords 36 = .ok (.aload_n 0, 1) := by decide +kernel
theorem dX7_sumBandWords_37 : decode cX7_sumBandWords 37 = .ok (.getfield 58, 3) := by decide +kernel
theorem dX7_sumBandWords_40 : decode cX7_sumBandWords 40 = .ok (.aload_n 0, 1) := by decide +kernel
theorem dX7_sumBandWords_41 : decode cX7_sumBandWords 41 = .ok (.iload_n 1, 1) := by decide +kernel
theorem dX7_sumBandWords_42 : decode cX7_sumBandWords 42 = .ok (.iload_n 2, 1) := by decide +kernel
theorem dX7_sumBandWords_43 : decode cX7_sumBandWords 43 = .ok (.invokevirtual 98, 3) := by decide +kernel
theorem dX7_sumBandWords_46 : decode cX7_sumBandWords 46 = .ok (.dup2, 1) := by decide +kernel
theorem dX7_sumBandWords_47 : decode cX7_sumBandWords 47 = .ok (.iaload, 1) := by decide +kernel
theorem dX7_sumBandWords_48 : decode cX7_sumBandWords 48 = .ok (.aload_n 0, 1) := by decide +kernel
theorem dX7_sumBandWords_49 : decode cX7_sumBandWords 49 = .ok (.getfield 36, 3) := by decide +kernel
theorem dX7_sumBandWords_52 : decode cX7_sumBandWords 52 = .ok (.iload_n 1, 1) := by decide +kernel
theorem dX7_sumBandWords_53 : decode cX7_sumBandWords 53 = .ok (.aaload, 1) := by decide +kernel
theorem dX7_sumBandWords_54 : decode cX7_sumBandWords 54 = .ok (.getfield 78, 3) := by decide +kernel
theorem dX7_sumBandWords_57 : decode cX7_sumBandWords 57 = .ok (.iload_n 2, 1) := by decide +kernel
theorem dX7_sumBandWords_58 : decode cX7_sumBandWords 58 = .ok (.aaload, 1) := by decide +kernel
theorem dX7_sumBandWords_59 : decode cX7_sumBandWords 59 = .ok (.getfield 101, 3) := by decide +kernel
theorem dX7_sumBandWords_62 : decode cX7_sumBandWords 62 = .ok (.iadd, 1) := by decide +kernel
theorem dX7_sumBandWords_63 : decode cX7_sumBandWords 63 = .ok (.iastore, 1) := by decide +kernel
theorem dX7_sumBandWords_64 : decode cX7_sumBandWords 64 = .ok (.iinc 2 1, 3) := by decide +kernel
theorem dX7_sumBandWords_67 : decode cX7_sumBandWords 67 = .ok (.goto (-44), 3) := by decide +kernel
theorem dX7_sumBandWords_70 : decode cX7_sumBandWords 70 = .ok (.return_, 1) := by decide +kernel
theorem dX7_priceFor_0 : decode cX7_priceFor 0 = .ok (.aload_n 0, 1) := by decide +kernel
theorem dX7_priceFor_1 : decode cX7_priceFor 1 = .ok (.iload_n 1, 1) := by decide +kernel
theorem dX7_priceFor_2 : decode cX7_priceFor 2 = .ok (.invokevirtual 106, 3) := by decide +kernel
theorem dX7_priceFor_5 : decode cX7_priceFor 5 = .ok (.iconst 0, 1) := by decide +kernel
theorem dX7_priceFor_6 : decode cX7_priceFor 6 = .ok (.istore_n 3, 1) := by decide +kernel
theorem dX7_priceFor_7 : decode cX7_priceFor 7 = .ok (.iconst 0, 1) := by decide +kernel
theorem dX7_priceFor_8 : decode cX7_priceFor 8 = .ok (.istore 4, 2) := by decide +kernel
theorem dX7_priceFor_10 : decode cX7_priceFor 10 = .ok (.iload 4, 2) := by decide +kernel
theorem dX7_priceFor_12 : decode cX7_priceFor 12 = .ok (.bipush 6, 2) := by decide +kernel
theorem dX7_priceFor_14 : decode cX7_priceFor 14 = .ok (.if_icmp .ge 32, 3) := by decide +kernel
theorem dX7_priceFor_17 : decode cX7_priceFor 17 = .ok (.iload_n 3, 1) := by decide +kernel
theorem dX7_priceFor_18 : decode cX7_priceFor 18 = .ok (.aload_n 0, 1) := by decide +kernel
theorem dX7_priceFor_19 : decode cX7_priceFor 19 = .ok (.getfield 58, 3) := by decide +kernel
theorem dX7_priceFor_22 : decode cX7_priceFor 22 = .ok (.iload 4, 2) := by decide +kernel
theorem dX7_priceFor_24 : decode cX7_priceFor 24 = .ok (.iaload, 1) := by decide +kernel
theorem dX7_priceFor_25 : decode cX7_priceFor 25 = .ok (.iload_n 2, 1) := by decide +kernel
theorem dX7_priceFor_26 : decode cX7_priceFor 26 = .ok (.imul, 1) := by decide +kernel
theorem dX7_priceFor_27 : decode cX7_priceFor 27 = .ok (.aload_n 0, 1) := by decide +kernel
theorem dX7_priceFor_28 : decode cX7_priceFor 28 = .ok (.getfield 18, 3) := by decide +kernel
theorem dX7_priceFor_31 : decode cX7_priceFor 31 = .ok (.iload 4, 2) := by decide +kernel
theorem dX7_priceFor_33 : decode cX7_priceFor 33 = .ok (.iaload, 1) := by decide +kernel
theorem dX7_priceFor_34 : decode cX7_priceFor 34 = .ok (.imul, 1) := by decide +kernel
theorem dX7_priceFor_35 : decode cX7_priceFor 35 = .ok (.bipush 100, 2) := by decide +kernel
theorem dX7_priceFor_37 : decode cX7_priceFor 37 = .ok (.idiv, 1) := by decide +kernel
theorem dX7_priceFor_38 : decode cX7_priceFor 38 = .ok (.iadd, 1) := by decide +kernel
theorem dX7_priceFor_39 : decode cX7_priceFor 39 = .ok (.istore_n 3, 1) := by decide +kernel
theorem dX7_priceFor_40 : decode cX7_priceFor 40 = .ok (.iinc 4 1, 3) := by decide +kernel
theorem dX7_priceFor_43 : decode cX7_priceFor 43 = .ok (.goto (-33), 3) := by decide +kernel
theorem dX7_priceFor_46 : decode cX7_priceFor 46 = .ok (.iload_n 3, 1) := by decide +kernel
theorem dX7_priceFor_47 : decode cX7_priceFor 47 = .ok (.ireturn, 1) := by decide +kernel
theorem dX7_spreadTarget_0 : decode cX7_spreadTarget 0 = .ok (.iconst 0, 1) := by decide +kernel
theorem dX7_spreadTarget_1 : decode cX7_spreadTarget 1 = .ok (.istore_n 3, 1) := by decide +kernel
theorem dX7_spreadTarget_2 : decode cX7_spreadTarget 2 = .ok (.iconst 0, 1) := by decide +kernel
theorem dX7_spreadTarget_3 : decode cX7_spreadTarget 3 = .ok (.istore 4, 2) := by decide +kernel
theorem dX7_spreadTarget_5 : decode cX7_spreadTarget 5 = .ok (.iload 4, 2) := by decide +kernel
theorem dX7_spreadTarget_7 : decode cX7_spreadTarget 7 = .ok (.aload_n 0, 1) := by decide +kernel
theorem dX7_spreadTarget_8 : decode cX7_spreadTarget 8 = .ok (.getfield 43, 3) := by decide +kernel
theorem dX7_spreadTarget_11 : decode cX7_spreadTarget 11 = .ok (.if_icmp .ge 38, 3) := by decide +kernel
theorem dX7_spreadTarget_14 : decode cX7_spreadTarget 14 = .ok (.aload_n 0, 1) := by decide +kernel
theorem dX7_spreadTarget_15 : decode cX7_spreadTarget 15 = .ok (.getfield 36, 3) := by decide +kernel
theorem dX7_spreadTarget_18 : decode cX7_spreadTarget 18 = .ok (.iload 4, 2) := by decide +kernel
theorem dX7_spreadTarget_20 : decode cX7_spreadTarget 20 = .ok (.aaload, 1) := by decide +kernel
theorem dX7_spreadTarget_21 : decode cX7_spreadTarget 21 = .ok (.getfield 109, 3) := by decide +kernel
theorem dX7_spreadTarget_24 : decode cX7_spreadTarget 24 = .ok (.iconst 1, 1) := by decide +kernel
theorem dX7_spreadTarget_25 : decode cX7_spreadTarget 25 = .ok (.if_icmp .ne 18, 3) := by decide +kernel
theorem dX7_spreadTarget_28 : decode cX7_spreadTarget 28 = .ok (.iload_n 3, 1) := by decide +kernel
theorem dX7_spreadTarget_29 : decode cX7_spreadTarget 29 = .ok (.aload_n 0, 1) := by decide +kernel
theorem dX7_spreadTarget_30 : decode cX7_spreadTarget 30 = .ok (.getfield 36, 3) := by decide +kernel
theorem dX7_spreadTarget_33 : decode cX7_spreadTarget 33 = .ok (.iload 4, 2) := by decide +kernel
theorem dX7_spreadTarget_35 : decode cX7_spreadTarget 35 = .ok (.aaload, 1) := by decide +kernel
theorem dX7_spreadTarget_36 : decode cX7_spreadTarget 36 = .ok (.aload_n 1, 1) := by decide +kernel
theorem dX7_spreadTarget_37 : decode cX7_spreadTarget 37 = .ok (.iload_n 2, 1) := by decide +kernel
theorem dX7_spreadTarget_38 : decode cX7_spreadTarget 38 = .ok (.invokevirtual 112, 3) := by decide +kernel
theorem dX7_spreadTarget_41 : decode cX7_spreadTarget 41 = .ok (.iadd, 1) := by decide +kernel
theorem dX7_spreadTarget_42 : decode cX7_spreadTarget 42 = .ok (.istore_n 3, 1) := by decide +kernel
theorem dX7_spreadTarget_43 : decode cX7_spreadTarget 43 = .ok (.iinc 4 1, 3) := by decide +kernel
theorem dX7_spreadTarget_46 : decode cX7_spreadTarget 46 = .ok (.goto (-41), 3) := by decide +kernel
theorem dX7_spreadTarget_49 : decode cX7_spreadTarget 49 = .ok (.iload_n 3, 1) := by decide +kernel
theorem dX7_spreadTarget_50 : decode cX7_spreadTarget 50 = .ok (.ireturn, 1) := by decide +kernel
theorem dX7_decide_0 : decode cX7_decide 0 = .ok (.aload_n 0, 1) := by decide +kernel
theorem dX7_decide_1 : decode cX7_decide 1 = .ok (.getfield 54, 3) := by decide +kernel
theorem dX7_decide_4 : decode cX7_decide 4 = .ok (.getfield 115, 3) := by decide +kernel
theorem dX7_decide_7 : decode cX7_decide 7 = .ok (.iload_n 1, 1) := by decide +kernel
theorem dX7_decide_8 : decode cX7_decide 8 = .ok (.aaload, 1) := by decide +kernel
theorem dX7_decide_9 : decode cX7_decide 9 = .ok (.astore_n 3, 1) := by decide +kernel
theorem dX7_decide_10 : decode cX7_decide 10 = .ok (.aload_n 0, 1) := by decide +kernel
theorem dX7_decide_11 : decode cX7_decide 11 = .ok (.getfield 54, 3) := by decide +kernel
theorem dX7_decide_14 : decode cX7_decide 14 = .ok (.aload_n 3, 1) := by decide +kernel
theorem dX7_decide_15 : decode cX7_decide 15 = .ok (.getfield 119, 3) := by decide +kernel
theorem dX7_decide_18 : decode cX7_decide 18 = .ok (.invokevirtual 124, 3) := by decide +kernel
theorem dX7_decide_21 : decode cX7_decide 21 = .ok (.ifCond .ne 5, 3) := by decide +kernel
theorem dX7_decide_24 : decode cX7_decide 24 = .ok (.iconst 0, 1) := by decide +kernel
theorem dX7_decide_25 : decode cX7_decide 25 = .ok (.ireturn, 1) := by decide +kernel
theorem dX7_decide_26 : decode cX7_decide 26 = .ok (.aload_n 3, 1) := by decide +kernel
theorem dX7_decide_27 : decode cX7_decide 27 = .ok (.iload_n 2, 1) := by decide +kernel
theorem dX7_decide_28 : decode cX7_decide 28 = .ok (.ifCond .ne 10, 3) := by decide +kernel
theorem dX7_decide_31 : decode cX7_decide 31 = .ok (.aload_n 3, 1) := by decide +kernel
theorem dX7_decide_32 : decode cX7_decide 32 = .ok (.getfield 127, 3) := by decide +kernel
theorem dX7_decide_35 : decode cX7_decide 35 = .ok (.goto 7, 3) := by decide +kernel
theorem dX7_decide_38 : decode cX7_decide 38 = .ok (.aload_n 3, 1) := by decide +kernel
theorem dX7_decide_39 : decode cX7_decide 39 = .ok (.getfield 130, 3) := by decide +kernel
theorem dX7_decide_42 : decode cX7_decide 42 = .ok (.putfield 133, 3) := by decide +kernel
theorem dX7_decide_45 : decode cX7_decide 45 = .ok (.aload_n 0, 1) := by decide +kernel
theorem dX7_decide_46 : decode cX7_decide 46 = .ok (.getfield 54, 3) := by decide +kernel
theorem dX7_decide_49 : decode cX7_decide 49 = .ok (.getfield 136, 3) := by decide +kernel
theorem dX7_decide_52 : decode cX7_decide 52 = .ok (.aload_n 3, 1) := by decide +kernel
theorem dX7_decide_53 : decode cX7_decide 53 = .ok (.getfield 119, 3) := by decide +kernel
theorem dX7_decide_56 : decode cX7_decide 56 = .ok (.aaload, 1) := by decide +kernel
theorem dX7_decide_57 : decode cX7_decide 57 = .ok (.astore 4, 2) := by decide +kernel
theorem dX7_decide_59 : decode cX7_decide 59 = .ok (.aload 4, 2) := by decide +kernel
theorem dX7_decide_61 : decode cX7_decide 61 = .ok (.aload_n 3, 1) := by decide +kernel
theorem dX7_decide_62 : decode cX7_decide 62 = .ok (.getfield 133, 3) := by decide +kernel
theorem dX7_decide_65 : decode cX7_decide 65 = .ok (.putfield 140, 3) := by decide +kernel
theorem dX7_decide_68 : decode cX7_decide 68 = .ok (.aload 4, 2) := by decide +kernel
theorem dX7_decide_70 : decode cX7_decide 70 = .ok (.iconst 1, 1) := by decide +kernel
theorem dX7_decide_71 : decode cX7_decide 71 = .ok (.putfield 145, 3) := by decide +kernel
theorem dX7_decide_74 : decode cX7_decide 74 = .ok (.iconst 0, 1) := by decide +kernel
theorem dX7_decide_75 : decode cX7_decide 75 = .ok (.istore 5, 2) := by decide +kernel
theorem dX7_decide_77 : decode cX7_decide 77 = .ok (.iconst 0, 1) := by decide +kernel
theorem dX7_decide_78 : decode cX7_decide 78 = .ok (.istore 6, 2) := by decide +kernel
theorem dX7_decide_80 : decode cX7_decide 80 = .ok (.iload 6, 2) := by decide +kernel
theorem dX7_decide_82 : decode cX7_decide 82 = .ok (.aload_n 0, 1) := by decide +kernel
theorem dX7_decide_83 : decode cX7_decide 83 = .ok (.getfield 43, 3) := by decide +kernel
theorem dX7_decide_86 : decode cX7_decide 86 = .ok (.if_icmp .ge 47, 3) := by decide +kernel
theorem dX7_decide_89 : decode cX7_decide 89 = .ok (.aload_n 0, 1) := by decide +kernel
theorem dX7_decide_90 : decode cX7_decide 90 = .ok (.getfield 36, 3) := by decide +kernel
theorem dX7_decide_93 : decode cX7_decide 93 = .ok (.iload 6, 2) := by decide +kernel
theorem dX7_decide_95 : decode cX7_decide 95 = .ok (.aaload, 1) := by decide +kernel
theorem dX7_decide_96 : decode cX7_decide 96 = .ok (.invokevirtual 74, 3) := by decide +kernel
theorem dX7_decide_99 : decode cX7_decide 99 = .ok (.ifCond .eq 28, 3) := by decide +kernel
theorem dX7_decide_102 : decode cX7_decide 102 = .ok (.iload 5, 2) := by decide +kernel
theorem dX7_decide_104 : decode cX7_decide 104 = .ok (.aload_n 0, 1) := by decide +kernel
theorem dX7_decide_105 : decode cX7_decide 105 = .ok (.getfield 36, 3) := by decide +kernel
theorem dX7_decide_108 : decode cX7_decide 108 = .ok (.iload 6, 2) := by decide +kernel
theorem dX7_decide_110 : decode cX7_decide 110 = .ok (.aaload, 1) := by decide +kernel
theorem dX7_decide_111 : decode cX7_decide 111 = .ok (.aload 4, 2) := by decide +kernel
theorem dX7_decide_113 : decode cX7_decide 113 = .ok (.getfield 149, 3) := by decide +kernel
theorem dX7_decide_116 : decode cX7_decide 116 = .ok (.aload 4, 2) := by decide +kernel
theorem dX7_decide_118 : decode cX7_decide 118 = .ok (.getfield 140, 3) := by decide +kernel
theorem dX7_decide_121 : decode cX7_decide 121 = .ok (.invokevirtual 153, 3) := by decide +kernel
theorem dX7_decide_124 : decode cX7_decide 124 = .ok (.iadd, 1) := by decide +kernel
theorem dX7_decide_125 : decode cX7_decide 125 = .ok (.istore 5, 2) := by decide +kernel
theorem dX7_decide_127 : decode cX7_decide 127 = .ok (.iinc 6 1, 3) := by decide +kernel
theorem dX7_decide_130 : decode cX7_decide 130 = .ok (.goto (-50), 3) := by decide +kernel
theorem dX7_decide_133 : decode cX7_decide 133 = .ok (.iload 5, 2) := by decide +kernel
theorem dX7_decide_135 : decode cX7_decide 135 = .ok (.ireturn, 1) := by decide +kernel
theorem dX7_mayReview_0 : decode cX7_mayReview 0 = .ok (.aload_n 0, 1) := by decide +kernel
theorem dX7_mayReview_1 : decode cX7_mayReview 1 = .ok (.getfield 36, 3) := by decide +kernel
theorem dX7_mayReview_4 : decode cX7_mayReview 4 = .ok (.iload_n 1, 1) := by decide +kernel
theorem dX7_mayReview_5 : decode cX7_mayReview 5 = .ok (.aaload, 1) := by decide +kernel
theorem dX7_mayReview_6 : decode cX7_mayReview 6 = .ok (.getfield 156, 3) := by decide +kernel
theorem dX7_mayReview_9 : decode cX7_mayReview 9 = .ok (.istore_n 3, 1) := by decide +kernel
theorem dX7_mayReview_10 : decode cX7_mayReview 10 = .ok (.aload_n 0, 1) := by decide +kernel
theorem dX7_mayReview_11 : decode cX7_mayReview 11 = .ok (.getfield 36, 3) := by decide +kernel
theorem dX7_mayReview_14 : decode cX7_mayReview 14 = .ok (.iload_n 1, 1) := by decide +kernel
theorem dX7_mayReview_15 : decode cX7_mayReview 15 = .ok (.aaload, 1) := by decide +kernel
theorem dX7_mayReview_16 : decode cX7_mayReview 16 = .ok (.getfield 109, 3) := by decide +kernel
theorem dX7_mayReview_19 : decode cX7_mayReview 19 = .ok (.iconst 1, 1) := by decide +kernel
theorem dX7_mayReview_20 : decode cX7_mayReview 20 = .ok (.if_icmp .ne 46, 3) := by decide +kernel
theorem dX7_mayReview_23 : decode cX7_mayReview 23 = .ok (.aload_n 0, 1) := by decide +kernel
theorem dX7_mayReview_24 : decode cX7_mayReview 24 = .ok (.iload_n 3, 1) := by decide +kernel
theorem dX7_mayReview_25 : decode cX7_mayReview 25 = .ok (.invokevirtual 159, 3) := by decide +kernel
theorem dX7_mayReview_28 : decode cX7_mayReview 28 = .ok (.ifCond .eq 38, 3) := by decide +kernel
theorem dX7_mayReview_31 : decode cX7_mayReview 31 = .ok (.iload_n 2, 1) := by decide +kernel
theorem dX7_mayReview_32 : decode cX7_mayReview 32 = .ok (.iload_n 3, 1) := by decide +kernel
theorem dX7_mayReview_33 : decode cX7_mayReview 33 = .ok (.if_icmp .eq 33, 3) := by decide +kernel
theorem dX7_mayReview_36 : decode cX7_mayReview 36 = .ok (.aload_n 0, 1) := by decide +kernel
theorem dX7_mayReview_37 : decode cX7_mayReview 37 = .ok (.getfield 25, 3) := by decide +kernel
theorem dX7_mayReview_40 : decode cX7_mayReview 40 = .ok (.iload_n 3, 1) := by decide +kernel
theorem dX7_mayReview_41 : decode cX7_mayReview 41 = .ok (.aaload, 1) := by decide +kernel
theorem dX7_mayReview_42 : decode cX7_mayReview 42 = .ok (.iload_n 2, 1) := by decide +kernel
theorem dX7_mayReview_43 : decode cX7_mayReview 43 = .ok (.invokevirtual 162, 3) := by decide +kernel
theorem dX7_mayReview_46 : decode cX7_mayReview 46 = .ok (.ifCond .ne 20, 3) := by decide +kernel
theorem dX7_mayReview_49 : decode cX7_mayReview 49 = .ok (.aload_n 0, 1) := by decide +kernel
theorem dX7_mayReview_50 : decode cX7_mayReview 50 = .ok (.getfield 25, 3) := by decide +kernel
theorem dX7_mayReview_53 : decode cX7_mayReview 53 = .ok (.iload_n 3, 1) := by decide +kernel
theorem dX7_mayReview_54 : decode cX7_mayReview 54 = .ok (.aaload, 1) := by decide +kernel
theorem dX7_mayReview_55 : decode cX7_mayReview 55 = .ok (.getfield 165, 3) := by decide +kernel
theorem dX7_mayReview_58 : decode cX7_mayReview 58 = .ok (.iload_n 2, 1) := by decide +kernel
theorem dX7_mayReview_59 : decode cX7_mayReview 59 = .ok (.if_icmp .eq 7, 3) := by decide +kernel
theorem dX7_mayReview_62 : decode cX7_mayReview 62 = .ok (.iconst 1, 1) := by decide +kernel
theorem dX7_mayReview_63 : decode cX7_mayReview 63 = .ok (.goto 4, 3) := by decide +kernel
theorem dX7_mayReview_66 : decode cX7_mayReview 66 = .ok (.iconst 0, 1) := by decide +kernel
theorem dX7_mayReview_67 : decode cX7_mayReview 67 = .ok (.ireturn, 1) := by decide +kernel
theorem dX7_isReadyForReview_0 : decode cX7_isReadyForReview 0 = .ok (.aload_n 0, 1) := by decide +kernel
theorem dX7_isReadyForReview_1 : decode cX7_isReadyForReview 1 = .ok (.getfield 36, 3) := by decide +kernel
theorem dX7_isReadyForReview_4 : decode cX7_isReadyForReview 4 = .ok (.iload_n 1, 1) := by decide +kernel
theorem dX7_isReadyForReview_5 : decode cX7_isReadyForReview 5 = .ok (.aaload, 1) := by decide +kernel
theorem dX7_isReadyForReview_6 : decode cX7_isReadyForReview 6 = .ok (.astore_n 2, 1) := by decide +kernel
theorem dX7_isReadyForReview_7 : decode cX7_isReadyForReview 7 = .ok (.iconst 0, 1) := by decide +kernel
theorem dX7_isReadyForReview_8 : decode cX7_isReadyForReview 8 = .ok (.istore_n 3, 1) := by decide +kernel
theorem dX7_isReadyForReview_9 : decode cX7_isReadyForReview 9 = .ok (.iload_n 3, 1) := by decide +kernel
theorem dX7_isReadyForReview_10 : decode cX7_isReadyForReview 10 = .ok (.aload_n 2, 1) := by decide +kernel
theorem dX7_isReadyForReview_11 : decode cX7_isReadyForReview 11 = .ok (.getfield 65, 3) := by decide +kernel
theorem dX7_isReadyForReview_14 : decode cX7_isReadyForReview 14 = .ok (.if_icmp .ge 36, 3) := by decide +kernel
theorem dX7_isReadyForReview_17 : decode cX7_isReadyForReview 17 = .ok (.aload_n 2, 1) := by decide +kernel
theorem dX7_isReadyForReview_18 : decode cX7_isReadyForReview 18 = .ok (.getfield 168, 3) := by decide +kernel
theorem dX7_isReadyForReview_21 : decode cX7_isReadyForReview 21 = .ok (.iload_n 3, 1) := by decide +kernel
theorem dX7_isReadyForReview_22 : decode cX7_isReadyForReview 22 = .ok (.iaload, 1) := by decide +kernel
theorem dX7_isReadyForReview_23 : decode cX7_isReadyForReview 23 = .ok (.ifCond .eq 19, 3) := by decide +kernel
theorem dX7_isReadyForReview_26 : decode cX7_isReadyForReview 26 = .ok (.aload_n 0, 1) := by decide +kernel
theorem dX7_isReadyForReview_27 : decode cX7_isReadyForReview 27 = .ok (.getfield 54, 3) := by decide +kernel
theorem dX7_isReadyForReview_30 : decode cX7_isReadyForReview 30 = .ok (.aload_n 2, 1) := by decide +kernel
theorem dX7_isReadyForReview_31 : decode cX7_isReadyForReview 31 = .ok (.getfield 78, 3) := by decide +kernel
theorem dX7_isReadyForReview_34 : decode cX7_isReadyForReview 34 = .ok (.iload_n 3, 1) := by decide +kernel
theorem dX7_isReadyForReview_35 : decode cX7_isReadyForReview 35 = .ok (.aaload, 1) := by decide +kernel
theorem dX7_isReadyForReview_36 : decode cX7_isReadyForReview 36 = .ok (.invokevirtual 171, 3) := by decide +kernel
theorem dX7_isReadyForReview_39 : decode cX7_isReadyForReview 39 = .ok (.ifCond .eq 5, 3) := by decide +kernel
theorem dX7_isReadyForReview_42 : decode cX7_isReadyForReview 42 = .ok (.iconst 0, 1) := by decide +kernel
theorem dX7_isReadyForReview_43 : decode cX7_isReadyForReview 43 = .ok (.ireturn, 1) := by decide +kernel
theorem dX7_isReadyForReview_44 : decode cX7_isReadyForReview 44 = .ok (.iinc 3 1, 3) := by decide +kernel
theorem dX7_isReadyForReview_47 : decode cX7_isReadyForReview 47 = .ok (.goto (-38), 3) := by decide +kernel
theorem dX7_isReadyForReview_50 : decode cX7_isReadyForReview 50 = .ok (.iconst 1, 1) := by decide +kernel
theorem dX7_isReadyForReview_51 : decode cX7_isReadyForReview 51 = .ok (.ireturn, 1) := by decide +kernel
theorem dX7_giveToReviewer_0 : decode cX7_giveToReviewer 0 = .ok (.aload_n 0, 1) := by decide +kernel
theorem dX7_giveToReviewer_1 : decode cX7_giveToReviewer 1 = .ok (.getfield 36, 3) := by decide +kernel
theorem dX7_giveToReviewer_4 : decode cX7_giveToReviewer 4 = .ok (.iload_n 1, 1) := by decide +kernel
theorem dX7_giveToReviewer_5 : decode cX7_giveToReviewer 5 = .ok (.aaload, 1) := by decide +kernel
theorem dX7_giveToReviewer_6 : decode cX7_giveToReviewer 6 = .ok (.astore_n 3, 1) := by decide +kernel
theorem dX7_giveToReviewer_7 : decode cX7_giveToReviewer 7 = .ok (.aload_n 3, 1) := by decide +kernel
theorem dX7_giveToReviewer_8 : decode cX7_giveToReviewer 8 = .ok (.iconst 2, 1) := by decide +kernel
theorem dX7_giveToReviewer_9 : decode cX7_giveToReviewer 9 = .ok (.putfield 109, 3) := by decide +kernel
theorem dX7_giveToReviewer_12 : decode cX7_giveToReviewer 12 = .ok (.aload_n 3, 1) := by decide +kernel
theorem dX7_giveToReviewer_13 : decode cX7_giveToReviewer 13 = .ok (.iload_n 2, 1) := by decide +kernel
theorem dX7_giveToReviewer_14 : decode cX7_giveToReviewer 14 = .ok (.putfield 175, 3) := by decide +kernel
theorem dX7_giveToReviewer_17 : decode cX7_giveToReviewer 17 = .ok (.aload_n 0, 1) := by decide +kernel
theorem dX7_giveToReviewer_18 : decode cX7_giveToReviewer 18 = .ok (.aload_n 3, 1) := by decide +kernel
theorem dX7_giveToReviewer_19 : decode cX7_giveToReviewer 19 = .ok (.getfield 156, 3) := by decide +kernel
theorem dX7_giveToReviewer_22 : decode cX7_giveToReviewer 22 = .ok (.invokevirtual 159, 3) := by decide +kernel
theorem dX7_giveToReviewer_25 : decode cX7_giveToReviewer 25 = .ok (.ifCond .eq 16, 3) := by decide +kernel
theorem dX7_giveToReviewer_28 : decode cX7_giveToReviewer 28 = .ok (.aload_n 0, 1) := by decide +kernel
theorem dX7_giveToReviewer_29 : decode cX7_giveToReviewer 29 = .ok (.getfield 25, 3) := by decide +kernel
theorem dX7_giveToReviewer_32 : decode cX7_giveToReviewer 32 = .ok (.aload_n 3, 1) := by decide +kernel
theorem dX7_giveToReviewer_33 : decode cX7_giveToReviewer 33 = .ok (.getfield 156, 3) := by decide +kernel
theorem dX7_giveToReviewer_36 : decode cX7_giveToReviewer 36 = .ok (.aaload, 1) := by decide +kernel
theorem dX7_giveToReviewer_37 : decode cX7_giveToReviewer 37 = .ok (.iload_n 2, 1) := by decide +kernel
theorem dX7_giveToReviewer_38 : decode cX7_giveToReviewer 38 = .ok (.putfield 165, 3) := by decide +kernel
theorem dX7_giveToReviewer_41 : decode cX7_giveToReviewer 41 = .ok (.return_, 1) := by decide +kernel
theorem dX7_countTranslating_0 : decode cX7_countTranslating 0 = .ok (.iconst 0, 1) := by decide +kernel
theorem dX7_countTranslating_1 : decode cX7_countTranslating 1 = .ok (.istore_n 2, 1) := by decide +kernel
theorem dX7_countTranslating_2 : decode cX7_countTranslating 2 = .ok (.iconst 0, 1) := by decide +kernel
theorem dX7_countTranslating_3 : decode cX7_countTranslating 3 = .ok (.istore_n 3, 1) := by decide +kernel
theorem dX7_countTranslating_4 : decode cX7_countTranslating 4 = .ok (.iload_n 3, 1) := by decide +kernel
theorem dX7_countTranslating_5 : decode cX7_countTranslating 5 = .ok (.aload_n 0, 1) := by decide +kernel
theorem dX7_countTranslating_6 : decode cX7_countTranslating 6 = .ok (.getfield 43, 3) := by decide +kernel
theorem dX7_countTranslating_9 : decode cX7_countTranslating 9 = .ok (.if_icmp .ge 63, 3) := by decide +kernel
theorem dX7_countTranslating_12 : decode cX7_countTranslating 12 = .ok (.aload_n 0, 1) := by decide +kernel
theorem dX7_countTranslating_13 : decode cX7_countTranslating 13 = .ok (.getfield 36, 3) := by decide +kernel
theorem dX7_countTranslating_16 : decode cX7_countTranslating 16 = .ok (.iload_n 3, 1) := by decide +kernel
theorem dX7_countTranslating_17 : decode cX7_countTranslating 17 = .ok (.aaload, 1) := by decide +kernel
theorem dX7_countTranslating_18 : decode cX7_countTranslating 18 = .ok (.getfield 109, 3) := by decide +kernel
theorem dX7_countTranslating_21 : decode cX7_countTranslating 21 = .ok (.iconst 1, 1) := by decide +kernel
theorem dX7_countTranslating_22 : decode cX7_countTranslating 22 = .ok (.if_icmp .eq 16, 3) := by decide +kernel
theorem dX7_countTranslating_25 : decode cX7_countTranslating 25 = .ok (.aload_n 0, 1) := by decide +kernel
theorem dX7_countTranslating_26 : decode cX7_countTranslating 26 = .ok (.getfield 36, 3) := by decide +kernel
theorem dX7_countTranslating_29 : decode cX7_countTranslating 29 = .ok (.iload_n 3, 1) := by decide +kernel
theorem dX7_countTranslating_30 : decode cX7_countTranslating 30 = .ok (.aaload, 1) := by decide +kernel
theorem dX7_countTranslating_31 : decode cX7_countTranslating 31 = .ok (.getfield 109, 3) := by decide +kernel
theorem dX7_countTranslating_34 : decode cX7_countTranslating 34 = .ok (.iconst 2, 1) := by decide +kernel
theorem dX7_countTranslating_35 : decode cX7_countTranslating 35 = .ok (.if_icmp .ne 7, 3) := by decide +kernel
theorem dX7_countTranslating_38 : decode cX7_countTranslating 38 = .ok (.iconst 1, 1) := by decide +kernel
theorem dX7_countTranslating_39 : decode cX7_countTranslating 39 = .ok (.goto 4, 3) := by decide +kernel
theorem dX7_countTranslating_42 : decode cX7_countTranslating 42 = .ok (.iconst 0, 1) := by decide +kernel
theorem dX7_countTranslating_43 : decode cX7_countTranslating 43 = .ok (.istore 4, 2) := by decide +kernel
theorem dX7_countTranslating_45 : decode cX7_countTranslating 45 = .ok (.iload 4, 2) := by decide +kernel
theorem dX7_countTranslating_47 : decode cX7_countTranslating 47 = .ok (.ifCond .eq 19, 3) := by decide +kernel
theorem dX7_countTranslating_50 : decode cX7_countTranslating 50 = .ok (.aload_n 0, 1) := by decide +kernel
theorem dX7_countTranslating_51 : decode cX7_countTranslating 51 = .ok (.getfield 36, 3) := by decide +kernel
theorem dX7_countTranslating_54 : decode cX7_countTranslating 54 = .ok (.iload_n 3, 1) := by decide +kernel
theorem dX7_countTranslating_55 : decode cX7_countTranslating 55 = .ok (.aaload, 1) := by decide +kernel
theorem dX7_countTranslating_56 : decode cX7_countTranslating 56 = .ok (.iload_n 1, 1) := by decide +kernel
theorem dX7_countTranslating_57 : decode cX7_countTranslating 57 = .ok (.invokevirtual 178, 3) := by decide +kernel
theorem dX7_countTranslating_60 : decode cX7_countTranslating 60 = .ok (.ifCond .eq 6, 3) := by decide +kernel
theorem dX7_countTranslating_63 : decode cX7_countTranslating 63 = .ok (.iinc 2 1, 3) := by decide +kernel
theorem dX7_countTranslating_66 : decode cX7_countTranslating 66 = .ok (.iinc 3 1, 3) := by decide +kernel
theorem dX7_countTranslating_69 : decode cX7_countTranslating 69 = .ok (.goto (-65), 3) := by decide +kernel
theorem dX7_countTranslating_72 : decode cX7_countTranslating 72 = .ok (.iload_n 2, 1) := by decide +kernel
theorem dX7_countTranslating_73 : decode cX7_countTranslating 73 = .ok (.ireturn, 1) := by decide +kernel
theorem dX7_countReviewing_0 : decode cX7_countReviewing 0 = .ok (.iconst 0, 1) := by decide +kernel
theorem dX7_countReviewing_1 : decode cX7_countReviewing 1 = .ok (.istore_n 2, 1) := by decide +kernel
theorem dX7_countReviewing_2 : decode cX7_countReviewing 2 = .ok (.iconst 0, 1) := by decide +kernel
theorem dX7_countReviewing_3 : decode cX7_countReviewing 3 = .ok (.istore_n 3, 1) := by decide +kernel
theorem dX7_countReviewing_4 : decode cX7_countReviewing 4 = .ok (.iload_n 3, 1) := by decide +kernel
theorem dX7_countReviewing_5 : decode cX7_countReviewing 5 = .ok (.aload_n 0, 1) := by decide +kernel
theorem dX7_countReviewing_6 : decode cX7_countReviewing 6 = .ok (.getfield 43, 3) := by decide +kernel
theorem dX7_countReviewing_9 : decode cX7_countReviewing 9 = .ok (.if_icmp .ge 38, 3) := by decide +kernel
theorem dX7_countReviewing_12 : decode cX7_countReviewing 12 = .ok (.aload_n 0, 1) := by decide +kernel
theorem dX7_countReviewing_13 : decode cX7_countReviewing 13 = .ok (.getfield 36, 3) := by decide +kernel
theorem dX7_countReviewing_16 : decode cX7_countReviewing 16 = .ok (.iload_n 3, 1) := by decide +kernel
theorem dX7_countReviewing_17 : decode cX7_countReviewing 17 = .ok (.aaload, 1) := by decide +kernel
theorem dX7_countReviewing_18 : decode cX7_countReviewing 18 = .ok (.getfield 109, 3) := by decide +kernel
theorem dX7_countReviewing_21 : decode cX7_countReviewing 21 = .ok (.iconst 2, 1) := by decide +kernel
theorem dX7_countReviewing_22 : decode cX7_countReviewing 22 = .ok (.if_icmp .ne 19, 3) := by decide +kernel
theorem dX7_countReviewing_25 : decode cX7_countReviewing 25 = .ok (.aload_n 0, 1) := by decide +kernel
theorem dX7_countReviewing_26 : decode cX7_countReviewing 26 = .ok (.getfield 36, 3) := by decide +kernel
theorem dX7_countReviewing_29 : decode cX7_countReviewing 29 = .ok (.iload_n 3, 1) := by decide +kernel
theorem dX7_countReviewing_30 : decode cX7_countReviewing 30 = .ok (.aaload, 1) := by decide +kernel
theorem dX7_countReviewing_31 : decode cX7_countReviewing 31 = .ok (.iload_n 1, 1) := by decide +kernel
theorem dX7_countReviewing_32 : decode cX7_countReviewing 32 = .ok (.invokevirtual 181, 3) := by decide +kernel
theorem dX7_countReviewing_35 : decode cX7_countReviewing 35 = .ok (.ifCond .eq 6, 3) := by decide +kernel
theorem dX7_countReviewing_38 : decode cX7_countReviewing 38 = .ok (.iinc 2 1, 3) := by decide +kernel
theorem dX7_countReviewing_41 : decode cX7_countReviewing 41 = .ok (.iinc 3 1, 3) := by decide +kernel
theorem dX7_countReviewing_44 : decode cX7_countReviewing 44 = .ok (.goto (-40), 3) := by decide +kernel
theorem dX7_countReviewing_47 : decode cX7_countReviewing 47 = .ok (.iload_n 2, 1) := by decide +kernel
theorem dX7_countReviewing_48 : decode cX7_countReviewing 48 = .ok (.ireturn, 1) := by decide +kernel
theorem dX7_wordsTranslated_0 : decode cX7_wordsTranslated 0 = .ok (.iconst 0, 1) := by decide +kernel
theorem dX7_wordsTranslated_1 : decode cX7_wordsTranslated 1 = .ok (.istore_n 2, 1) := by decide +kernel
theorem dX7_wordsTranslated_2 : decode cX7_wordsTranslated 2 = .ok (.iconst 0, 1) := by decide +kernel
theorem dX7_wordsTranslated_3 : decode cX7_wordsTranslated 3 = .ok (.istore_n 3, 1) := by decide +kernel
theorem dX7_wordsTranslated_4 : decode cX7_wordsTranslated 4 = .ok (.iload_n 3, 1) := by decide +kernel
theorem dX7_wordsTranslated_5 : decode cX7_wordsTranslated 5 = .ok (.aload_n 0, 1) := by decide +kernel
theorem dX7_wordsTranslated_6 : decode cX7_wordsTranslated 6 = .ok (.getfield 43, 3) := by decide +kernel
theorem dX7_wordsTranslated_9 : decode cX7_wordsTranslated 9 = .ok (.if_icmp .ge 47, 3) := by decide +kernel
theorem dX7_wordsTranslated_12 : decode cX7_wordsTranslated 12 = .ok (.aload_n 0, 1) := by decide +kernel
theorem dX7_wordsTranslated_13 : decode cX7_wordsTranslated 13 = .ok (.getfield 36, 3) := by decide +kernel
theorem dX7_wordsTranslated_16 : decode cX7_wordsTranslated 16 = .ok (.iload_n 3, 1) := by decide +kernel
theorem dX7_wordsTranslated_17 : decode cX7_wordsTranslated 17 = .ok (.aaload, 1) := by decide +kernel
theorem dX7_wordsTranslated_18 : decode cX7_wordsTranslated 18 = .ok (.getfield 109, 3) := by decide +kernel
theorem dX7_wordsTranslated_21 : decode cX7_wordsTranslated 21 = .ok (.iconst 3, 1) := by decide +kernel
theorem dX7_wordsTranslated_22 : decode cX7_wordsTranslated 22 = .ok (.if_icmp .ne 28, 3) := by decide +kernel
theorem dX7_wordsTranslated_25 : decode cX7_wordsTranslated 25 = .ok (.aload_n 0, 1) := by decide +kernel
theorem dX7_wordsTranslated_26 : decode cX7_wordsTranslated 26 = .ok (.getfield 36, 3) := by decide +kernel
theorem dX7_wordsTranslated_29 : decode cX7_wordsTranslated 29 = .ok (.iload_n 3, 1) := by decide +kernel
theorem dX7_wordsTranslated_30 : decode cX7_wordsTranslated 30 = .ok (.aaload, 1) := by decide +kernel
theorem dX7_wordsTranslated_31 : decode cX7_wordsTranslated 31 = .ok (.iload_n 1, 1) := by decide +kernel
theorem dX7_wordsTranslated_32 : decode cX7_wordsTranslated 32 = .ok (.invokevirtual 178, 3) := by decide +kernel
theorem dX7_wordsTranslated_35 : decode cX7_wordsTranslated 35 = .ok (.ifCond .eq 15, 3) := by decide +kernel
theorem dX7_wordsTranslated_38 : decode cX7_wordsTranslated 38 = .ok (.iload_n 2, 1) := by decide +kernel
theorem dX7_wordsTranslated_39 : decode cX7_wordsTranslated 39 = .ok (.aload_n 0, 1) := by decide +kernel
theorem dX7_wordsTranslated_40 : decode cX7_wordsTranslated 40 = .ok (.getfield 36, 3) := by decide +kernel
theorem dX7_wordsTranslated_43 : decode cX7_wordsTranslated 43 = .ok (.iload_n 3, 1) := by decide +kernel
theorem dX7_wordsTranslated_44 : decode cX7_wordsTranslated 44 = .ok (.aaload, 1) := by decide +kernel
theorem dX7_wordsTranslated_45 : decode cX7_wordsTranslated 45 = .ok (.invokevirtual 184, 3) := by decide +kernel
theorem dX7_wordsTranslated_48 : decode cX7_wordsTranslated 48 = .ok (.iadd, 1) := by decide +kernel
theorem dX7_wordsTranslated_49 : decode cX7_wordsTranslated 49 = .ok (.istore_n 2, 1) := by decide +kernel
theorem dX7_wordsTranslated_50 : decode cX7_wordsTranslated 50 = .ok (.iinc 3 1, 3) := by decide +kernel
theorem dX7_wordsTranslated_53 : decode cX7_wordsTranslated 53 = .ok (.goto (-49), 3) := by decide +kernel
theorem dX7_wordsTranslated_56 : decode cX7_wordsTranslated 56 = .ok (.iload_n 2, 1) := by decide +kernel
theorem dX7_wordsTranslated_57 : decode cX7_wordsTranslated 57 = .ok (.ireturn, 1) := by decide +kernel
theorem dX7_wordsReviewed_0 : decode cX7_wordsReviewed 0 = .ok (.iconst 0, 1) := by decide +kernel
theorem dX7_wordsReviewed_1 : decode cX7_wordsReviewed 1 = .ok (.istore_n 2, 1) := by decide +kernel
theorem dX7_wordsReviewed_2 : decode cX7_wordsReviewed 2 = .ok (.iconst 0, 1) := by decide +kernel
theorem dX7_wordsReviewed_3 : decode cX7_wordsReviewed 3 = .ok (.istore_n 3, 1) := by decide +kernel
theorem dX7_wordsReviewed_4 : decode cX7_wordsReviewed 4 = .ok (.iload_n 3, 1) := by decide +kernel
theorem dX7_wordsReviewed_5 : decode cX7_wordsReviewed 5 = .ok (.aload_n 0, 1) := by decide +kernel
theorem dX7_wordsReviewed_6 : decode cX7_wordsReviewed 6 = .ok (.getfield 43, 3) := by decide +kernel
theorem dX7_wordsReviewed_9 : decode cX7_wordsReviewed 9 = .ok (.if_icmp .ge 47, 3) := by decide +kernel
theorem dX7_wordsReviewed_12 : decode cX7_wordsReviewed 12 = .ok (.aload_n 0, 1) := by decide +kernel
theorem dX7_wordsReviewed_13 : decode cX7_wordsReviewed 13 = .ok (.getfield 36, 3) := by decide +kernel
theorem dX7_wordsReviewed_16 : decode cX7_wordsReviewed 16 = .ok (.iload_n 3, 1) := by decide +kernel
theorem dX7_wordsReviewed_17 : decode cX7_wordsReviewed 17 = .ok (.aaload, 1) := by decide +kernel
theorem dX7_wordsReviewed_18 : decode cX7_wordsReviewed 18 = .ok (.getfield 109, 3) := by decide +kernel
theorem dX7_wordsReviewed_21 : decode cX7_wordsReviewed 21 = .ok (.iconst 3, 1) := by decide +kernel
theorem dX7_wordsReviewed_22 : decode cX7_wordsReviewed 22 = .ok (.if_icmp .ne 28, 3) := by decide +kernel
theorem dX7_wordsReviewed_25 : decode cX7_wordsReviewed 25 = .ok (.aload_n 0, 1) := by decide +kernel
theorem dX7_wordsReviewed_26 : decode cX7_wordsReviewed 26 = .ok (.getfield 36, 3) := by decide +kernel
theorem dX7_wordsReviewed_29 : decode cX7_wordsReviewed 29 = .ok (.iload_n 3, 1) := by decide +kernel
theorem dX7_wordsReviewed_30 : decode cX7_wordsReviewed 30 = .ok (.aaload, 1) := by decide +kernel
theorem dX7_wordsReviewed_31 : decode cX7_wordsReviewed 31 = .ok (.iload_n 1, 1) := by decide +kernel
theorem dX7_wordsReviewed_32 : decode cX7_wordsReviewed 32 = .ok (.invokevirtual 181, 3) := by decide +kernel
theorem dX7_wordsReviewed_35 : decode cX7_wordsReviewed 35 = .ok (.ifCond .eq 15, 3) := by decide +kernel
theorem dX7_wordsReviewed_38 : decode cX7_wordsReviewed 38 = .ok (.iload_n 2, 1) := by decide +kernel
theorem dX7_wordsReviewed_39 : decode cX7_wordsReviewed 39 = .ok (.aload_n 0, 1) := by decide +kernel
theorem dX7_wordsReviewed_40 : decode cX7_wordsReviewed 40 = .ok (.getfield 36, 3) := by decide +kernel
theorem dX7_wordsReviewed_43 : decode cX7_wordsReviewed 43 = .ok (.iload_n 3, 1) := by decide +kernel
theorem dX7_wordsReviewed_44 : decode cX7_wordsReviewed 44 = .ok (.aaload, 1) := by decide +kernel
theorem dX7_wordsReviewed_45 : decode cX7_wordsReviewed 45 = .ok (.invokevirtual 184, 3) := by decide +kernel
theorem dX7_wordsReviewed_48 : decode cX7_wordsReviewed 48 = .ok (.iadd, 1) := by decide +kernel
theorem dX7_wordsReviewed_49 : decode cX7_wordsReviewed 49 = .ok (.istore_n 2, 1) := by decide +kernel
theorem dX7_wordsReviewed_50 : decode cX7_wordsReviewed 50 = .ok (.iinc 3 1, 3) := by decide +kernel
theorem dX7_wordsReviewed_53 : decode cX7_wordsReviewed 53 = .ok (.goto (-49), 3) := by decide +kernel
theorem dX7_wordsReviewed_56 : decode cX7_wordsReviewed 56 = .ok (.iload_n 2, 1) := by decide +kernel
theorem dX7_wordsReviewed_57 : decode cX7_wordsReviewed 57 = .ok (.ireturn, 1) := by decide +kernel
theorem dX7_paidTo_0 : decode cX7_paidTo 0 = .ok (.iconst 2, 1) := by decide +kernel
theorem dX7_paidTo_1 : decode cX7_paidTo 1 = .ok (.aload_n 0, 1) := by decide +kernel
theorem dX7_paidTo_2 : decode cX7_paidTo 2 = .ok (.iload_n 1, 1) := by decide +kernel
theorem dX7_paidTo_3 : decode cX7_paidTo 3 = .ok (.invokevirtual 188, 3) := by decide +kernel
theorem dX7_paidTo_6 : decode cX7_paidTo 6 = .ok (.imul, 1) := by decide +kernel
theorem dX7_paidTo_7 : decode cX7_paidTo 7 = .ok (.istore_n 2, 1) := by decide +kernel
theorem dX7_paidTo_8 : decode cX7_paidTo 8 = .ok (.iconst 0, 1) := by decide +kernel
theorem dX7_paidTo_9 : decode cX7_paidTo 9 = .ok (.istore_n 3, 1) := by decide +kernel
theorem dX7_paidTo_10 : decode cX7_paidTo 10 = .ok (.iload_n 3, 1) := by decide +kernel
theorem dX7_paidTo_11 : decode cX7_paidTo 11 = .ok (.aload_n 0, 1) := by decide +kernel
theorem dX7_paidTo_12 : decode cX7_paidTo 12 = .ok (.getfield 43, 3) := by decide +kernel
theorem dX7_paidTo_15 : decode cX7_paidTo 15 = .ok (.if_icmp .ge 47, 3) := by decide +kernel
theorem dX7_paidTo_18 : decode cX7_paidTo 18 = .ok (.aload_n 0, 1) := by decide +kernel
theorem dX7_paidTo_19 : decode cX7_paidTo 19 = .ok (.getfield 36, 3) := by decide +kernel
theorem dX7_paidTo_22 : decode cX7_paidTo 22 = .ok (.iload_n 3, 1) := by decide +kernel
theorem dX7_paidTo_23 : decode cX7_paidTo 23 = .ok (.aaload, 1) := by decide +kernel
theorem dX7_paidTo_24 : decode cX7_paidTo 24 = .ok (.getfield 109, 3) := by decide +kernel
theorem dX7_paidTo_27 : decode cX7_paidTo 27 = .ok (.iconst 3, 1) := by decide +kernel
theorem dX7_paidTo_28 : decode cX7_paidTo 28 = .ok (.if_icmp .ne 28, 3) := by decide +kernel
theorem dX7_paidTo_31 : decode cX7_paidTo 31 = .ok (.aload_n 0, 1) := by decide +kernel
theorem dX7_paidTo_32 : decode cX7_paidTo 32 = .ok (.getfield 36, 3) := by decide +kernel
theorem dX7_paidTo_35 : decode cX7_paidTo 35 = .ok (.iload_n 3, 1) := by decide +kernel
theorem dX7_paidTo_36 : decode cX7_paidTo 36 = .ok (.aaload, 1) := by decide +kernel
theorem dX7_paidTo_37 : decode cX7_paidTo 37 = .ok (.iload_n 1, 1) := by decide +kernel
theorem dX7_paidTo_38 : decode cX7_paidTo 38 = .ok (.invokevirtual 178, 3) := by decide +kernel
theorem dX7_paidTo_41 : decode cX7_paidTo 41 = .ok (.ifCond .eq 15, 3) := by decide +kernel
theorem dX7_paidTo_44 : decode cX7_paidTo 44 = .ok (.iload_n 2, 1) := by decide +kernel
theorem dX7_paidTo_45 : decode cX7_paidTo 45 = .ok (.aload_n 0, 1) := by decide +kernel
theorem dX7_paidTo_46 : decode cX7_paidTo 46 = .ok (.getfield 36, 3) := by decide +kernel
theorem dX7_paidTo_49 : decode cX7_paidTo 49 = .ok (.iload_n 3, 1) := by decide +kernel
theorem dX7_paidTo_50 : decode cX7_paidTo 50 = .ok (.aaload, 1) := by decide +kernel
theorem dX7_paidTo_51 : decode cX7_paidTo 51 = .ok (.getfield 191, 3) := by decide +kernel
theorem dX7_paidTo_54 : decode cX7_paidTo 54 = .ok (.iadd, 1) := by decide +kernel
theorem dX7_paidTo_55 : decode cX7_paidTo 55 = .ok (.istore_n 2, 1) := by decide +kernel
theorem dX7_paidTo_56 : decode cX7_paidTo 56 = .ok (.iinc 3 1, 3) := by decide +kernel
theorem dX7_paidTo_59 : decode cX7_paidTo 59 = .ok (.goto (-49), 3) := by decide +kernel
theorem dX7_paidTo_62 : decode cX7_paidTo 62 = .ok (.iload_n 2, 1) := by decide +kernel
theorem dX7_paidTo_63 : decode cX7_paidTo 63 = .ok (.ireturn, 1) := by decide +kernel
theorem dX7_paidInAll_0 : decode cX7_paidInAll 0 = .ok (.iconst 0, 1) := by decide +kernel
theorem dX7_paidInAll_1 : decode cX7_paidInAll 1 = .ok (.istore_n 1, 1) := by decide +kernel
theorem dX7_paidInAll_2 : decode cX7_paidInAll 2 = .ok (.iconst 0, 1) := by decide +kernel
theorem dX7_paidInAll_3 : decode cX7_paidInAll 3 = .ok (.istore_n 2, 1) := by decide +kernel
theorem dX7_paidInAll_4 : decode cX7_paidInAll 4 = .ok (.iload_n 2, 1) := by decide +kernel
theorem dX7_paidInAll_5 : decode cX7_paidInAll 5 = .ok (.aload_n 0, 1) := by decide +kernel
theorem dX7_paidInAll_6 : decode cX7_paidInAll 6 = .ok (.getfield 43, 3) := by decide +kernel
theorem dX7_paidInAll_9 : decode cX7_paidInAll 9 = .ok (.if_icmp .ge 34, 3) := by decide +kernel
theorem dX7_paidInAll_12 : decode cX7_paidInAll 12 = .ok (.aload_n 0, 1) := by decide +kernel
theorem dX7_paidInAll_13 : decode cX7_paidInAll 13 = .ok (.getfield 36, 3) := by decide +kernel
theorem dX7_paidInAll_16 : decode cX7_paidInAll 16 = .ok (.iload_n 2, 1) := by decide +kernel
theorem dX7_paidInAll_17 : decode cX7_paidInAll 17 = .ok (.aaload, 1) := by decide +kernel
theorem dX7_paidInAll_18 : decode cX7_paidInAll 18 = .ok (.getfield 109, 3) := by decide +kernel
theorem dX7_paidInAll_21 : decode cX7_paidInAll 21 = .ok (.iconst 3, 1) := by decide +kernel
theorem dX7_paidInAll_22 : decode cX7_paidInAll 22 = .ok (.if_icmp .ne 15, 3) := by decide +kernel
theorem dX7_paidInAll_25 : decode cX7_paidInAll 25 = .ok (.iload_n 1, 1) := by decide +kernel
theorem dX7_paidInAll_26 : decode cX7_paidInAll 26 = .ok (.aload_n 0, 1) := by decide +kernel
theorem dX7_paidInAll_27 : decode cX7_paidInAll 27 = .ok (.getfield 36, 3) := by decide +kernel
theorem dX7_paidInAll_30 : decode cX7_paidInAll 30 = .ok (.iload_n 2, 1) := by decide +kernel
theorem dX7_paidInAll_31 : decode cX7_paidInAll 31 = .ok (.aaload, 1) := by decide +kernel
theorem dX7_paidInAll_32 : decode cX7_paidInAll 32 = .ok (.invokevirtual 194, 3) := by decide +kernel
theorem dX7_paidInAll_35 : decode cX7_paidInAll 35 = .ok (.iadd, 1) := by decide +kernel
theorem dX7_paidInAll_36 : decode cX7_paidInAll 36 = .ok (.istore_n 1, 1) := by decide +kernel
theorem dX7_paidInAll_37 : decode cX7_paidInAll 37 = .ok (.iinc 2 1, 3) := by decide +kernel
theorem dX7_paidInAll_40 : decode cX7_paidInAll 40 = .ok (.goto (-36), 3) := by decide +kernel
theorem dX7_paidInAll_43 : decode cX7_paidInAll 43 = .ok (.iload_n 1, 1) := by decide +kernel
theorem dX7_paidInAll_44 : decode cX7_paidInAll 44 = .ok (.ireturn, 1) := by decide +kernel
theorem dX7_countInHand_0 : decode cX7_countInHand 0 = .ok (.iconst 0, 1) := by decide +kernel
theorem dX7_countInHand_1 : decode cX7_countInHand 1 = .ok (.istore_n 1, 1) := by decide +kernel
theorem dX7_countInHand_2 : decode cX7_countInHand 2 = .ok (.iconst 0, 1) := by decide +kernel
theorem dX7_countInHand_3 : decode cX7_countInHand 3 = .ok (.istore_n 2, 1) := by decide +kernel
theorem dX7_countInHand_4 : decode cX7_countInHand 4 = .ok (.iload_n 2, 1) := by decide +kernel
theorem dX7_countInHand_5 : decode cX7_countInHand 5 = .ok (.aload_n 0, 1) := by decide +kernel
theorem dX7_countInHand_6 : decode cX7_countInHand 6 = .ok (.getfield 43, 3) := by decide +kernel
theorem dX7_countInHand_9 : decode cX7_countInHand 9 = .ok (.if_icmp .ge 24, 3) := by decide +kernel
theorem dX7_countInHand_12 : decode cX7_countInHand 12 = .ok (.aload_n 0, 1) := by decide +kernel
theorem dX7_countInHand_13 : decode cX7_countInHand 13 = .ok (.getfield 36, 3) := by decide +kernel
theorem dX7_countInHand_16 : decode cX7_countInHand 16 = .ok (.iload_n 2, 1) := by decide +kernel
theorem dX7_countInHand_17 : decode cX7_countInHand 17 = .ok (.aaload, 1) := by decide +kernel
theorem dX7_countInHand_18 : decode cX7_countInHand 18 = .ok (.invokevirtual 74, 3) := by decide +kernel
theorem dX7_countInHand_21 : decode cX7_countInHand 21 = .ok (.ifCond .eq 6, 3) := by decide +kernel
theorem dX7_countInHand_24 : decode cX7_countInHand 24 = .ok (.iinc 1 1, 3) := by decide +kernel
theorem dX7_countInHand_27 : decode cX7_countInHand 27 = .ok (.iinc 2 1, 3) := by decide +kernel
theorem dX7_countInHand_30 : decode cX7_countInHand 30 = .ok (.goto (-26), 3) := by decide +kernel
theorem dX7_countInHand_33 : decode cX7_countInHand 33 = .ok (.iload_n 1, 1) := by decide +kernel
theorem dX7_countInHand_34 : decode cX7_countInHand 34 = .ok (.ireturn, 1) := by decide +kernel
theorem dX7_wordsInHand_0 : decode cX7_wordsInHand 0 = .ok (.iconst 0, 1) := by decide +kernel
theorem dX7_wordsInHand_1 : decode cX7_wordsInHand 1 = .ok (.istore_n 1, 1) := by decide +kernel
theorem dX7_wordsInHand_2 : decode cX7_wordsInHand 2 = .ok (.iconst 0, 1) := by decide +kernel
theorem dX7_wordsInHand_3 : decode cX7_wordsInHand 3 = .ok (.istore_n 2, 1) := by decide +kernel
theorem dX7_wordsInHand_4 : decode cX7_wordsInHand 4 = .ok (.iload_n 2, 1) := by decide +kernel
theorem dX7_wordsInHand_5 : decode cX7_wordsInHand 5 = .ok (.aload_n 0, 1) := by decide +kernel
theorem dX7_wordsInHand_6 : decode cX7_wordsInHand 6 = .ok (.getfield 43, 3) := by decide +kernel
theorem dX7_wordsInHand_9 : decode cX7_wordsInHand 9 = .ok (.if_icmp .ge 33, 3) := by decide +kernel
theorem dX7_wordsInHand_12 : decode cX7_wordsInHand 12 = .ok (.aload_n 0, 1) := by decide +kernel
theorem dX7_wordsInHand_13 : decode cX7_wordsInHand 13 = .ok (.getfield 36, 3) := by decide +kernel
theorem dX7_wordsInHand_16 : decode cX7_wordsInHand 16 = .ok (.iload_n 2, 1) := by decide +kernel
theorem dX7_wordsInHand_17 : decode cX7_wordsInHand 17 = .ok (.aaload, 1) := by decide +kernel
theorem dX7_wordsInHand_18 : decode cX7_wordsInHand 18 = .ok (.invokevirtual 74, 3) := by decide +kernel
theorem dX7_wordsInHand_21 : decode cX7_wordsInHand 21 = .ok (.ifCond .eq 15, 3) := by decide +kernel
theorem dX7_wordsInHand_24 : decode cX7_wordsInHand 24 = .ok (.iload_n 1, 1) := by decide +kernel
theorem dX7_wordsInHand_25 : decode cX7_wordsInHand 25 = .ok (.aload_n 0, 1) := by decide +kernel
theorem dX7_wordsInHand_26 : decode cX7_wordsInHand 26 = .ok (.getfield 36, 3) := by decide +kernel
theorem dX7_wordsInHand_29 : decode cX7_wordsInHand 29 = .ok (.iload_n 2, 1) := by decide +kernel
theorem dX7_wordsInHand_30 : decode cX7_wordsInHand 30 = .ok (.aaload, 1) := by decide +kernel
theorem dX7_wordsInHand_31 : decode cX7_wordsInHand 31 = .ok (.invokevirtual 184, 3) := by decide +kernel
theorem dX7_wordsInHand_34 : decode cX7_wordsInHand 34 = .ok (.iadd, 1) := by decide +kernel
theorem dX7_wordsInHand_35 : decode cX7_wordsInHand 35 = .ok (.istore_n 1, 1) := by decide +kernel
theorem dX7_wordsInHand_36 : decode cX7_wordsInHand 36 = .ok (.iinc 2 1, 3) := by decide +kernel
theorem dX7_wordsInHand_39 : decode cX7_wordsInHand 39 = .ok (.goto (-35), 3) := by decide +kernel
theorem dX7_wordsInHand_42 : decode cX7_wordsInHand 42 = .ok (.iload_n 1, 1) := by decide +kernel
theorem dX7_wordsInHand_43 : decode cX7_wordsInHand 43 = .ok (.ireturn, 1) := by decide +kernel
theorem dX7_wordsDelivered_0 : decode cX7_wordsDelivered 0 = .ok (.iconst 0, 1) := by decide +kernel
theorem dX7_wordsDelivered_1 : decode cX7_wordsDelivered 1 = .ok (.istore_n 1, 1) := by decide +kernel
theorem dX7_wordsDelivered_2 : decode cX7_wordsDelivered 2 = .ok (.iconst 0, 1) := by decide +kernel
theorem dX7_wordsDelivered_3 : decode cX7_wordsDelivered 3 = .ok (.istore_n 2, 1) := by decide +kernel
theorem dX7_wordsDelivered_4 : decode cX7_wordsDelivered 4 = .ok (.iload_n 2, 1) := by decide +kernel
theorem dX7_wordsDelivered_5 : decode cX7_wordsDelivered 5 = .ok (.aload_n 0, 1) := by decide +kernel
theorem dX7_wordsDelivered_6 : decode cX7_wordsDelivered 6 = .ok (.getfield 43, 3) := by decide +kernel
theorem dX7_wordsDelivered_9 : decode cX7_wordsDelivered 9 = .ok (.if_icmp .ge 34, 3) := by decide +kernel
theorem dX7_wordsDelivered_12 : decode cX7_wordsDelivered 12 = .ok (.aload_n 0, 1) := by decide +kernel
theorem dX7_wordsDelivered_13 : decode cX7_wordsDelivered 13 = .ok (.getfield 36, 3) := by decide +kernel
theorem dX7_wordsDelivered_16 : decode cX7_wordsDelivered 16 = .ok (.iload_n 2, 1) := by decide +kernel
theorem dX7_wordsDelivered_17 : decode cX7_wordsDelivered 17 = .ok (.aaload, 1) := by decide +kernel
theorem dX7_wordsDelivered_18 : decode cX7_wordsDelivered 18 = .ok (.getfield 109, 3) := by decide +kernel
theorem dX7_wordsDelivered_21 : decode cX7_wordsDelivered 21 = .ok (.iconst 3, 1) := by decide +kernel
theorem dX7_wordsDelivered_22 : decode cX7_wordsDelivered 22 = .ok (.if_icmp .ne 15, 3) := by decide +kernel
theorem dX7_wordsDelivered_25 : decode cX7_wordsDelivered 25 = .ok (.iload_n 1, 1) := by decide +kernel
theorem dX7_wordsDelivered_26 : decode cX7_wordsDelivered 26 = .ok (.aload_n 0, 1) := by decide +kernel
theorem dX7_wordsDelivered_27 : decode cX7_wordsDelivered 27 = .ok (.getfield 36, 3) := by decide +kernel
theorem dX7_wordsDelivered_30 : decode cX7_wordsDelivered 30 = .ok (.iload_n 2, 1) := by decide +kernel
theorem dX7_wordsDelivered_31 : decode cX7_wordsDelivered 31 = .ok (.aaload, 1) := by decide +kernel
theorem dX7_wordsDelivered_32 : decode cX7_wordsDelivered 32 = .ok (.invokevirtual 184, 3) := by decide +kernel
theorem dX7_wordsDelivered_35 : decode cX7_wordsDelivered 35 = .ok (.iadd, 1) := by decide +kernel
theorem dX7_wordsDelivered_36 : decode cX7_wordsDelivered 36 = .ok (.istore_n 1, 1) := by decide +kernel
theorem dX7_wordsDelivered_37 : decode cX7_wordsDelivered 37 = .ok (.iinc 2 1, 3) := by decide +kernel
theorem dX7_wordsDelivered_40 : decode cX7_wordsDelivered 40 = .ok (.goto (-36), 3) := by decide +kernel
theorem dX7_wordsDelivered_43 : decode cX7_wordsDelivered 43 = .ok (.iload_n 1, 1) := by decide +kernel
theorem dX7_wordsDelivered_44 : decode cX7_wordsDelivered 44 = .ok (.ireturn, 1) := by decide +kernel
theorem dX7_countInHandWithoutTarget_0 : decode cX7_countInHandWithoutTarget 0 = .ok (.iconst 0, 1) := by decide +kernel
theorem dX7_countInHandWithoutTarget_1 : decode cX7_countInHandWithoutTarget 1 = .ok (.istore_n 1, 1) := by decide +kernel
theorem dX7_countInHandWithoutTarget_2 : decode cX7_countInHandWithoutTarget 2 = .ok (.iconst 0, 1) := by decide +kernel
theorem dX7_countInHandWithoutTarget_3 : decode cX7_countInHandWithoutTarget 3 = .ok (.istore_n 2, 1) := by decide +kernel
theorem dX7_countInHandWithoutTarget_4 : decode cX7_countInHandWithoutTarget 4 = .ok (.iload_n 2, 1) := by decide +kernel
theorem dX7_countInHandWithoutTarget_5 : decode cX7_countInHandWithoutTarget 5 = .ok (.aload_n 0, 1) := by decide +kernel
theorem dX7_countInHandWithoutTarget_6 : decode cX7_countInHandWithoutTarget 6 = .ok (.getfield 43, 3) := by decide +kernel
theorem dX7_countInHandWithoutTarget_9 : decode cX7_countInHandWithoutTarget 9 = .ok (.if_icmp .ge 33, 3) := by decide +kernel
theorem dX7_countInHandWithoutTarget_12 : decode cX7_countInHandWithoutTarget 12 = .ok (.aload_n 0, 1) := by decide +kernel
theorem dX7_countInHandWithoutTarget_13 : decode cX7_countInHandWithoutTarget 13 = .ok (.getfield 36, 3) := by decide +kernel
theorem dX7_countInHandWithoutTarget_16 : decode cX7_countInHandWithoutTarget 16 = .ok (.iload_n 2, 1) := by decide +kernel
theorem dX7_countInHandWithoutTarget_17 : decode cX7_countInHandWithoutTarget 17 = .ok (.aaload, 1) := by decide +kernel
theorem dX7_countInHandWithoutTarget_18 : decode cX7_countInHandWithoutTarget 18 = .ok (.invokevirtual 74, 3) := by decide +kernel
theorem dX7_countInHandWithoutTarget_21 : decode cX7_countInHandWithoutTarget 21 = .ok (.ifCond .eq 15, 3) := by decide +kernel
theorem dX7_countInHandWithoutTarget_24 : decode cX7_countInHandWithoutTarget 24 = .ok (.iload_n 1, 1) := by decide +kernel
theorem dX7_countInHandWithoutTarget_25 : decode cX7_countInHandWithoutTarget 25 = .ok (.aload_n 0, 1) := by decide +kernel
theorem dX7_countInHandWithoutTarget_26 : decode cX7_countInHandWithoutTarget 26 = .ok (.getfield 36, 3) := by decide +kernel
theorem dX7_countInHandWithoutTarget_29 : decode cX7_countInHandWithoutTarget 29 = .ok (.iload_n 2, 1) := by decide +kernel
theorem dX7_countInHandWithoutTarget_30 : decode cX7_countInHandWithoutTarget 30 = .ok (.aaload, 1) := by decide +kernel
theorem dX7_countInHandWithoutTarget_31 : decode cX7_countInHandWithoutTarget 31 = .ok (.invokevirtual 197, 3) := by decide +kernel
theorem dX7_countInHandWithoutTarget_34 : decode cX7_countInHandWithoutTarget 34 = .ok (.iadd, 1) := by decide +kernel
theorem dX7_countInHandWithoutTarget_35 : decode cX7_countInHandWithoutTarget 35 = .ok (.istore_n 1, 1) := by decide +kernel
theorem dX7_countInHandWithoutTarget_36 : decode cX7_countInHandWithoutTarget 36 = .ok (.iinc 2 1, 3) := by decide +kernel
theorem dX7_countInHandWithoutTarget_39 : decode cX7_countInHandWithoutTarget 39 = .ok (.goto (-35), 3) := by decide +kernel
theorem dX7_countInHandWithoutTarget_42 : decode cX7_countInHandWithoutTarget 42 = .ok (.iload_n 1, 1) := by decide +kernel
theorem dX7_countInHandWithoutTarget_43 : decode cX7_countInHandWithoutTarget 43 = .ok (.ireturn, 1) := by decide +kernel
theorem dX7_countInWay_0 : decode cX7_countInWay 0 = .ok (.iconst 0, 1) := by decide +kernel
theorem dX7_countInWay_1 : decode cX7_countInWay 1 = .ok (.istore_n 2, 1) := by decide +kernel
theorem dX7_countInWay_2 : decode cX7_countInWay 2 = .ok (.iconst 0, 1) := by decide +kernel
theorem dX7_countInWay_3 : decode cX7_countInWay 3 = .ok (.istore_n 3, 1) := by decide +kernel
theorem dX7_countInWay_4 : decode cX7_countInWay 4 = .ok (.iload_n 3, 1) := by decide +kernel
theorem dX7_countInWay_5 : decode cX7_countInWay 5 = .ok (.aload_n 0, 1) := by decide +kernel
theorem dX7_countInWay_6 : decode cX7_countInWay 6 = .ok (.getfield 43, 3) := by decide +kernel
theorem dX7_countInWay_9 : decode cX7_countInWay 9 = .ok (.if_icmp .ge 22, 3) := by decide +kernel
theorem dX7_countInWay_12 : decode cX7_countInWay 12 = .ok (.iload_n 2, 1) := by decide +kernel
theorem dX7_countInWay_13 : decode cX7_countInWay 13 = .ok (.aload_n 0, 1) := by decide +kernel
theorem dX7_countInWay_14 : decode cX7_countInWay 14 = .ok (.getfield 36, 3) := by decide +kernel
theorem dX7_countInWay_17 : decode cX7_countInWay 17 = .ok (.iload_n 3, 1) := by decide +kernel
theorem dX7_countInWay_18 : decode cX7_countInWay 18 = .ok (.aaload, 1) := by decide +kernel
theorem dX7_countInWay_19 : decode cX7_countInWay 19 = .ok (.iload_n 1, 1) := by decide +kernel
theorem dX7_countInWay_20 : decode cX7_countInWay 20 = .ok (.invokevirtual 200, 3) := by decide +kernel
theorem dX7_countInWay_23 : decode cX7_countInWay 23 = .ok (.iadd, 1) := by decide +kernel
theorem dX7_countInWay_24 : decode cX7_countInWay 24 = .ok (.istore_n 2, 1) := by decide +kernel
theorem dX7_countInWay_25 : decode cX7_countInWay 25 = .ok (.iinc 3 1, 3) := by decide +kernel
theorem dX7_countInWay_28 : decode cX7_countInWay 28 = .ok (.goto (-24), 3) := by decide +kernel
theorem dX7_countInWay_31 : decode cX7_countInWay 31 = .ok (.iload_n 2, 1) := by decide +kernel
theorem dX7_countInWay_32 : decode cX7_countInWay 32 = .ok (.ireturn, 1) := by decide +kernel
theorem dX7_countAlikeInHand_0 : decode cX7_countAlikeInHand 0 = .ok (.iconst 0, 1) := by decide +kernel
theorem dX7_countAlikeInHand_1 : decode cX7_countAlikeInHand 1 = .ok (.istore_n 2, 1) := by decide +kernel
theorem dX7_countAlikeInHand_2 : decode cX7_countAlikeInHand 2 = .ok (.iconst 0, 1) := by decide +kernel
theorem dX7_countAlikeInHand_3 : decode cX7_countAlikeInHand 3 = .ok (.istore_n 3, 1) := by decide +kernel
theorem dX7_countAlikeInHand_4 : decode cX7_countAlikeInHand 4 = .ok (.iload_n 3, 1) := by decide +kernel
theorem dX7_countAlikeInHand_5 : decode cX7_countAlikeInHand 5 = .ok (.aload_n 0, 1) := by decide +kernel
theorem dX7_countAlikeInHand_6 : decode cX7_countAlikeInHand 6 = .ok (.getfield 43, 3) := by decide +kernel
theorem dX7_countAlikeInHand_9 : decode cX7_countAlikeInHand 9 = .ok (.if_icmp .ge 34, 3) := by decide +kernel
theorem dX7_countAlikeInHand_12 : decode cX7_countAlikeInHand 12 = .ok (.aload_n 0, 1) := by decide +kernel
theorem dX7_countAlikeInHand_13 : decode cX7_countAlikeInHand 13 = .ok (.getfield 36, 3) := by decide +kernel
theorem dX7_countAlikeInHand_16 : decode cX7_countAlikeInHand 16 = .ok (.iload_n 3, 1) := by decide +kernel
theorem dX7_countAlikeInHand_17 : decode cX7_countAlikeInHand 17 = .ok (.aaload, 1) := by decide +kernel
theorem dX7_countAlikeInHand_18 : decode cX7_countAlikeInHand 18 = .ok (.invokevirtual 74, 3) := by decide +kernel
theorem dX7_countAlikeInHand_21 : decode cX7_countAlikeInHand 21 = .ok (.ifCond .eq 16, 3) := by decide +kernel
theorem dX7_countAlikeInHand_24 : decode cX7_countAlikeInHand 24 = .ok (.iload_n 2, 1) := by decide +kernel
theorem dX7_countAlikeInHand_25 : decode cX7_countAlikeInHand 25 = .ok (.aload_n 0, 1) := by decide +kernel
theorem dX7_countAlikeInHand_26 : decode cX7_countAlikeInHand 26 = .ok (.getfield 36, 3) := by decide +kernel
theorem dX7_countAlikeInHand_29 : decode cX7_countAlikeInHand 29 = .ok (.iload_n 3, 1) := by decide +kernel
theorem dX7_countAlikeInHand_30 : decode cX7_countAlikeInHand 30 = .ok (.aaload, 1) := by decide +kernel
theorem dX7_countAlikeInHand_31 : decode cX7_countAlikeInHand 31 = .ok (.aload_n 1, 1) := by decide +kernel
theorem dX7_countAlikeInHand_32 : decode cX7_countAlikeInHand 32 = .ok (.invokevirtual 203, 3) := by decide +kernel
theorem dX7_countAlikeInHand_35 : decode cX7_countAlikeInHand 35 = .ok (.iadd, 1) := by decide +kernel
theorem dX7_countAlikeInHand_36 : decode cX7_countAlikeInHand 36 = .ok (.istore_n 2, 1) := by decide +kernel
theorem dX7_countAlikeInHand_37 : decode cX7_countAlikeInHand 37 = .ok (.iinc 3 1, 3) := by decide +kernel
theorem dX7_countAlikeInHand_40 : decode cX7_countAlikeInHand 40 = .ok (.goto (-36), 3) := by decide +kernel
theorem dX7_countAlikeInHand_43 : decode cX7_countAlikeInHand 43 = .ok (.iload_n 2, 1) := by decide +kernel
theorem dX7_countAlikeInHand_44 : decode cX7_countAlikeInHand 44 = .ok (.ireturn, 1) := by decide +kernel
theorem dX7_copyFrom_0 : decode cX7_copyFrom 0 = .ok (.iconst 0, 1) := by decide +kernel
theorem dX7_copyFrom_1 : decode cX7_copyFrom 1 = .ok (.istore_n 2, 1) := by decide +kernel
theorem dX7_copyFrom_2 : decode cX7_copyFrom 2 = .ok (.iload_n 2, 1) := by decide +kernel
theorem dX7_copyFrom_3 : decode cX7_copyFrom 3 = .ok (.bipush 6, 2) := by decide +kernel
theorem dX7_copyFrom_5 : decode cX7_copyFrom 5 = .ok (.if_icmp .ge 21, 3) := by decide +kernel
theorem dX7_copyFrom_8 : decode cX7_copyFrom 8 = .ok (.aload_n 0, 1) := by decide +kernel
theorem dX7_copyFrom_9 : decode cX7_copyFrom 9 = .ok (.getfield 18, 3) := by decide +kernel
theorem dX7_copyFrom_12 : decode cX7_copyFrom 12 = .ok (.iload_n 2, 1) := by decide +kernel
theorem dX7_copyFrom_13 : decode cX7_copyFrom 13 = .ok (.aload_n 1, 1) := by decide +kernel
theorem dX7_copyFrom_14 : decode cX7_copyFrom 14 = .ok (.getfield 18, 3) := by decide +kernel
theorem dX7_copyFrom_17 : decode cX7_copyFrom 17 = .ok (.iload_n 2, 1) := by decide +kernel
theorem dX7_copyFrom_18 : decode cX7_copyFrom 18 = .ok (.iaload, 1) := by decide +kernel
theorem dX7_copyFrom_19 : decode cX7_copyFrom 19 = .ok (.iastore, 1) := by decide +kernel
theorem dX7_copyFrom_20 : decode cX7_copyFrom 20 = .ok (.iinc 2 1, 3) := by decide +kernel
theorem dX7_copyFrom_23 : decode cX7_copyFrom 23 = .ok (.goto (-21), 3) := by decide +kernel
theorem dX7_copyFrom_26 : decode cX7_copyFrom 26 = .ok (.aload_n 0, 1) := by decide +kernel
theorem dX7_copyFrom_27 : decode cX7_copyFrom 27 = .ok (.aload_n 1, 1) := by decide +kernel
theorem dX7_copyFrom_28 : decode cX7_copyFrom 28 = .ok (.getfield 30, 3) := by decide +kernel
theorem dX7_copyFrom_31 : decode cX7_copyFrom 31 = .ok (.putfield 30, 3) := by decide +kernel
theorem dX7_copyFrom_34 : decode cX7_copyFrom 34 = .ok (.iconst 0, 1) := by decide +kernel
theorem dX7_copyFrom_35 : decode cX7_copyFrom 35 = .ok (.istore_n 2, 1) := by decide +kernel
theorem dX7_copyFrom_36 : decode cX7_copyFrom 36 = .ok (.iload_n 2, 1) := by decide +kernel
theorem dX7_copyFrom_37 : decode cX7_copyFrom 37 = .ok (.aload_n 0, 1) := by decide +kernel
theorem dX7_copyFrom_38 : decode cX7_copyFrom 38 = .ok (.getfield 30, 3) := by decide +kernel
theorem dX7_copyFrom_41 : decode cX7_copyFrom 41 = .ok (.if_icmp .ge 24, 3) := by decide +kernel
theorem dX7_copyFrom_44 : decode cX7_copyFrom 44 = .ok (.aload_n 0, 1) := by decide +kernel
theorem dX7_copyFrom_45 : decode cX7_copyFrom 45 = .ok (.getfield 25, 3) := by decide +kernel
theorem dX7_copyFrom_48 : decode cX7_copyFrom 48 = .ok (.iload_n 2, 1) := by decide +kernel
theorem dX7_copyFrom_49 : decode cX7_copyFrom 49 = .ok (.aaload, 1) := by decide +kernel
theorem dX7_copyFrom_50 : decode cX7_copyFrom 50 = .ok (.aload_n 1, 1) := by decide +kernel
theorem dX7_copyFrom_51 : decode cX7_copyFrom 51 = .ok (.getfield 25, 3) := by decide +kernel
theorem dX7_copyFrom_54 : decode cX7_copyFrom 54 = .ok (.iload_n 2, 1) := by decide +kernel
theorem dX7_copyFrom_55 : decode cX7_copyFrom 55 = .ok (.aaload, 1) := by decide +kernel
theorem dX7_copyFrom_56 : decode cX7_copyFrom 56 = .ok (.invokevirtual 206, 3) := by decide +kernel
theorem dX7_copyFrom_59 : decode cX7_copyFrom 59 = .ok (.iinc 2 1, 3) := by decide +kernel
theorem dX7_copyFrom_62 : decode cX7_copyFrom 62 = .ok (.goto (-26), 3) := by decide +kernel
theorem dX7_copyFrom_65 : decode cX7_copyFrom 65 = .ok (.aload_n 0, 1) := by decide +kernel
theorem dX7_copyFrom_66 : decode cX7_copyFrom 66 = .ok (.aload_n 1, 1) := by decide +kernel
theorem dX7_copyFrom_67 : decode cX7_copyFrom 67 = .ok (.getfield 43, 3) := by decide +kernel
theorem dX7_copyFrom_70 : decode cX7_copyFrom 70 = .ok (.putfield 43, 3) := by decide +kernel
theorem dX7_copyFrom_73 : decode cX7_copyFrom 73 = .ok (.iconst 0, 1) := by decide +kernel
theorem dX7_copyFrom_74 : decode cX7_copyFrom 74 = .ok (.istore_n 2, 1) := by decide +kernel
theorem dX7_copyFrom_75 : decode cX7_copyFrom 75 = .ok (.iload_n 2, 1) := by decide +kernel
theorem dX7_copyFrom_76 : decode cX7_copyFrom 76 = .ok (.aload_n 0, 1) := by decide +kernel
theorem dX7_copyFrom_77 : decode cX7_copyFrom 77 = .ok (.getfield 43, 3) := by decide +kernel
theorem dX7_copyFrom_80 : decode cX7_copyFrom 80 = .ok (.if_icmp .ge 36, 3) := by decide +kernel
theorem dX7_copyFrom_83 : decode cX7_copyFrom 83 = .ok (.aload_n 0, 1) := by decide +kernel
theorem dX7_copyFrom_84 : decode cX7_copyFrom 84 = .ok (.getfield 36, 3) := by decide +kernel
theorem dX7_copyFrom_87 : decode cX7_copyFrom 87 = .ok (.iload_n 2, 1) := by decide +kernel
theorem dX7_copyFrom_88 : decode cX7_copyFrom 88 = .ok (.aaload, 1) := by decide +kernel
theorem dX7_copyFrom_89 : decode cX7_copyFrom 89 = .ok (.aload_n 1, 1) := by decide +kernel
theorem dX7_copyFrom_90 : decode cX7_copyFrom 90 = .ok (.getfield 36, 3) := by decide +kernel
theorem dX7_copyFrom_93 : decode cX7_copyFrom 93 = .ok (.iload_n 2, 1) := by decide +kernel
theorem dX7_copyFrom_94 : decode cX7_copyFrom 94 = .ok (.aaload, 1) := by decide +kernel
theorem dX7_copyFrom_95 : decode cX7_copyFrom 95 = .ok (.invokevirtual 210, 3) := by decide +kernel
theorem dX7_copyFrom_98 : decode cX7_copyFrom 98 = .ok (.aload_n 0, 1) := by decide +kernel
theorem dX7_copyFrom_99 : decode cX7_copyFrom 99 = .ok (.getfield 46, 3) := by decide +kernel
theorem dX7_copyFrom_102 : decode cX7_copyFrom 102 = .ok (.iload_n 2, 1) := by decide +kernel
theorem dX7_copyFrom_103 : decode cX7_copyFrom 103 = .ok (.aload_n 1, 1) := by decide +kernel
theorem dX7_copyFrom_104 : decode cX7_copyFrom 104 = .ok (.getfield 46, 3) := by decide +kernel
theorem dX7_copyFrom_107 : decode cX7_copyFrom 107 = .ok (.iload_n 2, 1) := by decide +kernel
theorem dX7_copyFrom_108 : decode cX7_copyFrom 108 = .ok (.iaload, 1) := by decide +kernel
theorem dX7_copyFrom_109 : decode cX7_copyFrom 109 = .ok (.iastore, 1) := by decide +kernel
theorem dX7_copyFrom_110 : decode cX7_copyFrom 110 = .ok (.iinc 2 1, 3) := by decide +kernel
theorem dX7_copyFrom_113 : decode cX7_copyFrom 113 = .ok (.goto (-38), 3) := by decide +kernel
theorem dX7_copyFrom_116 : decode cX7_copyFrom 116 = .ok (.aload_n 0, 1) := by decide +kernel
theorem dX7_copyFrom_117 : decode cX7_copyFrom 117 = .ok (.getfield 54, 3) := by decide +kernel
theorem dX7_copyFrom_120 : decode cX7_copyFrom 120 = .ok (.aload_n 1, 1) := by decide +kernel
theorem dX7_copyFrom_121 : decode cX7_copyFrom 121 = .ok (.getfield 54, 3) := by decide +kernel
theorem dX7_copyFrom_124 : decode cX7_copyFrom 124 = .ok (.invokevirtual 213, 3) := by decide +kernel
theorem dX7_copyFrom_127 : decode cX7_copyFrom 127 = .ok (.return_, 1) := by decide +kernel
theorem dX8_init_0 : decode cX8_init 0 = .ok (.aload_n 0, 1) := by decide +kernel
theorem dX8_init_1 : decode cX8_init 1 = .ok (.invokespecial 3, 3) := by decide +kernel
theorem dX8_init_4 : decode cX8_init 4 = .ok (.aload_n 0, 1) := by decide +kernel
theorem dX8_init_5 : decode cX8_init 5 = .ok (.bipush 60, 2) := by decide +kernel
theorem dX8_init_7 : decode cX8_init 7 = .ok (.newarray .char, 2) := by decide +kernel
theorem dX8_init_9 : decode cX8_init 9 = .ok (.putfield 9, 3) := by decide +kernel
theorem dX8_init_12 : decode cX8_init 12 = .ok (.aload_n 0, 1) := by decide +kernel
theorem dX8_init_13 : decode cX8_init 13 = .ok (.iconst 0, 1) := by decide +kernel
theorem dX8_init_14 : decode cX8_init 14 = .ok (.putfield 15, 3) := by decide +kernel
theorem dX8_init_17 : decode cX8_init 17 = .ok (.return_, 1) := by decide +kernel
theorem dX8_append_0 : decode cX8_append 0 = .ok (.aload_n 0, 1) := by decide +kernel
theorem dX8_append_1 : decode cX8_append 1 = .ok (.getfield 15, 3) := by decide +kernel
theorem dX8_append_4 : decode cX8_append 4 = .ok (.bipush 60, 2) := by decide +kernel
theorem dX8_append_6 : decode cX8_append 6 = .ok (.if_icmp .ge 23, 3) := by decide +kernel
theorem dX8_append_9 : decode cX8_append 9 = .ok (.aload_n 0, 1) := by decide +kernel
theorem dX8_append_10 : decode cX8_append 10 = .ok (.getfield 9, 3) := by decide +kernel
theorem dX8_append_13 : decode cX8_append 13 = .ok (.aload_n 0, 1) := by decide +kernel
theorem dX8_append_14 : decode cX8_append 14 = .ok (.getfield 15, 3) := by decide +kernel
theorem dX8_append_17 : decode cX8_append 17 = .ok (.iload_n 1, 1) := by decide +kernel
theorem dX8_append_18 : decode cX8_append 18 = .ok (.castore, 1) := by decide +kernel
theorem dX8_append_19 : decode cX8_append 19 = .ok (.aload_n 0, 1) := by decide +kernel
theorem dX8_append_20 : decode cX8_append 20 = .ok (.dup, 1) := by decide +kernel
theorem dX8_append_21 : decode cX8_append 21 = .ok (.getfield 15, 3) := by decide +kernel
theorem dX8_append_24 : decode cX8_append 24 = .ok (.iconst 1, 1) := by decide +kernel
theorem dX8_append_25 : decode cX8_append 25 = .ok (.iadd, 1) := by decide +kernel
theorem dX8_append_26 : decode cX8_append 26 = .ok (.putfield 15, 3) := by decide +kernel
theorem dX8_append_29 : decode cX8_append 29 = .ok (.return_, 1) := by decide +kernel
theorem dX8_fault_0 : decode cX8_fault 0 = .ok (.iconst 0, 1) := by decide +kernel
theorem dX8_fault_1 : decode cX8_fault 1 = .ok (.istore_n 1, 1) := by decide +kernel
theorem dX8_fault_2 : decode cX8_fault 2 = .ok (.iconst 1, 1) := by decide +kernel
theorem dX8_fault_3 : decode cX8_fault 3 = .ok (.istore_n 2, 1) := by decide +kernel
theorem dX8_fault_4 : decode cX8_fault 4 = .ok (.iconst 0, 1) := by decide +kernel
theorem dX8_fault_5 : decode cX8_fault 5 = .ok (.istore_n 3, 1) := by decide +kernel
theorem dX8_fault_6 : decode cX8_fault 6 = .ok (.iload_n 3, 1) := by decide +kernel
theorem dX8_fault_7 : decode cX8_fault 7 = .ok (.aload_n 0, 1) := by decide +kernel
theorem dX8_fault_8 : decode cX8_fault 8 = .ok (.getfield 15, 3) := by decide +kernel
theorem dX8_fault_11 : decode cX8_fault 11 = .ok (.if_icmp .ge 88, 3) := by decide +kernel
theorem dX8_fault_14 : decode cX8_fault 14 = .ok (.aload_n 0, 1) := by decide +kernel
theorem dX8_fault_15 : decode cX8_fault 15 = .ok (.getfield 9, 3) := by decide +kernel
theorem dX8_fault_18 : decode cX8_fault 18 = .ok (.iload_n 3, 1) := by decide +kernel
theorem dX8_fault_19 : decode cX8_fault 19 = .ok (.caload, 1) := by decide +kernel
theorem dX8_fault_20 : decode cX8_fault 20 = .ok (.istore 4, 2) := by decide +kernel
theorem dX8_fault_22 : decode cX8_fault 22 = .ok (.iload 4, 2) := by decide +kernel
theorem dX8_fault_24 : decode cX8_fault 24 = .ok (.bipush 97, 2) := by decide +kernel
theorem dX8_fault_26 : decode cX8_fault 26 = .ok (.if_icmp .lt 22, 3) := by decide +kernel
theorem dX8_fault_29 : decode cX8_fault 29 = .ok (.iload 4, 2) := by decide +kernel
theorem dX8_fault_31 : decode cX8_fault 31 = .ok (.bipush 122, 2) := by decide +kernel
theorem dX8_fault_33 : decode cX8_fault 33 = .ok (.if_icmp .gt 15, 3) := by decide +kernel
theorem dX8_fault_36 : decode cX8_fault 36 = .ok (.iload_n 1, 1) := by decide +kernel
theorem dX8_fault_37 : decode cX8_fault 37 = .ok (.bipush 8, 2) := by decide +kernel
theorem dX8_fault_39 : decode cX8_fault 39 = .ok (.if_icmp .ge 9, 3) := by decide +kernel
theorem dX8_fault_42 : decode cX8_fault 42 = .ok (.iinc 1 1, 3) := by decide +kernel
theorem dX8_fault_45 : decode cX8_fault 45 = .ok (.goto 48, 3) := by decide +kernel
theorem dX8_fault_48 : decode cX8_fault 48 = .ok (.iload 4, 2) := by decide +kernel
theorem dX8_fault_50 : decode cX8_fault 50 = .ok (.bipush 32, 2) := by decide +kernel
theorem dX8_fault_52 : decode cX8_fault 52 = .ok (.if_icmp .ne 21, 3) := by decide +kernel
theorem dX8_fault_55 : decode cX8_fault 55 = .ok (.iload_n 1, 1) := by decide +kernel
theorem dX8_fault_56 : decode cX8_fault 56 = .ok (.ifCond .le 17, 3) := by decide +kernel
theorem dX8_fault_59 : decode cX8_fault 59 = .ok (.iload_n 2, 1) := by decide +kernel
theorem dX8_fault_60 : decode cX8_fault 60 = .ok (.bipush 8, 2) := by decide +kernel
theorem dX8_fault_62 : decode cX8_fault 62 = .ok (.if_icmp .ge 11, 3) := by decide +kernel
theorem dX8_fault_65 : decode cX8_fault 65 = .ok (.iconst 0, 1) := by decide +kernel
theorem dX8_fault_66 : decode cX8_fault 66 = .ok (.istore_n 1, 1) := by decide +kernel
theorem dX8_fault_67 : decode cX8_fault 67 = .ok (.iinc 2 1, 3) := by decide +kernel
theorem dX8_fault_70 : decode cX8_fault 70 = .ok (.goto 23, 3) := by decide +kernel
theorem dX8_fault_73 : decode cX8_fault 73 = .ok (.iload 4, 2) := by decide +kernel
theorem dX8_fault_75 : decode cX8_fault 75 = .ok (.bipush 46, 2) := by decide +kernel
theorem dX8_fault_77 : decode cX8_fault 77 = .ok (.if_icmp .ne 14, 3) := by decide +kernel
theorem dX8_fault_80 : decode cX8_fault 80 = .ok (.iload_n 1, 1) := by decide +kernel
theorem dX8_fault_81 : decode cX8_fault 81 = .ok (.ifCond .le 10, 3) := by decide +kernel
theorem dX8_fault_84 : decode cX8_fault 84 = .ok (.iconst 0, 1) := by decide +kernel
theorem dX8_fault_85 : decode cX8_fault 85 = .ok (.istore_n 1, 1) := by decide +kernel
theorem dX8_fault_86 : decode cX8_fault 86 = .ok (.iconst 1, 1) := by decide +kernel
theorem dX8_fault_87 : decode cX8_fault 87 = .ok (.istore_n 2, 1) := by decide +kernel
theorem dX8_fault_88 : decode cX8_fault 88 = .ok (.goto 5, 3) := by decide +kernel
theorem dX8_fault_91 : decode cX8_fault 91 = .ok (.iload_n 3, 1) := by decide +kernel
theorem dX8_fault_92 : decode cX8_fault 92 = .ok (.ireturn, 1) := by decide +kernel
theorem dX8_fault_93 : decode cX8_fault 93 = .ok (.iinc 3 1, 3) := by decide +kernel
theorem dX8_fault_96 : decode cX8_fault 96 = .ok (.goto (-90), 3) := by decide +kernel
theorem dX8_fault_99 : decode cX8_fault 99 = .ok (.iload_n 1, 1) := by decide +kernel
theorem dX8_fault_100 : decode cX8_fault 100 = .ok (.ifCond .ne 10, 3) := by decide +kernel
theorem dX8_fault_103 : decode cX8_fault 103 = .ok (.aload_n 0, 1) := by decide +kernel
theorem dX8_fault_104 : decode cX8_fault 104 = .ok (.getfield 15, 3) := by decide +kernel
theorem dX8_fault_107 : decode cX8_fault 107 = .ok (.goto 4, 3) := by decide +kernel
theorem dX8_fault_110 : decode cX8_fault 110 = .ok (.iconst (-1), 1) := by decide +kernel
theorem dX8_fault_111 : decode cX8_fault 111 = .ok (.ireturn, 1) := by decide +kernel
theorem dX8_segmentCount_0 : decode cX8_segmentCount 0 = .ok (.iconst 1, 1) := by decide +kernel
theorem dX8_segmentCount_1 : decode cX8_segmentCount 1 = .ok (.istore_n 1, 1) := by decide +kernel
theorem dX8_segmentCount_2 : decode cX8_segmentCount 2 = .ok (.iconst 0, 1) := by decide +kernel
theorem dX8_segmentCount_3 : decode cX8_segmentCount 3 = .ok (.istore_n 2, 1) := by decide +kernel
theorem dX8_segmentCount_4 : decode cX8_segmentCount 4 = .ok (.iload_n 2, 1) := by decide +kernel
theorem dX8_segmentCount_5 : decode cX8_segmentCount 5 = .ok (.aload_n 0, 1) := by decide +kernel
theorem dX8_segmentCount_6 : decode cX8_segmentCount 6 = .ok (.getfield 15, 3) := by decide +kernel
theorem dX8_segmentCount_9 : decode cX8_segmentCount 9 = .ok (.if_icmp .ge 23, 3) := by decide +kernel
theorem dX8_segmentCount_12 : decode cX8_segmentCount 12 = .ok (.aload_n 0, 1) := by decide +kernel
theorem dX8_segmentCount_13 : decode cX8_segmentCount 13 = .ok (.getfield 9, 3) := by decide +kernel
theorem dX8_segmentCount_16 : decode cX8_segmentCount 16 = .ok (.iload_n 2, 1) := by decide +kernel
theorem dX8_segmentCount_17 : decode cX8_segmentCount 17 = .ok (.caload, 1) := by decide +kernel
theorem dX8_segmentCount_18 : decode cX8_segmentCount 18 = .ok (.bipush 46, 2) := by decide +kernel
theorem dX8_segmentCount_20 : decode cX8_segmentCount 20 = .ok (.if_icmp .ne 6, 3) := by decide +kernel
theorem dX8_segmentCount_23 : decode cX8_segmentCount 23 = .ok (.iinc 1 1, 3) := by decide +kernel
theorem dX8_segmentCount_26 : decode cX8_segmentCount 26 = .ok (.iinc 2 1, 3) := by decide +kernel
theorem dX8_segmentCount_29 : decode cX8_segmentCount 29 = .ok (.goto (-25), 3) := by decide +kernel
theorem dX8_segmentCount_32 : decode cX8_segmentCount 32 = .ok (.iload_n 1, 1) := by decide +kernel
theorem dX8_segmentCount_33 : decode cX8_segmentCount 33 = .ok (.ireturn, 1) := by decide +kernel
theorem dX8_appendSegmentsTo_0 : decode cX8_appendSegmentsTo 0 = .ok (.iconst 0, 1) := by decide +kernel
theorem dX8_appendSegmentsTo_1 : decode cX8_appendSegmentsTo 1 = .ok (.istore_n 2, 1) := by decide +kernel
theorem dX8_appendSegmentsTo_2 : decode cX8_appendSegmentsTo 2 = .ok (.iconst 0, 1) := by decide +kernel
theorem dX8_appendSegmentsTo_3 : decode cX8_appendSegmentsTo 3 = .ok (.istore_n 3, 1) := by decide +kernel
theorem dX8_appendSegmentsTo_4 : decode cX8_appendSegmentsTo 4 = .ok (.iload_n 3, 1) := by decide +kernel
theorem dX8_appendSegmentsTo_5 : decode cX8_appendSegmentsTo 5 = .ok (.aload_n 0, 1) := by decide +kernel
theorem dX8_appendSegmentsTo_6 : decode cX8_appendSegmentsTo 6 = .ok (.getfield 15, 3) := by decide +kernel
theorem dX8_appendSegmentsTo_9 : decode cX8_appendSegmentsTo 9 = .ok (.if_icmp .ge 34, 3) := by decide +kernel
theorem dX8_appendSegmentsTo_12 : decode cX8_appendSegmentsTo 12 = .ok (.aload_n 0, 1) := by decide +kernel
theorem dX8_appendSegmentsTo_13 : decode cX8_appendSegmentsTo 13 = .ok (.getfield 9, 3) := by decide +kernel
theorem dX8_appendSegmentsTo_16 : decode cX8_appendSegmentsTo 16 = .ok (.iload_n 3, 1) := by decide +kernel
theorem dX8_appendSegmentsTo_17 : decode cX8_appendSegmentsTo 17 = .ok (.caload, 1) := by decide +kernel
theorem dX8_appendSegmentsTo_18 : decode cX8_appendSegmentsTo 18 = .ok (.bipush 46, 2) := by decide +kernel
theorem dX8_appendSegmentsTo_20 : decode cX8_appendSegmentsTo 20 = .ok (.if_icmp .ne 17, 3) := by decide +kernel
theorem dX8_appendSegmentsTo_23 : decode cX8_appendSegmentsTo 23 = .ok (.aload_n 1, 1) := by decide +kernel
theorem dX8_appendSegmentsTo_24 : decode cX8_appendSegmentsTo 24 = .ok (.aload_n 0, 1) := by decide +kernel
theorem dX8_appendSegmentsTo_25 : decode cX8_appendSegmentsTo 25 = .ok (.iload_n 2, 1) := by decide +kernel
theorem dX8_appendSegmentsTo_26 : decode cX8_appendSegmentsTo 26 = .ok (.iload_n 3, 1) := by decide +kernel
theorem dX8_appendSegmentsTo_27 : decode cX8_appendSegmentsTo 27 = .ok (.invokevirtual 19, 3) := by decide +kernel
theorem dX8_appendSegmentsTo_30 : decode cX8_appendSegmentsTo 30 = .ok (.invokevirtual 23, 3) := by decide +kernel
theorem dX8_appendSegmentsTo_33 : decode cX8_appendSegmentsTo 33 = .ok (.iload_n 3, 1) := by decide +kernel
theorem dX8_appendSegmentsTo_34 : decode cX8_appendSegmentsTo 34 = .ok (.iconst 1, 1) := by decide +kernel
theorem dX8_appendSegmentsTo_35 : decode cX8_appendSegmentsTo 35 = .ok (.iadd, 1) := by decide +kernel
theorem dX8_appendSegmentsTo_36 : decode cX8_appendSegmentsTo 36 = .ok (.istore_n 2, 1) := by decide +kernel
theorem dX8_appendSegmentsTo_37 : decode cX8_appendSegmentsTo 37 = .ok (.iinc 3 1, 3) := by decide +kernel
theorem dX8_appendSegmentsTo_40 : decode cX8_appendSegmentsTo 40 = .ok (.goto (-36), 3) := by decide +kernel
theorem dX8_appendSegmentsTo_43 : decode cX8_appendSegmentsTo 43 = .ok (.aload_n 1, 1) := by decide +kernel
theorem dX8_appendSegmentsTo_44 : decode cX8_appendSegmentsTo 44 = .ok (.aload_n 0, 1) := by decide +kernel
theorem dX8_appendSegmentsTo_45 : decode cX8_appendSegmentsTo 45 = .ok (.iload_n 2, 1) := by decide +kernel
theorem dX8_appendSegmentsTo_46 : decode cX8_appendSegmentsTo 46 = .ok (.aload_n 0, 1) := by decide +kernel
theorem dX8_appendSegmentsTo_47 : decode cX8_appendSegmentsTo 47 = .ok (.getfield 15, 3) := by decide +kernel
theorem dX8_appendSegmentsTo_50 : decode cX8_appendSegmentsTo 50 = .ok (.invokevirtual 19, 3) := by decide +kernel
theorem dX8_appendSegmentsTo_53 : decode cX8_appendSegmentsTo 53 = .ok (.invokevirtual 23, 3) := by decide +kernel
theorem dX8_appendSegmentsTo_56 : decode cX8_appendSegmentsTo 56 = .ok (.return_, 1) := by decide +kernel
theorem dX8_wholeSegment_0 : decode cX8_wholeSegment 0 = .ok (.aload_n 0, 1) := by decide +kernel
theorem dX8_wholeSegment_1 : decode cX8_wholeSegment 1 = .ok (.iconst 0, 1) := by decide +kernel
theorem dX8_wholeSegment_2 : decode cX8_wholeSegment 2 = .ok (.aload_n 0, 1) := by decide +kernel
theorem dX8_wholeSegment_3 : decode cX8_wholeSegment 3 = .ok (.getfield 15, 3) := by decide +kernel
theorem dX8_wholeSegment_6 : decode cX8_wholeSegment 6 = .ok (.invokevirtual 19, 3) := by decide +kernel
theorem dX8_wholeSegment_9 : decode cX8_wholeSegment 9 = .ok (.areturn, 1) := by decide +kernel
theorem dX8_segmentBetween_0 : decode cX8_segmentBetween 0 = .ok (.iconst 0, 1) := by decide +kernel
theorem dX8_segmentBetween_1 : decode cX8_segmentBetween 1 = .ok (.iload_n 2, 1) := by decide +kernel
theorem dX8_segmentBetween_2 : decode cX8_segmentBetween 2 = .ok (.iload_n 1, 1) := by decide +kernel
theorem dX8_segmentBetween_3 : decode cX8_segmentBetween 3 = .ok (.isub, 1) := by decide +kernel
theorem dX8_segmentBetween_4 : decode cX8_segmentBetween 4 = .ok (.invokestatic 29, 3) := by decide +kernel
theorem dX8_segmentBetween_7 : decode cX8_segmentBetween 7 = .ok (.newarray .char, 2) := by decide +kernel
theorem dX8_segmentBetween_9 : decode cX8_segmentBetween 9 = .ok (.astore_n 3, 1) := by decide +kernel
theorem dX8_segmentBetween_10 : decode cX8_segmentBetween 10 = .ok (.iconst 0, 1) := by decide +kernel
theorem dX8_segmentBetween_11 : decode cX8_segmentBetween 11 = .ok (.istore 4, 2) := by decide +kernel
theorem dX8_segmentBetween_13 : decode cX8_segmentBetween 13 = .ok (.iload 4, 2) := by decide +kernel
theorem dX8_segmentBetween_15 : decode cX8_segmentBetween 15 = .ok (.aload_n 3, 1) := by decide +kernel
theorem dX8_segmentBetween_16 : decode cX8_segmentBetween 16 = .ok (.arraylength, 1) := by decide +kernel
theorem dX8_segmentBetween_17 : decode cX8_segmentBetween 17 = .ok (.if_icmp .ge 22, 3) := by decide +kernel
theorem dX8_segmentBetween_20 : decode cX8_segmentBetween 20 = .ok (.aload_n 3, 1) := by decide +kernel
theorem dX8_segmentBetween_21 : decode cX8_segmentBetween 21 = .ok (.iload 4, 2) := by decide +kernel
theorem dX8_segmentBetween_23 : decode cX8_segmentBetween 23 = .ok (.aload_n 0, 1) := by decide +kernel
theorem dX8_segmentBetween_24 : decode cX8_segmentBetween 24 = .ok (.getfield 9, 3) := by decide +kernel
theorem dX8_segmentBetween_27 : decode cX8_segmentBetween 27 = .ok (.iload_n 1, 1) := by decide +kernel
theorem dX8_segmentBetween_28 : decode cX8_segmentBetween 28 = .ok (.iload 4, 2) := by decide +kernel
theorem dX8_segmentBetween_30 : decode cX8_segmentBetween 30 = .ok (.iadd, 1) := by decide +kernel
theorem dX8_segmentBetween_31 : decode cX8_segmentBetween 31 = .ok (.caload, 1) := by decide +kernel
theorem dX8_segmentBetween_32 : decode cX8_segmentBetween 32 = .ok (.castore, 1) := by decide +kernel
theorem dX8_segmentBetween_33 : decode cX8_segmentBetween 33 = .ok (.iinc 4 1, 3) := by decide +kernel
theorem dX8_segmentBetween_36 : decode cX8_segmentBetween 36 = .ok (.goto (-23), 3) := by decide +kernel
theorem dX8_segmentBetween_39 : decode cX8_segmentBetween 39 = .ok (.new 35, 3) := by decide +kernel
theorem dX8_segmentBetween_42 : decode cX8_segmentBetween 42 = .ok (.dup, 1) := by decide +kernel
theorem dX8_segmentBetween_43 : decode cX8_segmentBetween 43 = .ok (.aload_n 3, 1) := by decide +kernel
theorem dX8_segmentBetween_44 : decode cX8_segmentBetween 44 = .ok (.invokespecial 37, 3) := by decide +kernel
theorem dX8_segmentBetween_47 : decode cX8_segmentBetween 47 = .ok (.areturn, 1) := by decide +kernel
theorem dX9_init_0 : decode cX9_init 0 = .ok (.aload_n 0, 1) := by decide +kernel
theorem dX9_init_1 : decode cX9_init 1 = .ok (.invokespecial 3, 3) := by decide +kernel
theorem dX9_init_4 : decode cX9_init 4 = .ok (.aload_n 0, 1) := by decide +kernel
theorem dX9_init_5 : decode cX9_init 5 = .ok (.bipush 12, 2) := by decide +kernel
theorem dX9_init_7 : decode cX9_init 7 = .ok (.anewarray 9, 3) := by decide +kernel
theorem dX9_init_10 : decode cX9_init 10 = .ok (.putfield 11, 3) := by decide +kernel
theorem dX9_init_13 : decode cX9_init 13 = .ok (.iconst 0, 1) := by decide +kernel
theorem dX9_init_14 : decode cX9_init 14 = .ok (.istore_n 2, 1) := by decide +kernel
theorem dX9_init_15 : decode cX9_init 15 = .ok (.iload_n 2, 1) := by decide +kernel
theorem dX9_init_16 : decode cX9_init 16 = .ok (.bipush 12, 2) := by decide +kernel
theorem dX9_init_18 : decode cX9_init 18 = .ok (.if_icmp .ge 16, 3) := by decide +kernel
theorem dX9_init_21 : decode cX9_init 21 = .ok (.aload_n 0, 1) := by decide +kernel
theorem dX9_init_22 : decode cX9_init 22 = .ok (.getfield 11, 3) := by decide +kernel
theorem dX9_init_25 : decode cX9_init 25 = .ok (.iload_n 2, 1) := by decide +kernel
theorem dX9_init_26 : decode cX9_init 26 = .ok (.aload_n 1, 1) := by decide +kernel
theorem dX9_init_27 : decode cX9_init 27 = .ok (.aastore, 1) := by decide +kernel
theorem dX9_init_28 : decode cX9_init 28 = .ok (.iinc 2 1, 3) := by decide +kernel
theorem dX9_init_31 : decode cX9_init 31 = .ok (.goto (-16), 3) := by decide +kernel
theorem dX9_init_34 : decode cX9_init 34 = .ok (.aload_n 0, 1) := by decide +kernel
theorem dX9_init_35 : decode cX9_init 35 = .ok (.bipush 12, 2) := by decide +kernel
theorem dX9_init_37 : decode cX9_init 37 = .ok (.newarray .int, 2) := by decide +kernel
theorem dX9_init_39 : decode cX9_init 39 = .ok (.putfield 17, 3) := by decide +kernel
theorem dX9_init_42 : decode cX9_init 42 = .ok (.aload_n 0, 1) := by decide +kernel
theorem dX9_init_43 : decode cX9_init 43 = .ok (.bipush 12, 2) := by decide +kernel
theorem dX9_init_45 : decode cX9_init 45 = .ok (.newarray .int, 2) := by decide +kernel
theorem dX9_init_47 : decode cX9_init 47 = .ok (.putfield 21, 3) := by decide +kernel
theorem dX9_init_50 : decode cX9_init 50 = .ok (.aload_n 0, 1) := by decide +kernel
theorem dX9_init_51 : decode cX9_init 51 = .ok (.invokevirtual 24, 3) := by decide +kernel
theorem dX9_init_54 : decode cX9_init 54 = .ok (.return_, 1) := by decide +kernel
theorem dX9_reset_0 : decode cX9_reset 0 = .ok (.aload_n 0, 1) := by decide +kernel
theorem dX9_reset_1 : decode cX9_reset 1 = .ok (.iconst 0, 1) := by decide +kernel
theorem dX9_reset_2 : decode cX9_reset 2 = .ok (.putfield 27, 3) := by decide +kernel
theorem dX9_reset_5 : decode cX9_reset 5 = .ok (.aload_n 0, 1) := by decide +kernel
theorem dX9_reset_6 : decode cX9_reset 6 = .ok (.bipush (-5), 2) := by decide +kernel
theorem dX9_reset_8 : decode cX9_reset 8 = .ok (.putfield 31, 3) := by decide +kernel
theorem dX9_reset_11 : decode cX9_reset 11 = .ok (.aload_n 0, 1) := by decide +kernel
theorem dX9_reset_12 : decode cX9_reset 12 = .ok (.bipush (-5), 2) := by decide +kernel
theorem dX9_reset_14 : decode cX9_reset 14 = .ok (.putfield 34, 3) := by decide +kernel
theorem dX9_reset_17 : decode cX9_reset 17 = .ok (.aload_n 0, 1) := by decide +kernel
theorem dX9_reset_18 : decode cX9_reset 18 = .ok (.bipush (-5), 2) := by decide +kernel
theorem dX9_reset_20 : decode cX9_reset 20 = .ok (.putfield 37, 3) := by decide +kernel
theorem dX9_reset_23 : decode cX9_reset 23 = .ok (.aload_n 0, 1) := by decide +kernel
theorem dX9_reset_24 : decode cX9_reset 24 = .ok (.iconst 0, 1) := by decide +kernel
theorem dX9_reset_25 : decode cX9_reset 25 = .ok (.putfield 40, 3) := by decide +kernel
theorem dX9_reset_28 : decode cX9_reset 28 = .ok (.aload_n 0, 1) := by decide +kernel
theorem dX9_reset_29 : decode cX9_reset 29 = .ok (.iconst 0, 1) := by decide +kernel
theorem dX9_reset_30 : decode cX9_reset 30 = .ok (.putfield 43, 3) := by decide +kernel
theorem dX9_reset_33 : decode cX9_reset 33 = .ok (.return_, 1) := by decide +kernel
theorem dX9_append_0 : decode cX9_append 0 = .ok (.aload_n 0, 1) := by decide +kernel
theorem dX9_append_1 : decode cX9_append 1 = .ok (.getfield 43, 3) := by decide +kernel
theorem dX9_append_4 : decode cX9_append 4 = .ok (.bipush 12, 2) := by decide +kernel
theorem dX9_append_6 : decode cX9_append 6 = .ok (.if_icmp .ge 33, 3) := by decide +kernel
theorem dX9_append_9 : decode cX9_append 9 = .ok (.aload_n 0, 1) := by decide +kernel
theorem dX9_append_10 : decode cX9_append 10 = .ok (.getfield 11, 3) := by decide +kernel
theorem dX9_append_13 : decode cX9_append 13 = .ok (.aload_n 0, 1) := by decide +kernel
theorem dX9_append_14 : decode cX9_append 14 = .ok (.getfield 43, 3) := by decide +kernel
theorem dX9_append_17 : decode cX9_append 17 = .ok (.aload_n 1, 1) := by decide +kernel
theorem dX9_append_18 : decode cX9_append 18 = .ok (.aastore, 1) := by decide +kernel
theorem dX9_append_19 : decode cX9_append 19 = .ok (.aload_n 0, 1) := by decide +kernel
theorem dX9_append_20 : decode cX9_append 20 = .ok (.aload_n 0, 1) := by decide +kernel
theorem dX9_append_21 : decode cX9_append 21 = .ok (.getfield 43, 3) := by decide +kernel
theorem dX9_append_24 : decode cX9_append 24 = .ok (.iconst 0, 1) := by decide +kernel
theorem dX9_append_25 : decode cX9_append 25 = .ok (.iconst 0, 1) := by decide +kernel
theorem dX9_append_26 : decode cX9_append 26 = .ok (.invokevirtual 46, 3) := by decide +kernel
theorem dX9_append_29 : decode cX9_append 29 = .ok (.aload_n 0, 1) := by decide +kernel
theorem dX9_append_30 : decode cX9_append 30 = .ok (.dup, 1) := by decide +kernel
theorem dX9_append_31 : decode cX9_append 31 = .ok (.getfield 43, 3) := by decide +kernel
theorem dX9_append_34 : decode cX9_append 34 = .ok (.iconst 1, 1) := by decide +kernel
theorem dX9_append_35 : decode cX9_append 35 = .ok (.iadd, 1) := by decide +kernel
theorem dX9_append_36 : decode cX9_append 36 = .ok (.putfield 43, 3) := by decide +kernel
theorem dX9_append_39 : decode cX9_append 39 = .ok (.return_, 1) := by decide +kernel
theorem dX9_putTarget_0 : decode cX9_putTarget 0 = .ok (.aload_n 0, 1) := by decide +kernel
theorem dX9_putTarget_1 : decode cX9_putTarget 1 = .ok (.getfield 17, 3) := by decide +kernel
theorem dX9_putTarget_4 : decode cX9_putTarget 4 = .ok (.iload_n 1, 1) := by decide +kernel
theorem dX9_putTarget_5 : decode cX9_putTarget 5 = .ok (.iload_n 2, 1) := by decide +kernel
theorem dX9_putTarget_6 : decode cX9_putTarget 6 = .ok (.iastore, 1) := by decide +kernel
theorem dX9_putTarget_7 : decode cX9_putTarget 7 = .ok (.aload_n 0, 1) := by decide +kernel
theorem dX9_putTarget_8 : decode cX9_putTarget 8 = .ok (.getfield 21, 3) := by decide +kernel
theorem dX9_putTarget_11 : decode cX9_putTarget 11 = .ok (.iload_n 1, 1) := by decide +kernel
theorem dX9_putTarget_12 : decode cX9_putTarget 12 = .ok (.iload_n 3, 1) := by decide +kernel
theorem dX9_putTarget_13 : decode cX9_putTarget 13 = .ok (.iastore, 1) := by decide +kernel
theorem dX9_putTarget_14 : decode cX9_putTarget 14 = .ok (.return_, 1) := by decide +kernel
theorem dX9_isInHand_0 : decode cX9_isInHand 0 = .ok (.aload_n 0, 1) := by decide +kernel
theorem dX9_isInHand_1 : decode cX9_isInHand 1 = .ok (.getfield 27, 3) := by decide +kernel
theorem dX9_isInHand_4 : decode cX9_isInHand 4 = .ok (.ifCond .eq 19, 3) := by decide +kernel
theorem dX9_isInHand_7 : decode cX9_isInHand 7 = .ok (.aload_n 0, 1) := by decide +kernel
theorem dX9_isInHand_8 : decode cX9_isInHand 8 = .ok (.getfield 27, 3) := by decide +kernel
theorem dX9_isInHand_11 : decode cX9_isInHand 11 = .ok (.iconst 1, 1) := by decide +kernel
theorem dX9_isInHand_12 : decode cX9_isInHand 12 = .ok (.if_icmp .eq 11, 3) := by decide +kernel
theorem dX9_isInHand_15 : decode cX9_isInHand 15 = .ok (.aload_n 0, 1) := by decide +kernel
theorem dX9_isInHand_16 : decode cX9_isInHand 16 = .ok (.getfield 27, 3) := by decide +kernel
theorem dX9_isInHand_19 : decode cX9_isInHand 19 = .ok (.iconst 2, 1) := by decide +kernel
theorem dX9_isInHand_20 : decode cX9_isInHand 20 = .ok (.if_icmp .ne 7, 3) := by decide +kernel
theorem dX9_isInHand_23 : decode cX9_isInHand 23 = .ok (.iconst 1, 1) := by decide +kernel
theorem dX9_isInHand_24 : decode cX9_isInHand 24 = .ok (.goto 4, 3) := by decide +kernel
theorem dX9_isInHand_27 : decode cX9_isInHand 27 = .ok (.iconst 0, 1) := by decide +kernel
theorem dX9_isInHand_28 : decode cX9_isInHand 28 = .ok (.ireturn, 1) := by decide +kernel
theorem dX9_isTranslatedBy_0 : decode cX9_isTranslatedBy 0 = .ok (.aload_n 0, 1) := by decide +kernel
theorem dX9_isTranslatedBy_1 : decode cX9_isTranslatedBy 1 = .ok (.getfield 31, 3) := by decide +kernel
theorem dX9_isTranslatedBy_4 : decode cX9_isTranslatedBy 4 = .ok (.iload_n 1, 1) := by decide +kernel
theorem dX9_isTranslatedBy_5 : decode cX9_isTranslatedBy 5 = .ok (.if_icmp .ne 7, 3) := by decide +kernel
theorem dX9_isTranslatedBy_8 : decode cX9_isTranslatedBy 8 = .ok (.iconst 1, 1) := by decide +kernel
theorem dX9_isTranslatedBy_9 : decode cX9_isTranslatedBy 9 = .ok (.goto 4, 3) := by decide +kernel
theorem dX9_isTranslatedBy_12 : decode cX9_isTranslatedBy 12 = .ok (.iconst 0, 1) := by decide +kernel
theorem dX9_isTranslatedBy_13 : decode cX9_isTranslatedBy 13 = .ok (.ireturn, 1) := by decide +kernel
theorem dX9_isReviewedBy_0 : decode cX9_isReviewedBy 0 = .ok (.aload_n 0, 1) := by decide +kernel
theorem dX9_isReviewedBy_1 : decode cX9_isReviewedBy 1 = .ok (.getfield 34, 3) := by decide +kernel
theorem dX9_isReviewedBy_4 : decode cX9_isReviewedBy 4 = .ok (.iload_n 1, 1) := by decide +kernel
theorem dX9_isReviewedBy_5 : decode cX9_isReviewedBy 5 = .ok (.if_icmp .ne 7, 3) := by decide +kernel
theorem dX9_isReviewedBy_8 : decode cX9_isReviewedBy 8 = .ok (.iconst 1, 1) := by decide +kernel
theorem dX9_isReviewedBy_9 : decode cX9_isReviewedBy 9 = .ok (.goto 4, 3) := by decide +kernel
theorem dX9_isReviewedBy_12 : decode cX9_isReviewedBy 12 = .ok (.iconst 0, 1) := by decide +kernel
theorem dX9_isReviewedBy_13 : decode cX9_isReviewedBy 13 = .ok (.ireturn, 1) := by decide +kernel
theorem dX9_countWords_0 : decode cX9_countWords 0 = .ok (.iconst 0, 1) := by decide +kernel
theorem dX9_countWords_1 : decode cX9_countWords 1 = .ok (.istore_n 1, 1) := by decide +kernel
theorem dX9_countWords_2 : decode cX9_countWords 2 = .ok (.iconst 0, 1) := by decide +kernel
theorem dX9_countWords_3 : decode cX9_countWords 3 = .ok (.istore_n 2, 1) := by decide +kernel
theorem dX9_countWords_4 : decode cX9_countWords 4 = .ok (.iload_n 2, 1) := by decide +kernel
theorem dX9_countWords_5 : decode cX9_countWords 5 = .ok (.aload_n 0, 1) := by decide +kernel
theorem dX9_countWords_6 : decode cX9_countWords 6 = .ok (.getfield 43, 3) := by decide +kernel
theorem dX9_countWords_9 : decode cX9_countWords 9 = .ok (.if_icmp .ge 21, 3) := by decide +kernel
theorem dX9_countWords_12 : decode cX9_countWords 12 = .ok (.iload_n 1, 1) := by decide +kernel
theorem dX9_countWords_13 : decode cX9_countWords 13 = .ok (.aload_n 0, 1) := by decide +kernel
theorem dX9_countWords_14 : decode cX9_countWords 14 = .ok (.getfield 11, 3) := by decide +kernel
theorem dX9_countWords_17 : decode cX9_countWords 17 = .ok (.iload_n 2, 1) := by decide +kernel
theorem dX9_countWords_18 : decode cX9_countWords 18 = .ok (.aaload, 1) := by decide +kernel
theorem dX9_countWords_19 : decode cX9_countWords 19 = .ok (.getfield 50, 3) := by decide +kernel
theorem dX9_countWords_22 : decode cX9_countWords 22 = .ok (.iadd, 1) := by decide +kernel
theorem dX9_countWords_23 : decode cX9_countWords 23 = .ok (.istore_n 1, 1) := by decide +kernel
theorem dX9_countWords_24 : decode cX9_countWords 24 = .ok (.iinc 2 1, 3) := by decide +kernel
theorem dX9_countWords_27 : decode cX9_countWords 27 = .ok (.goto (-23), 3) := by decide +kernel
theorem dX9_countWords_30 : decode cX9_countWords 30 = .ok (.iload_n 1, 1) := by decide +kernel
theorem dX9_countWords_31 : decode cX9_countWords 31 = .ok (.ireturn, 1) := by decide +kernel
theorem dX9_countWithoutTarget_0 : decode cX9_countWithoutTarget 0 = .ok (.aload_n 0, 1) := by decide +kernel
theorem dX9_countWithoutTarget_1 : decode cX9_countWithoutTarget 1 = .ok (.iconst 0, 1) := by decide +kernel
theorem dX9_countWithoutTarget_2 : decode cX9_countWithoutTarget 2 = .ok (.invokevirtual 53, 3) := by decide +kernel
theorem dX9_countWithoutTarget_5 : decode cX9_countWithoutTarget 5 = .ok (.ireturn, 1) := by decide +kernel
theorem dX9_countInWay_0 : decode cX9_countInWay 0 = .ok (.iconst 0, 1) := by decide +kernel
theorem dX9_countInWay_1 : decode cX9_countInWay 1 = .ok (.istore_n 2, 1) := by decide +kernel
theorem dX9_countInWay_2 : decode cX9_countInWay 2 = .ok (.iconst 0, 1) := by decide +kernel
theorem dX9_countInWay_3 : decode cX9_countInWay 3 = .ok (.istore_n 3, 1) := by decide +kernel
theorem dX9_countInWay_4 : decode cX9_countInWay 4 = .ok (.iload_n 3, 1) := by decide +kernel
theorem dX9_countInWay_5 : decode cX9_countInWay 5 = .ok (.aload_n 0, 1) := by decide +kernel
theorem dX9_countInWay_6 : decode cX9_countInWay 6 = .ok (.getfield 43, 3) := by decide +kernel
theorem dX9_countInWay_9 : decode cX9_countInWay 9 = .ok (.if_icmp .ge 22, 3) := by decide +kernel
theorem dX9_countInWay_12 : decode cX9_countInWay 12 = .ok (.aload_n 0, 1) := by decide +kernel
theorem dX9_countInWay_13 : decode cX9_countInWay 13 = .ok (.getfield 21, 3) := by decide +kernel
theorem dX9_countInWay_16 : decode cX9_countInWay 16 = .ok (.iload_n 3, 1) := by decide +kernel
theorem dX9_countInWay_17 : decode cX9_countInWay 17 = .ok (.iaload, 1) := by decide +kernel
theorem dX9_countInWay_18 : decode cX9_countInWay 18 = .ok (.iload_n 1, 1) := by decide +kernel
theorem dX9_countInWay_19 : decode cX9_countInWay 19 = .ok (.if_icmp .ne 6, 3) := by decide +kernel
theorem dX9_countInWay_22 : decode cX9_countInWay 22 = .ok (.iinc 2 1, 3) := by decide +kernel
theorem dX9_countInWay_25 : decode cX9_countInWay 25 = .ok (.iinc 3 1, 3) := by decide +kernel
theorem dX9_countInWay_28 : decode cX9_countInWay 28 = .ok (.goto (-24), 3) := by decide +kernel
theorem dX9_countInWay_31 : decode cX9_countInWay 31 = .ok (.iload_n 2, 1) := by decide +kernel
theorem dX9_countInWay_32 : decode cX9_countInWay 32 = .ok (.ireturn, 1) := by decide +kernel
theorem dX9_countAlike_0 : decode cX9_countAlike 0 = .ok (.iconst 0, 1) := by decide +kernel
theorem dX9_countAlike_1 : decode cX9_countAlike 1 = .ok (.istore_n 2, 1) := by decide +kernel
theorem dX9_countAlike_2 : decode cX9_countAlike 2 = .ok (.iconst 0, 1) := by decide +kernel
theorem dX9_countAlike_3 : decode cX9_countAlike 3 = .ok (.istore_n 3, 1) := by decide +kernel
theorem dX9_countAlike_4 : decode cX9_countAlike 4 = .ok (.iload_n 3, 1) := by decide +kernel
theorem dX9_countAlike_5 : decode cX9_countAlike 5 = .ok (.aload_n 0, 1) := by decide +kernel
theorem dX9_countAlike_6 : decode cX9_countAlike 6 = .ok (.getfield 43, 3) := by decide +kernel
theorem dX9_countAlike_9 : decode cX9_countAlike 9 = .ok (.if_icmp .ge 25, 3) := by decide +kernel
theorem dX9_countAlike_12 : decode cX9_countAlike 12 = .ok (.aload_n 0, 1) := by decide +kernel
theorem dX9_countAlike_13 : decode cX9_countAlike 13 = .ok (.getfield 11, 3) := by decide +kernel
theorem dX9_countAlike_16 : decode cX9_countAlike 16 = .ok (.iload_n 3, 1) := by decide +kernel
theorem dX9_countAlike_17 : decode cX9_countAlike 17 = .ok (.aaload, 1) := by decide +kernel
theorem dX9_countAlike_18 : decode cX9_countAlike 18 = .ok (.aload_n 1, 1) := by decide +kernel
theorem dX9_countAlike_19 : decode cX9_countAlike 19 = .ok (.invokevirtual 57, 3) := by decide +kernel
theorem dX9_countAlike_22 : decode cX9_countAlike 22 = .ok (.ifCond .eq 6, 3) := by decide +kernel
theorem dX9_countAlike_25 : decode cX9_countAlike 25 = .ok (.iinc 2 1, 3) := by decide +kernel
theorem dX9_countAlike_28 : decode cX9_countAlike 28 = .ok (.iinc 3 1, 3) := by decide +kernel
theorem dX9_countAlike_31 : decode cX9_countAlike 31 = .ok (.goto (-27), 3) := by decide +kernel
theorem dX9_countAlike_34 : decode cX9_countAlike 34 = .ok (.iload_n 2, 1) := by decide +kernel
theorem dX9_countAlike_35 : decode cX9_countAlike 35 = .ok (.ireturn, 1) := by decide +kernel
theorem dX9_lastAlike_0 : decode cX9_lastAlike 0 = .ok (.iload_n 2, 1) := by decide +kernel
theorem dX9_lastAlike_1 : decode cX9_lastAlike 1 = .ok (.aload_n 0, 1) := by decide +kernel
theorem dX9_lastAlike_2 : decode cX9_lastAlike 2 = .ok (.getfield 43, 3) := by decide +kernel
theorem dX9_lastAlike_5 : decode cX9_lastAlike 5 = .ok (.invokestatic 61, 3) := by decide +kernel
theorem dX9_lastAlike_8 : decode cX9_lastAlike 8 = .ok (.iconst 1, 1) := by decide +kernel
theorem dX9_lastAlike_9 : decode cX9_lastAlike 9 = .ok (.isub, 1) := by decide +kernel
theorem dX9_lastAlike_10 : decode cX9_lastAlike 10 = .ok (.istore_n 3, 1) := by decide +kernel
theorem dX9_lastAlike_11 : decode cX9_lastAlike 11 = .ok (.iload_n 3, 1) := by decide +kernel
theorem dX9_lastAlike_12 : decode cX9_lastAlike 12 = .ok (.ifCond .lt 24, 3) := by decide +kernel
theorem dX9_lastAlike_15 : decode cX9_lastAlike 15 = .ok (.aload_n 0, 1) := by decide +kernel
theorem dX9_lastAlike_16 : decode cX9_lastAlike 16 = .ok (.getfield 11, 3) := by decide +kernel
theorem dX9_lastAlike_19 : decode cX9_lastAlike 19 = .ok (.iload_n 3, 1) := by decide +kernel
theorem dX9_lastAlike_20 : decode cX9_lastAlike 20 = .ok (.aaload, 1) := by decide +kernel
theorem dX9_lastAlike_21 : decode cX9_lastAlike 21 = .ok (.aload_n 1, 1) := by decide +kernel
theorem dX9_lastAlike_22 : decode cX9_lastAlike 22 = .ok (.invokevirtual 57, 3) := by decide +kernel
theorem dX9_lastAlike_25 : decode cX9_lastAlike 25 = .ok (.ifCond .eq 5, 3) := by decide +kernel
theorem dX9_lastAlike_28 : decode cX9_lastAlike 28 = .ok (.iload_n 3, 1) := by decide +kernel
theorem dX9_lastAlike_29 : decode cX9_lastAlike 29 = .ok (.ireturn, 1) := by decide +kernel
theorem dX9_lastAlike_30 : decode cX9_lastAlike 30 = .ok (.iinc 3 (-1), 3) := by decide +kernel
theorem dX9_lastAlike_33 : decode cX9_lastAlike 33 = .ok (.goto (-22), 3) := by decide +kernel
theorem dX9_lastAlike_36 : decode cX9_lastAlike 36 = .ok (.bipush (-5), 2) := by decide +kernel
theorem dX9_lastAlike_38 : decode cX9_lastAlike 38 = .ok (.ireturn, 1) := by decide +kernel
theorem dX9_reviewPay_0 : decode cX9_reviewPay 0 = .ok (.iconst 2, 1) := by decide +kernel
theorem dX9_reviewPay_1 : decode cX9_reviewPay 1 = .ok (.aload_n 0, 1) := by decide +kernel
theorem dX9_reviewPay_2 : decode cX9_reviewPay 2 = .ok (.invokevirtual 67, 3) := by decide +kernel
theorem dX9_reviewPay_5 : decode cX9_reviewPay 5 = .ok (.imul, 1) := by decide +kernel
theorem dX9_reviewPay_6 : decode cX9_reviewPay 6 = .ok (.ireturn, 1) := by decide +kernel
theorem dX9_cost_0 : decode cX9_cost 0 = .ok (.aload_n 0, 1) := by decide +kernel
theorem dX9_cost_1 : decode cX9_cost 1 = .ok (.getfield 27, 3) := by decide +kernel
theorem dX9_cost_4 : decode cX9_cost 4 = .ok (.iconst 3, 1) := by decide +kernel
theorem dX9_cost_5 : decode cX9_cost 5 = .ok (.if_icmp .ne 13, 3) := by decide +kernel
theorem dX9_cost_8 : decode cX9_cost 8 = .ok (.aload_n 0, 1) := by decide +kernel
theorem dX9_cost_9 : decode cX9_cost 9 = .ok (.getfield 37, 3) := by decide +kernel
theorem dX9_cost_12 : decode cX9_cost 12 = .ok (.aload_n 0, 1) := by decide +kernel
theorem dX9_cost_13 : decode cX9_cost 13 = .ok (.invokevirtual 71, 3) := by decide +kernel
theorem dX9_cost_16 : decode cX9_cost 16 = .ok (.iadd, 1) := by decide +kernel
theorem dX9_cost_17 : decode cX9_cost 17 = .ok (.ireturn, 1) := by decide +kernel
theorem dX9_cost_18 : decode cX9_cost 18 = .ok (.aload_n 0, 1) := by decide +kernel
theorem dX9_cost_19 : decode cX9_cost 19 = .ok (.getfield 27, 3) := by decide +kernel
theorem dX9_cost_22 : decode cX9_cost 22 = .ok (.iconst 1, 1) := by decide +kernel
theorem dX9_cost_23 : decode cX9_cost 23 = .ok (.if_icmp .eq 11, 3) := by decide +kernel
theorem dX9_cost_26 : decode cX9_cost 26 = .ok (.aload_n 0, 1) := by decide +kernel
theorem dX9_cost_27 : decode cX9_cost 27 = .ok (.getfield 27, 3) := by decide +kernel
theorem dX9_cost_30 : decode cX9_cost 30 = .ok (.iconst 2, 1) := by decide +kernel
theorem dX9_cost_31 : decode cX9_cost 31 = .ok (.if_icmp .ne 10, 3) := by decide +kernel
theorem dX9_cost_34 : decode cX9_cost 34 = .ok (.aload_n 0, 1) := by decide +kernel
theorem dX9_cost_35 : decode cX9_cost 35 = .ok (.getfield 37, 3) := by decide +kernel
theorem dX9_cost_38 : decode cX9_cost 38 = .ok (.goto 4, 3) := by decide +kernel
theorem dX9_cost_41 : decode cX9_cost 41 = .ok (.iconst 0, 1) := by decide +kernel
theorem dX9_cost_42 : decode cX9_cost 42 = .ok (.ireturn, 1) := by decide +kernel
theorem dX9_fillAlike_0 : decode cX9_fillAlike 0 = .ok (.iconst 0, 1) := by decide +kernel
theorem dX9_fillAlike_1 : decode cX9_fillAlike 1 = .ok (.istore_n 3, 1) := by decide +kernel
theorem dX9_fillAlike_2 : decode cX9_fillAlike 2 = .ok (.iconst 0, 1) := by decide +kernel
theorem dX9_fillAlike_3 : decode cX9_fillAlike 3 = .ok (.istore 4, 2) := by decide +kernel
theorem dX9_fillAlike_5 : decode cX9_fillAlike 5 = .ok (.iload 4, 2) := by decide +kernel
theorem dX9_fillAlike_7 : decode cX9_fillAlike 7 = .ok (.aload_n 0, 1) := by decide +kernel
theorem dX9_fillAlike_8 : decode cX9_fillAlike 8 = .ok (.getfield 43, 3) := by decide +kernel
theorem dX9_fillAlike_11 : decode cX9_fillAlike 11 = .ok (.if_icmp .ge 44, 3) := by decide +kernel
theorem dX9_fillAlike_14 : decode cX9_fillAlike 14 = .ok (.aload_n 0, 1) := by decide +kernel
theorem dX9_fillAlike_15 : decode cX9_fillAlike 15 = .ok (.getfield 17, 3) := by decide +kernel
theorem dX9_fillAlike_18 : decode cX9_fillAlike 18 = .ok (.iload 4, 2) := by decide +kernel
theorem dX9_fillAlike_20 : decode cX9_fillAlike 20 = .ok (.iaload, 1) := by decide +kernel
theorem dX9_fillAlike_21 : decode cX9_fillAlike 21 = .ok (.ifCond .ne 28, 3) := by decide +kernel
theorem dX9_fillAlike_24 : decode cX9_fillAlike 24 = .ok (.aload_n 0, 1) := by decide +kernel
theorem dX9_fillAlike_25 : decode cX9_fillAlike 25 = .ok (.getfield 11, 3) := by decide +kernel
theorem dX9_fillAlike_28 : decode cX9_fillAlike 28 = .ok (.iload 4, 2) := by decide +kernel
theorem dX9_fillAlike_30 : decode cX9_fillAlike 30 = .ok (.aaload, 1) := by decide +kernel
theorem dX9_fillAlike_31 : decode cX9_fillAlike 31 = .ok (.aload_n 1, 1) := by decide +kernel
theorem dX9_fillAlike_32 : decode cX9_fillAlike 32 = .ok (.invokevirtual 57, 3) := by decide +kernel
theorem dX9_fillAlike_35 : decode cX9_fillAlike 35 = .ok (.ifCond .eq 14, 3) := by decide +kernel
theorem dX9_fillAlike_38 : decode cX9_fillAlike 38 = .ok (.aload_n 0, 1) := by decide +kernel
theorem dX9_fillAlike_39 : decode cX9_fillAlike 39 = .ok (.iload 4, 2) := by decide +kernel
theorem dX9_fillAlike_41 : decode cX9_fillAlike 41 = .ok (.iload_n 2, 1) := by decide +kernel
theorem dX9_fillAlike_42 : decode cX9_fillAlike 42 = .ok (.iconst 2, 1) := by decide +kernel
theorem dX9_fillAlike_43 : decode cX9_fillAlike 43 = .ok (.invokevirtual 46, 3) := by decide +kernel
theorem dX9_fillAlike_46 : decode cX9_fillAlike 46 = .ok (.iinc 3 1, 3) := by decide +kernel
theorem dX9_fillAlike_49 : decode cX9_fillAlike 49 = .ok (.iinc 4 1, 3) := by decide +kernel
theorem dX9_fillAlike_52 : decode cX9_fillAlike 52 = .ok (.goto (-47), 3) := by decide +kernel
theorem dX9_fillAlike_55 : decode cX9_fillAlike 55 = .ok (.iload_n 3, 1) := by decide +kernel
theorem dX9_fillAlike_56 : decode cX9_fillAlike 56 = .ok (.ireturn, 1) := by decide +kernel
theorem dX9_replaceAlike_0 : decode cX9_replaceAlike 0 = .ok (.iconst 0, 1) := by decide +kernel
theorem dX9_replaceAlike_1 : decode cX9_replaceAlike 1 = .ok (.istore_n 3, 1) := by decide +kernel
theorem dX9_replaceAlike_2 : decode cX9_replaceAlike 2 = .ok (.iconst 0, 1) := by decide +kernel
theorem dX9_replaceAlike_3 : decode cX9_replaceAlike 3 = .ok (.istore 4, 2) := by decide +kernel
theorem dX9_replaceAlike_5 : decode cX9_replaceAlike 5 = .ok (.iload 4, 2) := by decide +kernel
theorem dX9_replaceAlike_7 : decode cX9_replaceAlike 7 = .ok (.aload_n 0, 1) := by decide +kernel
theorem dX9_replaceAlike_8 : decode cX9_replaceAlike 8 = .ok (.getfield 43, 3) := by decide +kernel
theorem dX9_replaceAlike_11 : decode cX9_replaceAlike 11 = .ok (.if_icmp .ge 55, 3) := by decide +kernel
theorem dX9_replaceAlike_14 : decode cX9_replaceAlike 14 = .ok (.aload_n 0, 1) := by decide +kernel
theorem dX9_replaceAlike_15 : decode cX9_replaceAlike 15 = .ok (.getfield 17, 3) := by decide +kernel
theorem dX9_replaceAlike_18 : decode cX9_replaceAlike 18 = .ok (.iload 4, 2) := by decide +kernel
theorem dX9_replaceAlike_20 : decode cX9_replaceAlike 20 = .ok (.iaload, 1) := by decide +kernel
theorem dX9_replaceAlike_21 : decode cX9_replaceAlike 21 = .ok (.ifCond .eq 39, 3) := by decide +kernel
theorem dX9_replaceAlike_24 : decode cX9_replaceAlike 24 = .ok (.aload_n 0, 1) := by decide +kernel
theorem dX9_replaceAlike_25 : decode cX9_replaceAlike 25 = .ok (.getfield 17, 3) := by decide +kernel
theorem dX9_replaceAlike_28 : decode cX9_replaceAlike 28 = .ok (.iload 4, 2) := by decide +kernel
theorem dX9_replaceAlike_30 : decode cX9_replaceAlike 30 = .ok (.iaload, 1) := by decide +kernel
theorem dX9_replaceAlike_31 : decode cX9_replaceAlike 31 = .ok (.iload_n 2, 1) := by decide +kernel
theorem dX9_replaceAlike_32 : decode cX9_replaceAlike 32 = .ok (.if_icmp .eq 28, 3) := by decide +kernel
theorem dX9_replaceAlike_35 : decode cX9_replaceAlike 35 = .ok (.aload_n 0, 1) := by decide +kernel
theorem dX9_replaceAlike_36 : decode cX9_replaceAlike 36 = .ok (.getfield 11, 3) := by decide +kernel
theorem dX9_replaceAlike_39 : decode cX9_replaceAlike 39 = .ok (.iload 4, 2) := by decide +kernel
theorem dX9_replaceAlike_41 : decode cX9_replaceAlike 41 = .ok (.aaload, 1) := by decide +kernel
theorem dX9_replaceAlike_42 : decode cX9_replaceAlike 42 = .ok (.aload_n 1, 1) := by decide +kernel
theorem dX9_replaceAlike_43 : decode cX9_replaceAlike 43 = .ok (.invokevirtual 57, 3) := by decide +kernel
theorem dX9_replaceAlike_46 : decode cX9_replaceAlike 46 = .ok (.ifCond .eq 14, 3) := by decide +kernel
theorem dX9_replaceAlike_49 : decode cX9_replaceAlike 49 = .ok (.aload_n 0, 1) := by decide +kernel
theorem dX9_replaceAlike_50 : decode cX9_replaceAlike 50 = .ok (.iload 4, 2) := by decide +kernel
theorem dX9_replaceAlike_52 : decode cX9_replaceAlike 52 = .ok (.iload_n 2, 1) := by decide +kernel
theorem dX9_replaceAlike_53 : decode cX9_replaceAlike 53 = .ok (.iconst 4, 1) := by decide +kernel
theorem dX9_replaceAlike_54 : decode cX9_replaceAlike 54 = .ok (.invokevirtual 46, 3) := by decide +kernel
theorem dX9_replaceAlike_57 : decode cX9_replaceAlike 57 = .ok (.iinc 3 1, 3) := by decide +kernel
theorem dX9_replaceAlike_60 : decode cX9_replaceAlike 60 = .ok (.iinc 4 1, 3) := by decide +kernel
theorem dX9_replaceAlike_63 : decode cX9_replaceAlike 63 = .ok (.goto (-58), 3) := by decide +kernel
theorem dX9_replaceAlike_66 : decode cX9_replaceAlike 66 = .ok (.iload_n 3, 1) := by decide +kernel
theorem dX9_replaceAlike_67 : decode cX9_replaceAlike 67 = .ok (.ireturn, 1) := by decide +kernel
theorem dX9_copyFrom_0 : decode cX9_copyFrom 0 = .ok (.aload_n 0, 1) := by decide +kernel
theorem dX9_copyFrom_1 : decode cX9_copyFrom 1 = .ok (.aload_n 1, 1) := by decide +kernel
theorem dX9_copyFrom_2 : decode cX9_copyFrom 2 = .ok (.getfield 27, 3) := by decide +kernel
theorem dX9_copyFrom_5 : decode cX9_copyFrom 5 = .ok (.putfield 27, 3) := by decide +kernel
theorem dX9_copyFrom_8 : decode cX9_copyFrom 8 = .ok (.aload_n 0, 1) := by decide +kernel
theorem dX9_copyFrom_9 : decode cX9_copyFrom 9 = .ok (.aload_n 1, 1) := by decide +kernel
theorem dX9_copyFrom_10 : decode cX9_copyFrom 10 = .ok (.getfield 31, 3) := by decide +kernel
theorem dX9_copyFrom_13 : decode cX9_copyFrom 13 = .ok (.putfield 31, 3) := by decide +kernel
theorem dX9_copyFrom_16 : decode cX9_copyFrom 16 = .ok (.aload_n 0, 1) := by decide +kernel
theorem dX9_copyFrom_17 : decode cX9_copyFrom 17 = .ok (.aload_n 1, 1) := by decide +kernel
theorem dX9_copyFrom_18 : decode cX9_copyFrom 18 = .ok (.getfield 34, 3) := by decide +kernel
theorem dX9_copyFrom_21 : decode cX9_copyFrom 21 = .ok (.putfield 34, 3) := by decide +kernel
theorem dX9_copyFrom_24 : decode cX9_copyFrom 24 = .ok (.aload_n 0, 1) := by decide +kernel
theorem dX9_copyFrom_25 : decode cX9_copyFrom 25 = .ok (.aload_n 1, 1) := by decide +kernel
theorem dX9_copyFrom_26 : decode cX9_copyFrom 26 = .ok (.getfield 37, 3) := by decide +kernel
theorem dX9_copyFrom_29 : decode cX9_copyFrom 29 = .ok (.putfield 37, 3) := by decide +kernel
theorem dX9_copyFrom_32 : decode cX9_copyFrom 32 = .ok (.aload_n 0, 1) := by decide +kernel
theorem dX9_copyFrom_33 : decode cX9_copyFrom 33 = .ok (.aload_n 1, 1) := by decide +kernel
theorem dX9_copyFrom_34 : decode cX9_copyFrom 34 = .ok (.getfield 40, 3) := by decide +kernel
theorem dX9_copyFrom_37 : decode cX9_copyFrom 37 = .ok (.putfield 40, 3) := by decide +kernel
theorem dX9_copyFrom_40 : decode cX9_copyFrom 40 = .ok (.aload_n 0, 1) := by decide +kernel
theorem dX9_copyFrom_41 : decode cX9_copyFrom 41 = .ok (.aload_n 1, 1) := by decide +kernel
theorem dX9_copyFrom_42 : decode cX9_copyFrom 42 = .ok (.getfield 43, 3) := by decide +kernel
theorem dX9_copyFrom_45 : decode cX9_copyFrom 45 = .ok (.putfield 43, 3) := by decide +kernel
theorem dX9_copyFrom_48 : decode cX9_copyFrom 48 = .ok (.iconst 0, 1) := by decide +kernel
theorem dX9_copyFrom_49 : decode cX9_copyFrom 49 = .ok (.istore_n 2, 1) := by decide +kernel
theorem dX9_copyFrom_50 : decode cX9_copyFrom 50 = .ok (.iload_n 2, 1) := by decide +kernel
theorem dX9_copyFrom_51 : decode cX9_copyFrom 51 = .ok (.aload_n 0, 1) := by decide +kernel
theorem dX9_copyFrom_52 : decode cX9_copyFrom 52 = .ok (.getfield 43, 3) := by decide +kernel
theorem dX9_copyFrom_55 : decode cX9_copyFrom 55 = .ok (.if_icmp .ge 38, 3) := by decide +kernel
theorem dX9_copyFrom_58 : decode cX9_copyFrom 58 = .ok (.aload_n 0, 1) := by decide +kernel
theorem dX9_copyFrom_59 : decode cX9_copyFrom 59 = .ok (.getfield 11, 3) := by decide +kernel
theorem dX9_copyFrom_62 : decode cX9_copyFrom 62 = .ok (.iload_n 2, 1) := by decide +kernel
theorem dX9_copyFrom_63 : decode cX9_copyFrom 63 = .ok (.aload_n 1, 1) := by decide +kernel
theorem dX9_copyFrom_64 : decode cX9_copyFrom 64 = .ok (.getfield 11, 3) := by decide +kernel
theorem dX9_copyFrom_67 : decode cX9_copyFrom 67 = .ok (.iload_n 2, 1) := by decide +kernel
theorem dX9_copyFrom_68 : decode cX9_copyFrom 68 = .ok (.aaload, 1) := by decide +kernel
theorem dX9_copyFrom_69 : decode cX9_copyFrom 69 = .ok (.aastore, 1) := by decide +kernel
theorem dX9_copyFrom_70 : decode cX9_copyFrom 70 = .ok (.aload_n 0, 1) := by decide +kernel
theorem dX9_copyFrom_71 : decode cX9_copyFrom 71 = .ok (.iload_n 2, 1) := by decide +kernel
theorem dX9_copyFrom_72 : decode cX9_copyFrom 72 = .ok (.aload_n 1, 1) := by decide +kernel
theorem dX9_copyFrom_73 : decode cX9_copyFrom 73 = .ok (.getfield 17, 3) := by decide +kernel
theorem dX9_copyFrom_76 : decode cX9_copyFrom 76 = .ok (.iload_n 2, 1) := by decide +kernel
theorem dX9_copyFrom_77 : decode cX9_copyFrom 77 = .ok (.iaload, 1) := by decide +kernel
theorem dX9_copyFrom_78 : decode cX9_copyFrom 78 = .ok (.aload_n 1, 1) := by decide +kernel
theorem dX9_copyFrom_79 : decode cX9_copyFrom 79 = .ok (.getfield 21, 3) := by decide +kernel
theorem dX9_copyFrom_82 : decode cX9_copyFrom 82 = .ok (.iload_n 2, 1) := by decide +kernel
theorem dX9_copyFrom_83 : decode cX9_copyFrom 83 = .ok (.iaload, 1) := by decide +kernel
theorem dX9_copyFrom_84 : decode cX9_copyFrom 84 = .ok (.invokevirtual 46, 3) := by decide +kernel
theorem dX9_copyFrom_87 : decode cX9_copyFrom 87 = .ok (.iinc 2 1, 3) := by decide +kernel
theorem dX9_copyFrom_90 : decode cX9_copyFrom 90 = .ok (.goto (-40), 3) := by decide +kernel
theorem dX9_copyFrom_93 : decode cX9_copyFrom 93 = .ok (.return_, 1) := by decide +kernel
theorem dX10_init_0 : decode cX10_init 0 = .ok (.aload_n 0, 1) := by decide +kernel
theorem dX10_init_1 : decode cX10_init 1 = .ok (.invokespecial 1, 3) := by decide +kernel
theorem dX10_init_4 : decode cX10_init 4 = .ok (.new 7, 3) := by decide +kernel
theorem dX10_init_7 : decode cX10_init 7 = .ok (.dup, 1) := by decide +kernel
theorem dX10_init_8 : decode cX10_init 8 = .ok (.invokespecial 9, 3) := by decide +kernel
theorem dX10_init_11 : decode cX10_init 11 = .ok (.astore_n 1, 1) := by decide +kernel
theorem dX10_init_12 : decode cX10_init 12 = .ok (.new 10, 3) := by decide +kernel
theorem dX10_init_15 : decode cX10_init 15 = .ok (.dup, 1) := by decide +kernel
theorem dX10_init_16 : decode cX10_init 16 = .ok (.iconst 0, 1) := by decide +kernel
theorem dX10_init_17 : decode cX10_init 17 = .ok (.newarray .char, 2) := by decide +kernel
theorem dX10_init_19 : decode cX10_init 19 = .ok (.invokespecial 12, 3) := by decide +kernel
theorem dX10_init_22 : decode cX10_init 22 = .ok (.astore_n 2, 1) := by decide +kernel
theorem dX10_init_23 : decode cX10_init 23 = .ok (.aload_n 0, 1) := by decide +kernel
theorem dX10_init_24 : decode cX10_init 24 = .ok (.new 15, 3) := by decide +kernel
theorem dX10_init_27 : decode cX10_init 27 = .ok (.dup, 1) := by decide +kernel
theorem dX10_init_28 : decode cX10_init 28 = .ok (.invokespecial 17, 3) := by decide +kernel
theorem dX10_init_31 : decode cX10_init 31 = .ok (.putfield 18, 3) := by decide +kernel
theorem dX10_init_34 : decode cX10_init 34 = .ok (.aload_n 0, 1) := by decide +kernel
theorem dX10_init_35 : decode cX10_init 35 = .ok (.new 24, 3) := by decide +kernel
theorem dX10_init_38 : decode cX10_init 38 = .ok (.dup, 1) := by decide +kernel
theorem dX10_init_39 : decode cX10_init 39 = .ok (.aload_n 1, 1) := by decide +kernel
theorem dX10_init_40 : decode cX10_init 40 = .ok (.aload_n 2, 1) := by decide +kernel
theorem dX10_init_41 : decode cX10_init 41 = .ok (.invokespecial 26, 3) := by decide +kernel
theorem dX10_init_44 : decode cX10_init 44 = .ok (.putfield 29, 3) := by decide +kernel
theorem dX10_init_47 : decode cX10_init 47 = .ok (.aload_n 0, 1) := by decide +kernel
theorem dX10_init_48 : decode cX10_init 48 = .ok (.new 24, 3) := by decide +kernel
theorem dX10_init_51 : decode cX10_init 51 = .ok (.dup, 1) := by decide +kernel
theorem dX10_init_52 : decode cX10_init 52 = .ok (.aload_n 1, 1) := by decide +kernel
theorem dX10_init_53 : decode cX10_init 53 = .ok (.aload_n 2, 1) := by decide +kernel
theorem dX10_init_54 : decode cX10_init 54 = .ok (.invokespecial 26, 3) := by decide +kernel
theorem dX10_init_57 : decode cX10_init 57 = .ok (.putfield 33, 3) := by decide +kernel
theorem dX10_init_60 : decode cX10_init 60 = .ok (.aload_n 0, 1) := by decide +kernel
theorem dX10_init_61 : decode cX10_init 61 = .ok (.new 36, 3) := by decide +kernel
theorem dX10_init_64 : decode cX10_init 64 = .ok (.dup, 1) := by decide +kernel
theorem dX10_init_65 : decode cX10_init 65 = .ok (.aload_n 1, 1) := by decide +kernel
theorem dX10_init_66 : decode cX10_init 66 = .ok (.aload_n 2, 1) := by decide +kernel
theorem dX10_init_67 : decode cX10_init 67 = .ok (.invokespecial 38, 3) := by decide +kernel
theorem dX10_init_70 : decode cX10_init 70 = .ok (.putfield 39, 3) := by decide +kernel
theorem dX10_init_73 : decode cX10_init 73 = .ok (.aload_n 0, 1) := by decide +kernel
theorem dX10_init_74 : decode cX10_init 74 = .ok (.iconst 0, 1) := by decide +kernel
theorem dX10_init_75 : decode cX10_init 75 = .ok (.putfield 43, 3) := by decide +kernel
theorem dX10_init_78 : decode cX10_init 78 = .ok (.return_, 1) := by decide +kernel
theorem dX10_addPerson_0 : decode cX10_addPerson 0 = .ok (.iload_n 1, 1) := by decide +kernel
theorem dX10_addPerson_1 : decode cX10_addPerson 1 = .ok (.iconst 1, 1) := by decide +kernel
theorem dX10_addPerson_2 : decode cX10_addPerson 2 = .ok (.if_icmp .lt 9, 3) := by decide +kernel
theorem dX10_addPerson_5 : decode cX10_addPerson 5 = .ok (.iload_n 1, 1) := by decide +kernel
theorem dX10_addPerson_6 : decode cX10_addPerson 6 = .ok (.bipush 50, 2) := by decide +kernel
theorem dX10_addPerson_8 : decode cX10_addPerson 8 = .ok (.if_icmp .le 6, 3) := by decide +kernel
theorem dX10_addPerson_11 : decode cX10_addPerson 11 = .ok (.bipush (-2), 2) := by decide +kernel
theorem dX10_addPerson_13 : decode cX10_addPerson 13 = .ok (.ireturn, 1) := by decide +kernel
theorem dX10_addPerson_14 : decode cX10_addPerson 14 = .ok (.aload_n 0, 1) := by decide +kernel
theorem dX10_addPerson_15 : decode cX10_addPerson 15 = .ok (.getfield 29, 3) := by decide +kernel
theorem dX10_addPerson_18 : decode cX10_addPerson 18 = .ok (.getfield 47, 3) := by decide +kernel
theorem dX10_addPerson_21 : decode cX10_addPerson 21 = .ok (.bipush 6, 2) := by decide +kernel
theorem dX10_addPerson_23 : decode cX10_addPerson 23 = .ok (.if_icmp .lt 6, 3) := by decide +kernel
theorem dX10_addPerson_26 : decode cX10_addPerson 26 = .ok (.bipush (-3), 2) := by decide +kernel
theorem dX10_addPerson_28 : decode cX10_addPerson 28 = .ok (.ireturn, 1) := by decide +kernel
theorem dX10_addPerson_29 : decode cX10_addPerson 29 = .ok (.aload_n 0, 1) := by decide +kernel
theorem dX10_addPerson_30 : decode cX10_addPerson 30 = .ok (.getfield 39, 3) := by decide +kernel
theorem dX10_addPerson_33 : decode cX10_addPerson 33 = .ok (.aload_n 0, 1) := by decide +kernel
theorem dX10_addPerson_34 : decode cX10_addPerson 34 = .ok (.getfield 29, 3) := by decide +kernel
theorem dX10_addPerson_37 : decode cX10_addPerson 37 = .ok (.invokevirtual 51, 3) := by decide +kernel
theorem dX10_addPerson_40 : decode cX10_addPerson 40 = .ok (.aload_n 0, 1) := by decide +kernel
theorem dX10_addPerson_41 : decode cX10_addPerson 41 = .ok (.getfield 29, 3) := by decide +kernel
theorem dX10_addPerson_44 : decode cX10_addPerson 44 = .ok (.iload_n 1, 1) := by decide +kernel
theorem dX10_addPerson_45 : decode cX10_addPerson 45 = .ok (.invokevirtual 55, 3) := by decide +kernel
theorem dX10_addPerson_48 : decode cX10_addPerson 48 = .ok (.ireturn, 1) := by decide +kernel
theorem dX10_bar_0 : decode cX10_bar 0 = .ok (.aload_n 0, 1) := by decide +kernel
theorem dX10_bar_1 : decode cX10_bar 1 = .ok (.getfield 29, 3) := by decide +kernel
theorem dX10_bar_4 : decode cX10_bar 4 = .ok (.iload_n 1, 1) := by decide +kernel
theorem dX10_bar_5 : decode cX10_bar 5 = .ok (.invokevirtual 59, 3) := by decide +kernel
theorem dX10_bar_8 : decode cX10_bar 8 = .ok (.ifCond .eq 14, 3) := by decide +kernel
theorem dX10_bar_11 : decode cX10_bar 11 = .ok (.aload_n 0, 1) := by decide +kernel
theorem dX10_bar_12 : decode cX10_bar 12 = .ok (.getfield 29, 3) := by decide +kernel
theorem dX10_bar_15 : decode cX10_bar 15 = .ok (.iload_n 2, 1) := by decide +kernel
theorem dX10_bar_16 : decode cX10_bar 16 = .ok (.invokevirtual 59, 3) := by decide +kernel
theorem dX10_bar_19 : decode cX10_bar 19 = .ok (.ifCond .ne 5, 3) := by decide +kernel
theorem dX10_bar_22 : decode cX10_bar 22 = .ok (.iconst (-1), 1) := by decide +kernel
theorem dX10_bar_23 : decode cX10_bar 23 = .ok (.ireturn, 1) := by decide +kernel
theorem dX10_bar_24 : decode cX10_bar 24 = .ok (.iload_n 1, 1) := by decide +kernel
theorem dX10_bar_25 : decode cX10_bar 25 = .ok (.iload_n 2, 1) := by decide +kernel
theorem dX10_bar_26 : decode cX10_bar 26 = .ok (.if_icmp .ne 6, 3) := by decide +kernel
theorem dX10_bar_29 : decode cX10_bar 29 = .ok (.bipush (-2), 2) := by decide +kernel
theorem dX10_bar_31 : decode cX10_bar 31 = .ok (.ireturn, 1) := by decide +kernel
theorem dX10_bar_32 : decode cX10_bar 32 = .ok (.aload_n 0, 1) := by decide +kernel
theorem dX10_bar_33 : decode cX10_bar 33 = .ok (.getfield 29, 3) := by decide +kernel
theorem dX10_bar_36 : decode cX10_bar 36 = .ok (.getfield 63, 3) := by decide +kernel
theorem dX10_bar_39 : decode cX10_bar 39 = .ok (.iload_n 1, 1) := by decide +kernel
theorem dX10_bar_40 : decode cX10_bar 40 = .ok (.aaload, 1) := by decide +kernel
theorem dX10_bar_41 : decode cX10_bar 41 = .ok (.iload_n 2, 1) := by decide +kernel
theorem dX10_bar_42 : decode cX10_bar 42 = .ok (.invokevirtual 67, 3) := by decide +kernel
theorem dX10_bar_45 : decode cX10_bar 45 = .ok (.iload_n 3, 1) := by decide +kernel
theorem dX10_bar_46 : decode cX10_bar 46 = .ok (.if_icmp .ne 6, 3) := by decide +kernel
theorem dX10_bar_49 : decode cX10_bar 49 = .ok (.bipush (-5), 2) := by decide +kernel
theorem dX10_bar_51 : decode cX10_bar 51 = .ok (.ireturn, 1) := by decide +kernel
theorem dX10_bar_52 : decode cX10_bar 52 = .ok (.aload_n 0, 1) := by decide +kernel
theorem dX10_bar_53 : decode cX10_bar 53 = .ok (.getfield 39, 3) := by decide +kernel
theorem dX10_bar_56 : decode cX10_bar 56 = .ok (.aload_n 0, 1) := by decide +kernel
theorem dX10_bar_57 : decode cX10_bar 57 = .ok (.getfield 29, 3) := by decide +kernel
theorem dX10_bar_60 : decode cX10_bar 60 = .ok (.invokevirtual 51, 3) := by decide +kernel
theorem dX10_bar_63 : decode cX10_bar 63 = .ok (.aload_n 0, 1) := by decide +kernel
theorem dX10_bar_64 : decode cX10_bar 64 = .ok (.getfield 29, 3) := by decide +kernel
theorem dX10_bar_67 : decode cX10_bar 67 = .ok (.getfield 63, 3) := by decide +kernel
theorem dX10_bar_70 : decode cX10_bar 70 = .ok (.iload_n 1, 1) := by decide +kernel
theorem dX10_bar_71 : decode cX10_bar 71 = .ok (.aaload, 1) := by decide +kernel
theorem dX10_bar_72 : decode cX10_bar 72 = .ok (.iload_n 2, 1) := by decide +kernel
theorem dX10_bar_73 : decode cX10_bar 73 = .ok (.iload_n 3, 1) := by decide +kernel
theorem dX10_bar_74 : decode cX10_bar 74 = .ok (.invokevirtual 72, 3) := by decide +kernel
theorem dX10_bar_77 : decode cX10_bar 77 = .ok (.aload_n 0, 1) := by decide +kernel
theorem dX10_bar_78 : decode cX10_bar 78 = .ok (.getfield 29, 3) := by decide +kernel
theorem dX10_bar_81 : decode cX10_bar 81 = .ok (.getfield 63, 3) := by decide +kernel
theorem dX10_bar_84 : decode cX10_bar 84 = .ok (.iload_n 2, 1) := by decide +kernel
theorem dX10_bar_85 : decode cX10_bar 85 = .ok (.aaload, 1) := by decide +kernel
theorem dX10_bar_86 : decode cX10_bar 86 = .ok (.iload_n 1, 1) := by decide +kernel
theorem dX10_bar_87 : decode cX10_bar 87 = .ok (.iload_n 3, 1) := by decide +kernel
theorem dX10_bar_88 : decode cX10_bar 88 = .ok (.invokevirtual 72, 3) := by decide +kernel
theorem dX10_bar_91 : decode cX10_bar 91 = .ok (.aload_n 0, 1) := by decide +kernel
theorem dX10_bar_92 : decode cX10_bar 92 = .ok (.getfield 29, 3) := by decide +kernel
theorem dX10_bar_95 : decode cX10_bar 95 = .ok (.getfield 63, 3) := by decide +kernel
theorem dX10_bar_98 : decode cX10_bar 98 = .ok (.iload_n 1, 1) := by decide +kernel
theorem dX10_bar_99 : decode cX10_bar 99 = .ok (.aaload, 1) := by decide +kernel
theorem dX10_bar_100 : decode cX10_bar 100 = .ok (.getfield 76, 3) := by decide +kernel
theorem dX10_bar_103 : decode cX10_bar 103 = .ok (.invokestatic 79, 3) := by decide +kernel
theorem dX10_bar_106 : decode cX10_bar 106 = .ok (.ireturn, 1) := by decide +kernel
theorem dX10_setShare_0 : decode cX10_setShare 0 = .ok (.iload_n 1, 1) := by decide +kernel
theorem dX10_setShare_1 : decode cX10_setShare 1 = .ok (.invokestatic 84, 3) := by decide +kernel
theorem dX10_setShare_4 : decode cX10_setShare 4 = .ok (.ifCond .eq 13, 3) := by decide +kernel
theorem dX10_setShare_7 : decode cX10_setShare 7 = .ok (.iload_n 2, 1) := by decide +kernel
theorem dX10_setShare_8 : decode cX10_setShare 8 = .ok (.ifCond .lt 9, 3) := by decide +kernel
theorem dX10_setShare_11 : decode cX10_setShare 11 = .ok (.iload_n 2, 1) := by decide +kernel
theorem dX10_setShare_12 : decode cX10_setShare 12 = .ok (.bipush 100, 2) := by decide +kernel
theorem dX10_setShare_14 : decode cX10_setShare 14 = .ok (.if_icmp .le 6, 3) := by decide +kernel
theorem dX10_setShare_17 : decode cX10_setShare 17 = .ok (.bipush (-2), 2) := by decide +kernel
theorem dX10_setShare_19 : decode cX10_setShare 19 = .ok (.ireturn, 1) := by decide +kernel
theorem dX10_setShare_20 : decode cX10_setShare 20 = .ok (.aload_n 0, 1) := by decide +kernel
theorem dX10_setShare_21 : decode cX10_setShare 21 = .ok (.getfield 29, 3) := by decide +kernel
theorem dX10_setShare_24 : decode cX10_setShare 24 = .ok (.getfield 87, 3) := by decide +kernel
theorem dX10_setShare_27 : decode cX10_setShare 27 = .ok (.iload_n 1, 1) := by decide +kernel
theorem dX10_setShare_28 : decode cX10_setShare 28 = .ok (.iaload, 1) := by decide +kernel
theorem dX10_setShare_29 : decode cX10_setShare 29 = .ok (.istore_n 3, 1) := by decide +kernel
theorem dX10_setShare_30 : decode cX10_setShare 30 = .ok (.iload_n 3, 1) := by decide +kernel
theorem dX10_setShare_31 : decode cX10_setShare 31 = .ok (.iload_n 2, 1) := by decide +kernel
theorem dX10_setShare_32 : decode cX10_setShare 32 = .ok (.if_icmp .ne 6, 3) := by decide +kernel
theorem dX10_setShare_35 : decode cX10_setShare 35 = .ok (.bipush (-5), 2) := by decide +kernel
theorem dX10_setShare_37 : decode cX10_setShare 37 = .ok (.ireturn, 1) := by decide +kernel
theorem dX10_setShare_38 : decode cX10_setShare 38 = .ok (.aload_n 0, 1) := by decide +kernel
theorem dX10_setShare_39 : decode cX10_setShare 39 = .ok (.getfield 39, 3) := by decide +kernel
theorem dX10_setShare_42 : decode cX10_setShare 42 = .ok (.aload_n 0, 1) := by decide +kernel
theorem dX10_setShare_43 : decode cX10_setShare 43 = .ok (.getfield 29, 3) := by decide +kernel
theorem dX10_setShare_46 : decode cX10_setShare 46 = .ok (.invokevirtual 51, 3) := by decide +kernel
theorem dX10_setShare_49 : decode cX10_setShare 49 = .ok (.aload_n 0, 1) := by decide +kernel
theorem dX10_setShare_50 : decode cX10_setShare 50 = .ok (.getfield 29, 3) := by decide +kernel
theorem dX10_setShare_53 : decode cX10_setShare 53 = .ok (.getfield 87, 3) := by decide +kernel
theorem dX10_setShare_56 : decode cX10_setShare 56 = .ok (.iload_n 1, 1) := by decide +kernel
theorem dX10_setShare_57 : decode cX10_setShare 57 = .ok (.iload_n 2, 1) := by decide +kernel
theorem dX10_setShare_58 : decode cX10_setShare 58 = .ok (.iastore, 1) := by decide +kernel
theorem dX10_setShare_59 : decode cX10_setShare 59 = .ok (.iload_n 3, 1) := by decide +kernel
theorem dX10_setShare_60 : decode cX10_setShare 60 = .ok (.ireturn, 1) := by decide +kernel
theorem dX10_type_0 : decode cX10_type 0 = .ok (.aload_n 0, 1) := by decide +kernel
theorem dX10_type_1 : decode cX10_type 1 = .ok (.getfield 18, 3) := by decide +kernel
theorem dX10_type_4 : decode cX10_type 4 = .ok (.getfield 91, 3) := by decide +kernel
theorem dX10_type_7 : decode cX10_type 7 = .ok (.bipush 60, 2) := by decide +kernel
theorem dX10_type_9 : decode cX10_type 9 = .ok (.if_icmp .lt 6, 3) := by decide +kernel
theorem dX10_type_12 : decode cX10_type 12 = .ok (.bipush (-3), 2) := by decide +kernel
theorem dX10_type_14 : decode cX10_type 14 = .ok (.ireturn, 1) := by decide +kernel
theorem dX10_type_15 : decode cX10_type 15 = .ok (.aload_n 0, 1) := by decide +kernel
theorem dX10_type_16 : decode cX10_type 16 = .ok (.getfield 18, 3) := by decide +kernel
theorem dX10_type_19 : decode cX10_type 19 = .ok (.iload_n 1, 1) := by decide +kernel
theorem dX10_type_20 : decode cX10_type 20 = .ok (.invokevirtual 94, 3) := by decide +kernel
theorem dX10_type_23 : decode cX10_type 23 = .ok (.aload_n 0, 1) := by decide +kernel
theorem dX10_type_24 : decode cX10_type 24 = .ok (.getfield 18, 3) := by decide +kernel
theorem dX10_type_27 : decode cX10_type 27 = .ok (.getfield 91, 3) := by decide +kernel
theorem dX10_type_30 : decode cX10_type 30 = .ok (.ireturn, 1) := by decide +kernel
theorem dX10_clearText_0 : decode cX10_clearText 0 = .ok (.aload_n 0, 1) := by decide +kernel
theorem dX10_clearText_1 : decode cX10_clearText 1 = .ok (.getfield 18, 3) := by decide +kernel
theorem dX10_clearText_4 : decode cX10_clearText 4 = .ok (.getfield 91, 3) := by decide +kernel
theorem dX10_clearText_7 : decode cX10_clearText 7 = .ok (.istore_n 1, 1) := by decide +kernel
theorem dX10_clearText_8 : decode cX10_clearText 8 = .ok (.aload_n 0, 1) := by decide +kernel
theorem dX10_clearText_9 : decode cX10_clearText 9 = .ok (.getfield 18, 3) := by decide +kernel
theorem dX10_clearText_12 : decode cX10_clearText 12 = .ok (.iconst 0, 1) := by decide +kernel
theorem dX10_clearText_13 : decode cX10_clearText 13 = .ok (.putfield 91, 3) := by decide +kernel
theorem dX10_clearText_16 : decode cX10_clearText 16 = .ok (.iload_n 1, 1) := by decide +kernel
theorem dX10_clearText_17 : decode cX10_clearText 17 = .ok (.ireturn, 1) := by decide +kernel
theorem dX10_newFile_0 : decode cX10_newFile 0 = .ok (.aload_n 0, 1) := by decide +kernel
theorem dX10_newFile_1 : decode cX10_newFile 1 = .ok (.getfield 29, 3) := by decide +kernel
theorem dX10_newFile_4 : decode cX10_newFile 4 = .ok (.getfield 98, 3) := by decide +kernel
theorem dX10_newFile_7 : decode cX10_newFile 7 = .ok (.bipush 8, 2) := by decide +kernel
theorem dX10_newFile_9 : decode cX10_newFile 9 = .ok (.if_icmp .lt 6, 3) := by decide +kernel
theorem dX10_newFile_12 : decode cX10_newFile 12 = .ok (.bipush (-3), 2) := by decide +kernel
theorem dX10_newFile_14 : decode cX10_newFile 14 = .ok (.ireturn, 1) := by decide +kernel
theorem dX10_newFile_15 : decode cX10_newFile 15 = .ok (.aload_n 0, 1) := by decide +kernel
theorem dX10_newFile_16 : decode cX10_newFile 16 = .ok (.getfield 39, 3) := by decide +kernel
theorem dX10_newFile_19 : decode cX10_newFile 19 = .ok (.aload_n 0, 1) := by decide +kernel
theorem dX10_newFile_20 : decode cX10_newFile 20 = .ok (.getfield 29, 3) := by decide +kernel
theorem dX10_newFile_23 : decode cX10_newFile 23 = .ok (.invokevirtual 51, 3) := by decide +kernel
theorem dX10_newFile_26 : decode cX10_newFile 26 = .ok (.aload_n 0, 1) := by decide +kernel
theorem dX10_newFile_27 : decode cX10_newFile 27 = .ok (.getfield 29, 3) := by decide +kernel
theorem dX10_newFile_30 : decode cX10_newFile 30 = .ok (.invokevirtual 101, 3) := by decide +kernel
theorem dX10_newFile_33 : decode cX10_newFile 33 = .ok (.ireturn, 1) := by decide +kernel
theorem dX10_readSegments_0 : decode cX10_readSegments 0 = .ok (.aload_n 0, 1) := by decide +kernel
theorem dX10_readSegments_1 : decode cX10_readSegments 1 = .ok (.getfield 29, 3) := by decide +kernel
theorem dX10_readSegments_4 : decode cX10_readSegments 4 = .ok (.iload_n 1, 1) := by decide +kernel
theorem dX10_readSegments_5 : decode cX10_readSegments 5 = .ok (.invokevirtual 105, 3) := by decide +kernel
theorem dX10_readSegments_8 : decode cX10_readSegments 8 = .ok (.ifCond .ne 5, 3) := by decide +kernel
theorem dX10_readSegments_11 : decode cX10_readSegments 11 = .ok (.iconst (-1), 1) := by decide +kernel
theorem dX10_readSegments_12 : decode cX10_readSegments 12 = .ok (.ireturn, 1) := by decide +kernel
theorem dX10_readSegments_13 : decode cX10_readSegments 13 = .ok (.aload_n 0, 1) := by decide +kernel
theorem dX10_readSegments_14 : decode cX10_readSegments 14 = .ok (.getfield 18, 3) := by decide +kernel
theorem dX10_readSegments_17 : decode cX10_readSegments 17 = .ok (.invokevirtual 108, 3) := by decide +kernel
theorem dX10_readSegments_20 : decode cX10_readSegments 20 = .ok (.istore_n 2, 1) := by decide +kernel
theorem dX10_readSegments_21 : decode cX10_readSegments 21 = .ok (.iload_n 2, 1) := by decide +kernel
theorem dX10_readSegments_22 : decode cX10_readSegments 22 = .ok (.iconst (-1), 1) := by decide +kernel
theorem dX10_readSegments_23 : decode cX10_readSegments 23 = .ok (.if_icmp .eq 8, 3) := by decide +kernel
theorem dX10_readSegments_26 : decode cX10_readSegments 26 = .ok (.bipush (-100), 2) := by decide +kernel
theorem dX10_readSegments_28 : decode cX10_readSegments 28 = .ok (.iload_n 2, 1) := by decide +kernel
theorem dX10_readSegments_29 : decode cX10_readSegments 29 = .ok (.isub, 1) := by decide +kernel
theorem dX10_readSegments_30 : decode cX10_readSegments 30 = .ok (.ireturn, 1) := by decide +kernel
theorem dX10_readSegments_31 : decode cX10_readSegments 31 = .ok (.aload_n 0, 1) := by decide +kernel
theorem dX10_readSegments_32 : decode cX10_readSegments 32 = .ok (.getfield 29, 3) := by decide +kernel
theorem dX10_readSegments_35 : decode cX10_readSegments 35 = .ok (.getfield 111, 3) := by decide +kernel
theorem dX10_readSegments_38 : decode cX10_readSegments 38 = .ok (.iload_n 1, 1) := by decide +kernel
theorem dX10_readSegments_39 : decode cX10_readSegments 39 = .ok (.aaload, 1) := by decide +kernel
theorem dX10_readSegments_40 : decode cX10_readSegments 40 = .ok (.astore_n 3, 1) := by decide +kernel
theorem dX10_readSegments_41 : decode cX10_readSegments 41 = .ok (.aload_n 3, 1) := by decide +kernel
theorem dX10_readSegments_42 : decode cX10_readSegments 42 = .ok (.getfield 115, 3) := by decide +kernel
theorem dX10_readSegments_45 : decode cX10_readSegments 45 = .ok (.ifCond .eq 6, 3) := by decide +kernel
theorem dX10_readSegments_48 : decode cX10_readSegments 48 = .ok (.bipush (-4), 2) := by decide +kernel
theorem dX10_readSegments_50 : decode cX10_readSegments 50 = .ok (.ireturn, 1) := by decide +kernel
theorem dX10_readSegments_51 : decode cX10_readSegments 51 = .ok (.aload_n 3, 1) := by decide +kernel
theorem dX10_readSegments_52 : decode cX10_readSegments 52 = .ok (.getfield 120, 3) := by decide +kernel
theorem dX10_readSegments_55 : decode cX10_readSegments 55 = .ok (.aload_n 0, 1) := by decide +kernel
theorem dX10_readSegments_56 : decode cX10_readSegments 56 = .ok (.getfield 18, 3) := by decide +kernel
theorem dX10_readSegments_59 : decode cX10_readSegments 59 = .ok (.invokevirtual 123, 3) := by decide +kernel
theorem dX10_readSegments_62 : decode cX10_readSegments 62 = .ok (.iadd, 1) := by decide +kernel
theorem dX10_readSegments_63 : decode cX10_readSegments 63 = .ok (.bipush 12, 2) := by decide +kernel
theorem dX10_readSegments_65 : decode cX10_readSegments 65 = .ok (.if_icmp .le 6, 3) := by decide +kernel
theorem dX10_readSegments_68 : decode cX10_readSegments 68 = .ok (.bipush (-3), 2) := by decide +kernel
theorem dX10_readSegments_70 : decode cX10_readSegments 70 = .ok (.ireturn, 1) := by decide +kernel
theorem dX10_readSegments_71 : decode cX10_readSegments 71 = .ok (.aload_n 0, 1) := by decide +kernel
theorem dX10_readSegments_72 : decode cX10_readSegments 72 = .ok (.getfield 39, 3) := by decide +kernel
theorem dX10_readSegments_75 : decode cX10_readSegments 75 = .ok (.aload_n 0, 1) := by decide +kernel
theorem dX10_readSegments_76 : decode cX10_readSegments 76 = .ok (.getfield 29, 3) := by decide +kernel
theorem dX10_readSegments_79 : decode cX10_readSegments 79 = .ok (.invokevirtual 51, 3) := by decide +kernel
theorem dX10_readSegments_82 : decode cX10_readSegments 82 = .ok (.aload_n 0, 1) := by decide +kernel
theorem dX10_readSegments_83 : decode cX10_readSegments 83 = .ok (.getfield 18, 3) := by decide +kernel
theorem dX10_readSegments_86 : decode cX10_readSegments 86 = .ok (.aload_n 3, 1) := by decide +kernel
theorem dX10_readSegments_87 : decode cX10_readSegments 87 = .ok (.invokevirtual 126, 3) := by decide +kernel
theorem dX10_readSegments_90 : decode cX10_readSegments 90 = .ok (.aload_n 3, 1) := by decide +kernel
theorem dX10_readSegments_91 : decode cX10_readSegments 91 = .ok (.getfield 120, 3) := by decide +kernel
theorem dX10_readSegments_94 : decode cX10_readSegments 94 = .ok (.ireturn, 1) := by decide +kernel
theorem dX10_remember_0 : decode cX10_remember 0 = .ok (.aload_n 0, 1) := by decide +kernel
theorem dX10_remember_1 : decode cX10_remember 1 = .ok (.getfield 18, 3) := by decide +kernel
theorem dX10_remember_4 : decode cX10_remember 4 = .ok (.invokevirtual 108, 3) := by decide +kernel
theorem dX10_remember_7 : decode cX10_remember 7 = .ok (.istore_n 2, 1) := by decide +kernel
theorem dX10_remember_8 : decode cX10_remember 8 = .ok (.iload_n 2, 1) := by decide +kernel
theorem dX10_remember_9 : decode cX10_remember 9 = .ok (.iconst (-1), 1) := by decide +kernel
theorem dX10_remember_10 : decode cX10_remember 10 = .ok (.if_icmp .eq 8, 3) := by decide +kernel
theorem dX10_remember_13 : decode cX10_remember 13 = .ok (.bipush (-100), 2) := by decide +kernel
theorem dX10_remember_15 : decode cX10_remember 15 = .ok (.iload_n 2, 1) := by decide +kernel
theorem dX10_remember_16 : decode cX10_remember 16 = .ok (.isub, 1) := by decide +kernel
theorem dX10_remember_17 : decode cX10_remember 17 = .ok (.ireturn, 1) := by decide +kernel
theorem dX10_remember_18 : decode cX10_remember 18 = .ok (.iload_n 1, 1) := by decide +kernel
theorem dX10_remember_19 : decode cX10_remember 19 = .ok (.invokestatic 130, 3) := by decide +kernel
theorem dX10_remember_22 : decode cX10_remember 22 = .ok (.ifCond .eq 14, 3) := by decide +kernel
theorem dX10_remember_25 : decode cX10_remember 25 = .ok (.aload_n 0, 1) := by decide +kernel
theorem dX10_remember_26 : decode cX10_remember 26 = .ok (.getfield 18, 3) := by decide +kernel
theorem dX10_remember_29 : decode cX10_remember 29 = .ok (.invokevirtual 123, 3) := by decide +kernel
theorem dX10_remember_32 : decode cX10_remember 32 = .ok (.iconst 1, 1) := by decide +kernel
theorem dX10_remember_33 : decode cX10_remember 33 = .ok (.if_icmp .le 6, 3) := by decide +kernel
theorem dX10_remember_36 : decode cX10_remember 36 = .ok (.bipush (-2), 2) := by decide +kernel
theorem dX10_remember_38 : decode cX10_remember 38 = .ok (.ireturn, 1) := by decide +kernel
theorem dX10_remember_39 : decode cX10_remember 39 = .ok (.aload_n 0, 1) := by decide +kernel
theorem dX10_remember_40 : decode cX10_remember 40 = .ok (.getfield 18, 3) := by decide +kernel
theorem dX10_remember_43 : decode cX10_remember 43 = .ok (.invokevirtual 133, 3) := by decide +kernel
theorem dX10_remember_46 : decode cX10_remember 46 = .ok (.astore_n 3, 1) := by decide +kernel
theorem dX10_remember_47 : decode cX10_remember 47 = .ok (.aload_n 0, 1) := by decide +kernel
theorem dX10_remember_48 : decode cX10_remember 48 = .ok (.getfield 29, 3) := by decide +kernel
theorem dX10_remember_51 : decode cX10_remember 51 = .ok (.getfield 137, 3) := by decide +kernel
theorem dX10_remember_54 : decode cX10_remember 54 = .ok (.aload_n 3, 1) := by decide +kernel
theorem dX10_remember_55 : decode cX10_remember 55 = .ok (.invokevirtual 141, 3) := by decide +kernel
theorem dX10_remember_58 : decode cX10_remember 58 = .ok (.bipush (-5), 2) := by decide +kernel
theorem dX10_remember_60 : decode cX10_remember 60 = .ok (.if_icmp .eq 6, 3) := by decide +kernel
theorem dX10_remember_63 : decode cX10_remember 63 = .ok (.bipush (-4), 2) := by decide +kernel
theorem dX10_remember_65 : decode cX10_remember 65 = .ok (.ireturn, 1) := by decide +kernel
theorem dX10_remember_66 : decode cX10_remember 66 = .ok (.aload_n 0, 1) := by decide +kernel
theorem dX10_remember_67 : decode cX10_remember 67 = .ok (.getfield 29, 3) := by decide +kernel
theorem dX10_remember_70 : decode cX10_remember 70 = .ok (.getfield 137, 3) := by decide +kernel
theorem dX10_remember_73 : decode cX10_remember 73 = .ok (.getfield 147, 3) := by decide +kernel
theorem dX10_remember_76 : decode cX10_remember 76 = .ok (.bipush 40, 2) := by decide +kernel
theorem dX10_remember_78 : decode cX10_remember 78 = .ok (.if_icmp .lt 6, 3) := by decide +kernel
theorem dX10_remember_81 : decode cX10_remember 81 = .ok (.bipush (-3), 2) := by decide +kernel
theorem dX10_remember_83 : decode cX10_remember 83 = .ok (.ireturn, 1) := by decide +kernel
theorem dX10_remember_84 : decode cX10_remember 84 = .ok (.aload_n 0, 1) := by decide +kernel
theorem dX10_remember_85 : decode cX10_remember 85 = .ok (.getfield 39, 3) := by decide +kernel
theorem dX10_remember_88 : decode cX10_remember 88 = .ok (.aload_n 0, 1) := by decide +kernel
theorem dX10_remember_89 : decode cX10_remember 89 = .ok (.getfield 29, 3) := by decide +kernel
theorem dX10_remember_92 : decode cX10_remember 92 = .ok (.invokevirtual 51, 3) := by decide +kernel
theorem dX10_remember_95 : decode cX10_remember 95 = .ok (.aload_n 0, 1) := by decide +kernel
theorem dX10_remember_96 : decode cX10_remember 96 = .ok (.getfield 29, 3) := by decide +kernel
theorem dX10_remember_99 : decode cX10_remember 99 = .ok (.getfield 137, 3) := by decide +kernel
theorem dX10_remember_102 : decode cX10_remember 102 = .ok (.aload_n 3, 1) := by decide +kernel
theorem dX10_remember_103 : decode cX10_remember 103 = .ok (.iload_n 1, 1) := by decide +kernel
theorem dX10_remember_104 : decode cX10_remember 104 = .ok (.invokevirtual 150, 3) := by decide +kernel
theorem dX10_remember_107 : decode cX10_remember 107 = .ok (.ireturn, 1) := by decide +kernel
theorem dX10_swapFiles_0 : decode cX10_swapFiles 0 = .ok (.aload_n 0, 1) := by decide +kernel
theorem dX10_swapFiles_1 : decode cX10_swapFiles 1 = .ok (.getfield 29, 3) := by decide +kernel
theorem dX10_swapFiles_4 : decode cX10_swapFiles 4 = .ok (.iload_n 1, 1) := by decide +kernel
theorem dX10_swapFiles_5 : decode cX10_swapFiles 5 = .ok (.invokevirtual 105, 3) := by decide +kernel
theorem dX10_swapFiles_8 : decode cX10_swapFiles 8 = .ok (.ifCond .eq 14, 3) := by decide +kernel
theorem dX10_swapFiles_11 : decode cX10_swapFiles 11 = .ok (.aload_n 0, 1) := by decide +kernel
theorem dX10_swapFiles_12 : decode cX10_swapFiles 12 = .ok (.getfield 29, 3) := by decide +kernel
theorem dX10_swapFiles_15 : decode cX10_swapFiles 15 = .ok (.iload_n 2, 1) := by decide +kernel
theorem dX10_swapFiles_16 : decode cX10_swapFiles 16 = .ok (.invokevirtual 105, 3) := by decide +kernel
theorem dX10_swapFiles_19 : decode cX10_swapFiles 19 = .ok (.ifCond .ne 5, 3) := by decide +kernel
theorem dX10_swapFiles_22 : decode cX10_swapFiles 22 = .ok (.iconst (-1), 1) := by decide +kernel
theorem dX10_swapFiles_23 : decode cX10_swapFiles 23 = .ok (.ireturn, 1) := by decide +kernel
theorem dX10_swapFiles_24 : decode cX10_swapFiles 24 = .ok (.iload_n 1, 1) := by decide +kernel
theorem dX10_swapFiles_25 : decode cX10_swapFiles 25 = .ok (.iload_n 2, 1) := by decide +kernel
theorem dX10_swapFiles_26 : decode cX10_swapFiles 26 = .ok (.if_icmp .ne 6, 3) := by decide +kernel
theorem dX10_swapFiles_29 : decode cX10_swapFiles 29 = .ok (.bipush (-5), 2) := by decide +kernel
theorem dX10_swapFiles_31 : decode cX10_swapFiles 31 = .ok (.ireturn, 1) := by decide +kernel
theorem dX10_swapFiles_32 : decode cX10_swapFiles 32 = .ok (.aload_n 0, 1) := by decide +kernel
theorem dX10_swapFiles_33 : decode cX10_swapFiles 33 = .ok (.getfield 39, 3) := by decide +kernel
theorem dX10_swapFiles_36 : decode cX10_swapFiles 36 = .ok (.aload_n 0, 1) := by decide +kernel
theorem dX10_swapFiles_37 : decode cX10_swapFiles 37 = .ok (.getfield 29, 3) := by decide +kernel
theorem dX10_swapFiles_40 : decode cX10_swapFiles 40 = .ok (.invokevirtual 51, 3) := by decide +kernel
theorem dX10_swapFiles_43 : decode cX10_swapFiles 43 = .ok (.aload_n 0, 1) := by decide +kernel
theorem dX10_swapFiles_44 : decode cX10_swapFiles 44 = .ok (.getfield 29, 3) := by decide +kernel
theorem dX10_swapFiles_47 : decode cX10_swapFiles 47 = .ok (.iload_n 1, 1) := by decide +kernel
theorem dX10_swapFiles_48 : decode cX10_swapFiles 48 = .ok (.iload_n 2, 1) := by decide +kernel
theorem dX10_swapFiles_49 : decode cX10_swapFiles 49 = .ok (.invokevirtual 154, 3) := by decide +kernel
theorem dX10_swapFiles_52 : decode cX10_swapFiles 52 = .ok (.aload_n 0, 1) := by decide +kernel
theorem dX10_swapFiles_53 : decode cX10_swapFiles 53 = .ok (.getfield 29, 3) := by decide +kernel
theorem dX10_swapFiles_56 : decode cX10_swapFiles 56 = .ok (.iload_n 1, 1) := by decide +kernel
theorem dX10_swapFiles_57 : decode cX10_swapFiles 57 = .ok (.invokevirtual 158, 3) := by decide +kernel
theorem dX10_swapFiles_60 : decode cX10_swapFiles 60 = .ok (.ireturn, 1) := by decide +kernel
theorem dX10_withdraw_0 : decode cX10_withdraw 0 = .ok (.aload_n 0, 1) := by decide +kernel
theorem dX10_withdraw_1 : decode cX10_withdraw 1 = .ok (.getfield 29, 3) := by decide +kernel
theorem dX10_withdraw_4 : decode cX10_withdraw 4 = .ok (.iload_n 1, 1) := by decide +kernel
theorem dX10_withdraw_5 : decode cX10_withdraw 5 = .ok (.invokevirtual 105, 3) := by decide +kernel
theorem dX10_withdraw_8 : decode cX10_withdraw 8 = .ok (.ifCond .ne 5, 3) := by decide +kernel
theorem dX10_withdraw_11 : decode cX10_withdraw 11 = .ok (.iconst (-1), 1) := by decide +kernel
theorem dX10_withdraw_12 : decode cX10_withdraw 12 = .ok (.ireturn, 1) := by decide +kernel
theorem dX10_withdraw_13 : decode cX10_withdraw 13 = .ok (.aload_n 0, 1) := by decide +kernel
theorem dX10_withdraw_14 : decode cX10_withdraw 14 = .ok (.getfield 29, 3) := by decide +kernel
theorem dX10_withdraw_17 : decode cX10_withdraw 17 = .ok (.getfield 111, 3) := by decide +kernel
theorem dX10_withdraw_20 : decode cX10_withdraw 20 = .ok (.iload_n 1, 1) := by decide +kernel
theorem dX10_withdraw_21 : decode cX10_withdraw 21 = .ok (.aaload, 1) := by decide +kernel
theorem dX10_withdraw_22 : decode cX10_withdraw 22 = .ok (.astore_n 2, 1) := by decide +kernel
theorem dX10_withdraw_23 : decode cX10_withdraw 23 = .ok (.aload_n 2, 1) := by decide +kernel
theorem dX10_withdraw_24 : decode cX10_withdraw 24 = .ok (.invokevirtual 161, 3) := by decide +kernel
theorem dX10_withdraw_27 : decode cX10_withdraw 27 = .ok (.ifCond .ne 6, 3) := by decide +kernel
theorem dX10_withdraw_30 : decode cX10_withdraw 30 = .ok (.bipush (-4), 2) := by decide +kernel
theorem dX10_withdraw_32 : decode cX10_withdraw 32 = .ok (.ireturn, 1) := by decide +kernel
theorem dX10_withdraw_33 : decode cX10_withdraw 33 = .ok (.aload_n 0, 1) := by decide +kernel
theorem dX10_withdraw_34 : decode cX10_withdraw 34 = .ok (.getfield 39, 3) := by decide +kernel
theorem dX10_withdraw_37 : decode cX10_withdraw 37 = .ok (.aload_n 0, 1) := by decide +kernel
theorem dX10_withdraw_38 : decode cX10_withdraw 38 = .ok (.getfield 29, 3) := by decide +kernel
theorem dX10_withdraw_41 : decode cX10_withdraw 41 = .ok (.invokevirtual 51, 3) := by decide +kernel
theorem dX10_withdraw_44 : decode cX10_withdraw 44 = .ok (.aload_n 2, 1) := by decide +kernel
theorem dX10_withdraw_45 : decode cX10_withdraw 45 = .ok (.iconst 4, 1) := by decide +kernel
theorem dX10_withdraw_46 : decode cX10_withdraw 46 = .ok (.putfield 115, 3) := by decide +kernel
theorem dX10_withdraw_49 : decode cX10_withdraw 49 = .ok (.aload_n 2, 1) := by decide +kernel
theorem dX10_withdraw_50 : decode cX10_withdraw 50 = .ok (.bipush (-5), 2) := by decide +kernel
theorem dX10_withdraw_52 : decode cX10_withdraw 52 = .ok (.putfield 165, 3) := by decide +kernel
theorem dX10_withdraw_55 : decode cX10_withdraw 55 = .ok (.aload_n 2, 1) := by decide +kernel
theorem dX10_withdraw_56 : decode cX10_withdraw 56 = .ok (.getfield 120, 3) := by decide +kernel
theorem dX10_withdraw_59 : decode cX10_withdraw 59 = .ok (.aload_n 2, 1) := by decide +kernel
theorem dX10_withdraw_60 : decode cX10_withdraw 60 = .ok (.invokevirtual 168, 3) := by decide +kernel
theorem dX10_withdraw_63 : decode cX10_withdraw 63 = .ok (.isub, 1) := by decide +kernel
theorem dX10_withdraw_64 : decode cX10_withdraw 64 = .ok (.ireturn, 1) := by decide +kernel
theorem dX10_take_0 : decode cX10_take 0 = .ok (.aload_n 0, 1) := by decide +kernel
theorem dX10_take_1 : decode cX10_take 1 = .ok (.getfield 29, 3) := by decide +kernel
theorem dX10_take_4 : decode cX10_take 4 = .ok (.iload_n 1, 1) := by decide +kernel
theorem dX10_take_5 : decode cX10_take 5 = .ok (.invokevirtual 105, 3) := by decide +kernel
theorem dX10_take_8 : decode cX10_take 8 = .ok (.ifCond .eq 14, 3) := by decide +kernel
theorem dX10_take_11 : decode cX10_take 11 = .ok (.aload_n 0, 1) := by decide +kernel
theorem dX10_take_12 : decode cX10_take 12 = .ok (.getfield 29, 3) := by decide +kernel
theorem dX10_take_15 : decode cX10_take 15 = .ok (.iload_n 2, 1) := by decide +kernel
theorem dX10_take_16 : decode cX10_take 16 = .ok (.invokevirtual 59, 3) := by decide +kernel
theorem dX10_take_19 : decode cX10_take 19 = .ok (.ifCond .ne 5, 3) := by decide +kernel
theorem dX10_take_22 : decode cX10_take 22 = .ok (.iconst (-1), 1) := by decide +kernel
theorem dX10_take_23 : decode cX10_take 23 = .ok (.ireturn, 1) := by decide +kernel
theorem dX10_take_24 : decode cX10_take 24 = .ok (.aload_n 0, 1) := by decide +kernel
theorem dX10_take_25 : decode cX10_take 25 = .ok (.getfield 29, 3) := by decide +kernel
theorem dX10_take_28 : decode cX10_take 28 = .ok (.getfield 111, 3) := by decide +kernel
theorem dX10_take_31 : decode cX10_take 31 = .ok (.iload_n 1, 1) := by decide +kernel
theorem dX10_take_32 : decode cX10_take 32 = .ok (.aaload, 1) := by decide +kernel
theorem dX10_take_33 : decode cX10_take 33 = .ok (.astore_n 3, 1) := by decide +kernel
theorem dX10_take_34 : decode cX10_take 34 = .ok (.aload_n 3, 1) := by decide +kernel
theorem dX10_take_35 : decode cX10_take 35 = .ok (.getfield 115, 3) := by decide +kernel
theorem dX10_take_38 : decode cX10_take 38 = .ok (.ifCond .ne 10, 3) := by decide +kernel
theorem dX10_take_41 : decode cX10_take 41 = .ok (.aload_n 3, 1) := by decide +kernel
theorem dX10_take_42 : decode cX10_take 42 = .ok (.getfield 120, 3) := by decide +kernel
theorem dX10_take_45 : decode cX10_take 45 = .ok (.ifCond .ne 6, 3) := by decide +kernel
theorem dX10_take_48 : decode cX10_take 48 = .ok (.bipush (-4), 2) := by decide +kernel
theorem dX10_take_50 : decode cX10_take 50 = .ok (.ireturn, 1) := by decide +kernel
theorem dX10_take_51 : decode cX10_take 51 = .ok (.aload_n 0, 1) := by decide +kernel
theorem dX10_take_52 : decode cX10_take 52 = .ok (.getfield 39, 3) := by decide +kernel
theorem dX10_take_55 : decode cX10_take 55 = .ok (.aload_n 0, 1) := by decide +kernel
theorem dX10_take_56 : decode cX10_take 56 = .ok (.getfield 29, 3) := by decide +kernel
theorem dX10_take_59 : decode cX10_take 59 = .ok (.invokevirtual 51, 3) := by decide +kernel
theorem dX10_take_62 : decode cX10_take 62 = .ok (.aload_n 3, 1) := by decide +kernel
theorem dX10_take_63 : decode cX10_take 63 = .ok (.aload_n 0, 1) := by decide +kernel
theorem dX10_take_64 : decode cX10_take 64 = .ok (.getfield 29, 3) := by decide +kernel
theorem dX10_take_67 : decode cX10_take 67 = .ok (.iload_n 1, 1) := by decide +kernel
theorem dX10_take_68 : decode cX10_take 68 = .ok (.aload_n 0, 1) := by decide +kernel
theorem dX10_take_69 : decode cX10_take 69 = .ok (.getfield 29, 3) := by decide +kernel
theorem dX10_take_72 : decode cX10_take 72 = .ok (.getfield 63, 3) := by decide +kernel
theorem dX10_take_75 : decode cX10_take 75 = .ok (.iload_n 2, 1) := by decide +kernel
theorem dX10_take_76 : decode cX10_take 76 = .ok (.aaload, 1) := by decide +kernel
theorem dX10_take_77 : decode cX10_take 77 = .ok (.getfield 171, 3) := by decide +kernel
theorem dX10_take_80 : decode cX10_take 80 = .ok (.invokevirtual 174, 3) := by decide +kernel
theorem dX10_take_83 : decode cX10_take 83 = .ok (.putfield 165, 3) := by decide +kernel
theorem dX10_take_86 : decode cX10_take 86 = .ok (.aload_n 3, 1) := by decide +kernel
theorem dX10_take_87 : decode cX10_take 87 = .ok (.iconst 1, 1) := by decide +kernel
theorem dX10_take_88 : decode cX10_take 88 = .ok (.putfield 115, 3) := by decide +kernel
theorem dX10_take_91 : decode cX10_take 91 = .ok (.aload_n 3, 1) := by decide +kernel
theorem dX10_take_92 : decode cX10_take 92 = .ok (.iload_n 2, 1) := by decide +kernel
theorem dX10_take_93 : decode cX10_take 93 = .ok (.putfield 178, 3) := by decide +kernel
theorem dX10_take_96 : decode cX10_take 96 = .ok (.aload_n 0, 1) := by decide +kernel
theorem dX10_take_97 : decode cX10_take 97 = .ok (.getfield 29, 3) := by decide +kernel
theorem dX10_take_100 : decode cX10_take 100 = .ok (.getfield 137, 3) := by decide +kernel
theorem dX10_take_103 : decode cX10_take 103 = .ok (.aload_n 3, 1) := by decide +kernel
theorem dX10_take_104 : decode cX10_take 104 = .ok (.invokevirtual 181, 3) := by decide +kernel
theorem dX10_take_107 : decode cX10_take 107 = .ok (.aload_n 3, 1) := by decide +kernel
theorem dX10_take_108 : decode cX10_take 108 = .ok (.getfield 165, 3) := by decide +kernel
theorem dX10_take_111 : decode cX10_take 111 = .ok (.ireturn, 1) := by decide +kernel
theorem dX10_translate_0 : decode cX10_translate 0 = .ok (.aload_n 0, 1) := by decide +kernel
theorem dX10_translate_1 : decode cX10_translate 1 = .ok (.getfield 29, 3) := by decide +kernel
theorem dX10_translate_4 : decode cX10_translate 4 = .ok (.iload_n 1, 1) := by decide +kernel
theorem dX10_translate_5 : decode cX10_translate 5 = .ok (.iload_n 2, 1) := by decide +kernel
theorem dX10_translate_6 : decode cX10_translate 6 = .ok (.invokevirtual 184, 3) := by decide +kernel
theorem dX10_translate_9 : decode cX10_translate 9 = .ok (.ifCond .ne 5, 3) := by decide +kernel
theorem dX10_translate_12 : decode cX10_translate 12 = .ok (.iconst (-1), 1) := by decide +kernel
theorem dX10_translate_13 : decode cX10_translate 13 = .ok (.ireturn, 1) := by decide +kernel
theorem dX10_translate_14 : decode cX10_translate 14 = .ok (.iload_n 3, 1) := by decide +kernel
theorem dX10_translate_15 : decode cX10_translate 15 = .ok (.invokestatic 130, 3) := by decide +kernel
theorem dX10_translate_18 : decode cX10_translate 18 = .ok (.ifCond .ne 6, 3) := by decide +kernel
theorem dX10_translate_21 : decode cX10_translate 21 = .ok (.bipush (-2), 2) := by decide +kernel
theorem dX10_translate_23 : decode cX10_translate 23 = .ok (.ireturn, 1) := by decide +kernel
theorem dX10_translate_24 : decode cX10_translate 24 = .ok (.aload_n 0, 1) := by decide +kernel
theorem dX10_translate_25 : decode cX10_translate 25 = .ok (.getfield 29, 3) := by decide +kernel
theorem dX10_translate_28 : decode cX10_translate 28 = .ok (.getfield 111, 3) := by decide +kernel
theorem dX10_translate_31 : decode cX10_translate 31 = .ok (.iload_n 1, 1) := by decide +kernel
theorem dX10_translate_32 : decode cX10_translate 32 = .ok (.aaload, 1) := by decide +kernel
theorem dX10_translate_33 : decode cX10_translate 33 = .ok (.astore 4, 2) := by decide +kernel
theorem dX10_translate_35 : decode cX10_translate 35 = .ok (.aload 4, 2) := by decide +kernel
theorem dX10_translate_37 : decode cX10_translate 37 = .ok (.getfield 188, 3) := by decide +kernel
theorem dX10_translate_40 : decode cX10_translate 40 = .ok (.iload_n 2, 1) := by decide +kernel
theorem dX10_translate_41 : decode cX10_translate 41 = .ok (.aaload, 1) := by decide +kernel
theorem dX10_translate_42 : decode cX10_translate 42 = .ok (.astore 5, 2) := by decide +kernel
theorem dX10_translate_44 : decode cX10_translate 44 = .ok (.aload 4, 2) := by decide +kernel
theorem dX10_translate_46 : decode cX10_translate 46 = .ok (.getfield 115, 3) := by decide +kernel
theorem dX10_translate_49 : decode cX10_translate 49 = .ok (.iconst 1, 1) := by decide +kernel
theorem dX10_translate_50 : decode cX10_translate 50 = .ok (.if_icmp .ne 19, 3) := by decide +kernel
theorem dX10_translate_53 : decode cX10_translate 53 = .ok (.aload_n 0, 1) := by decide +kernel
theorem dX10_translate_54 : decode cX10_translate 54 = .ok (.getfield 29, 3) := by decide +kernel
theorem dX10_translate_57 : decode cX10_translate 57 = .ok (.getfield 137, 3) := by decide +kernel
theorem dX10_translate_60 : decode cX10_translate 60 = .ok (.aload 5, 2) := by decide +kernel
theorem dX10_translate_62 : decode cX10_translate 62 = .ok (.iload_n 3, 1) := by decide +kernel
theorem dX10_translate_63 : decode cX10_translate 63 = .ok (.invokevirtual 192, 3) := by decide +kernel
theorem dX10_translate_66 : decode cX10_translate 66 = .ok (.ifCond .eq 6, 3) := by decide +kernel
theorem dX10_translate_69 : decode cX10_translate 69 = .ok (.bipush (-4), 2) := by decide +kernel
theorem dX10_translate_71 : decode cX10_translate 71 = .ok (.ireturn, 1) := by decide +kernel
theorem dX10_translate_72 : decode cX10_translate 72 = .ok (.aload_n 0, 1) := by decide +kernel
theorem dX10_translate_73 : decode cX10_translate 73 = .ok (.getfield 29, 3) := by decide +kernel
theorem dX10_translate_76 : decode cX10_translate 76 = .ok (.getfield 137, 3) := by decide +kernel
theorem dX10_translate_79 : decode cX10_translate 79 = .ok (.aload 5, 2) := by decide +kernel
theorem dX10_translate_81 : decode cX10_translate 81 = .ok (.iload_n 3, 1) := by decide +kernel
theorem dX10_translate_82 : decode cX10_translate 82 = .ok (.invokevirtual 196, 3) := by decide +kernel
theorem dX10_translate_85 : decode cX10_translate 85 = .ok (.ifCond .ne 6, 3) := by decide +kernel
theorem dX10_translate_88 : decode cX10_translate 88 = .ok (.bipush (-3), 2) := by decide +kernel
theorem dX10_translate_90 : decode cX10_translate 90 = .ok (.ireturn, 1) := by decide +kernel
theorem dX10_translate_91 : decode cX10_translate 91 = .ok (.aload 4, 2) := by decide +kernel
theorem dX10_translate_93 : decode cX10_translate 93 = .ok (.getfield 199, 3) := by decide +kernel
theorem dX10_translate_96 : decode cX10_translate 96 = .ok (.iload_n 2, 1) := by decide +kernel
theorem dX10_translate_97 : decode cX10_translate 97 = .ok (.iaload, 1) := by decide +kernel
theorem dX10_translate_98 : decode cX10_translate 98 = .ok (.iload_n 3, 1) := by decide +kernel
theorem dX10_translate_99 : decode cX10_translate 99 = .ok (.if_icmp .ne 6, 3) := by decide +kernel
theorem dX10_translate_102 : decode cX10_translate 102 = .ok (.bipush (-5), 2) := by decide +kernel
theorem dX10_translate_104 : decode cX10_translate 104 = .ok (.ireturn, 1) := by decide +kernel
theorem dX10_translate_105 : decode cX10_translate 105 = .ok (.aload_n 0, 1) := by decide +kernel
theorem dX10_translate_106 : decode cX10_translate 106 = .ok (.getfield 39, 3) := by decide +kernel
theorem dX10_translate_109 : decode cX10_translate 109 = .ok (.aload_n 0, 1) := by decide +kernel
theorem dX10_translate_110 : decode cX10_translate 110 = .ok (.getfield 29, 3) := by decide +kernel
theorem dX10_translate_113 : decode cX10_translate 113 = .ok (.invokevirtual 51, 3) := by decide +kernel
theorem dX10_translate_116 : decode cX10_translate 116 = .ok (.aload 4, 2) := by decide +kernel
theorem dX10_translate_118 : decode cX10_translate 118 = .ok (.iload_n 2, 1) := by decide +kernel
theorem dX10_translate_119 : decode cX10_translate 119 = .ok (.iload_n 3, 1) := by decide +kernel
theorem dX10_translate_120 : decode cX10_translate 120 = .ok (.iconst 1, 1) := by decide +kernel
theorem dX10_translate_121 : decode cX10_translate 121 = .ok (.invokevirtual 202, 3) := by decide +kernel
theorem dX10_translate_124 : decode cX10_translate 124 = .ok (.aload_n 0, 1) := by decide +kernel
theorem dX10_translate_125 : decode cX10_translate 125 = .ok (.getfield 29, 3) := by decide +kernel
theorem dX10_translate_128 : decode cX10_translate 128 = .ok (.getfield 137, 3) := by decide +kernel
theorem dX10_translate_131 : decode cX10_translate 131 = .ok (.aload 5, 2) := by decide +kernel
theorem dX10_translate_133 : decode cX10_translate 133 = .ok (.iload_n 3, 1) := by decide +kernel
theorem dX10_translate_134 : decode cX10_translate 134 = .ok (.invokevirtual 206, 3) := by decide +kernel
theorem dX10_translate_137 : decode cX10_translate 137 = .ok (.iconst 1, 1) := by decide +kernel
theorem dX10_translate_138 : decode cX10_translate 138 = .ok (.aload_n 0, 1) := by decide +kernel
theorem dX10_translate_139 : decode cX10_translate 139 = .ok (.getfield 29, 3) := by decide +kernel
theorem dX10_translate_142 : decode cX10_translate 142 = .ok (.aload 5, 2) := by decide +kernel
theorem dX10_translate_144 : decode cX10_translate 144 = .ok (.iload_n 3, 1) := by decide +kernel
theorem dX10_translate_145 : decode cX10_translate 145 = .ok (.invokevirtual 210, 3) := by decide +kernel
theorem dX10_translate_148 : decode cX10_translate 148 = .ok (.iadd, 1) := by decide +kernel
theorem dX10_translate_149 : decode cX10_translate 149 = .ok (.ireturn, 1) := by decide +kernel
theorem dX10_review_0 : decode cX10_review 0 = .ok (.aload_n 0, 1) := by decide +kernel
theorem dX10_review_1 : decode cX10_review 1 = .ok (.getfield 29, 3) := by decide +kernel
theorem dX10_review_4 : decode cX10_review 4 = .ok (.iload_n 1, 1) := by decide +kernel
theorem dX10_review_5 : decode cX10_review 5 = .ok (.invokevirtual 105, 3) := by decide +kernel
theorem dX10_review_8 : decode cX10_review 8 = .ok (.ifCond .eq 14, 3) := by decide +kernel
theorem dX10_review_11 : decode cX10_review 11 = .ok (.aload_n 0, 1) := by decide +kernel
theorem dX10_review_12 : decode cX10_review 12 = .ok (.getfield 29, 3) := by decide +kernel
theorem dX10_review_15 : decode cX10_review 15 = .ok (.iload_n 2, 1) := by decide +kernel
theorem dX10_review_16 : decode cX10_review 16 = .ok (.invokevirtual 59, 3) := by decide +kernel
theorem dX10_review_19 : decode cX10_review 19 = .ok (.ifCond .ne 5, 3) := by decide +kernel
theorem dX10_review_22 : decode cX10_review 22 = .ok (.iconst (-1), 1) := by decide +kernel
theorem dX10_review_23 : decode cX10_review 23 = .ok (.ireturn, 1) := by decide +kernel
theorem dX10_review_24 : decode cX10_review 24 = .ok (.aload_n 0, 1) := by decide +kernel
theorem dX10_review_25 : decode cX10_review 25 = .ok (.getfield 29, 3) := by decide +kernel
theorem dX10_review_28 : decode cX10_review 28 = .ok (.iload_n 1, 1) := by decide +kernel
theorem dX10_review_29 : decode cX10_review 29 = .ok (.iload_n 2, 1) := by decide +kernel
theorem dX10_review_30 : decode cX10_review 30 = .ok (.invokevirtual 213, 3) := by decide +kernel
theorem dX10_review_33 : decode cX10_review 33 = .ok (.ifCond .eq 14, 3) := by decide +kernel
theorem dX10_review_36 : decode cX10_review 36 = .ok (.aload_n 0, 1) := by decide +kernel
theorem dX10_review_37 : decode cX10_review 37 = .ok (.getfield 29, 3) := by decide +kernel
theorem dX10_review_40 : decode cX10_review 40 = .ok (.iload_n 1, 1) := by decide +kernel
theorem dX10_review_41 : decode cX10_review 41 = .ok (.invokevirtual 216, 3) := by decide +kernel
theorem dX10_review_44 : decode cX10_review 44 = .ok (.ifCond .ne 6, 3) := by decide +kernel
theorem dX10_review_47 : decode cX10_review 47 = .ok (.bipush (-4), 2) := by decide +kernel
theorem dX10_review_49 : decode cX10_review 49 = .ok (.ireturn, 1) := by decide +kernel
theorem dX10_review_50 : decode cX10_review 50 = .ok (.aload_n 0, 1) := by decide +kernel
theorem dX10_review_51 : decode cX10_review 51 = .ok (.getfield 39, 3) := by decide +kernel
theorem dX10_review_54 : decode cX10_review 54 = .ok (.aload_n 0, 1) := by decide +kernel
theorem dX10_review_55 : decode cX10_review 55 = .ok (.getfield 29, 3) := by decide +kernel
theorem dX10_review_58 : decode cX10_review 58 = .ok (.invokevirtual 51, 3) := by decide +kernel
theorem dX10_review_61 : decode cX10_review 61 = .ok (.aload_n 0, 1) := by decide +kernel
theorem dX10_review_62 : decode cX10_review 62 = .ok (.getfield 29, 3) := by decide +kernel
theorem dX10_review_65 : decode cX10_review 65 = .ok (.iload_n 1, 1) := by decide +kernel
theorem dX10_review_66 : decode cX10_review 66 = .ok (.iload_n 2, 1) := by decide +kernel
theorem dX10_review_67 : decode cX10_review 67 = .ok (.invokevirtual 219, 3) := by decide +kernel
theorem dX10_review_70 : decode cX10_review 70 = .ok (.aload_n 0, 1) := by decide +kernel
theorem dX10_review_71 : decode cX10_review 71 = .ok (.getfield 29, 3) := by decide +kernel
theorem dX10_review_74 : decode cX10_review 74 = .ok (.getfield 111, 3) := by decide +kernel
theorem dX10_review_77 : decode cX10_review 77 = .ok (.iload_n 1, 1) := by decide +kernel
theorem dX10_review_78 : decode cX10_review 78 = .ok (.aaload, 1) := by decide +kernel
theorem dX10_review_79 : decode cX10_review 79 = .ok (.iconst 1, 1) := by decide +kernel
theorem dX10_review_80 : decode cX10_review 80 = .ok (.invokevirtual 222, 3) := by decide +kernel
theorem dX10_review_83 : decode cX10_review 83 = .ok (.ireturn, 1) := by decide +kernel
theorem dX10_reject_0 : decode cX10_reject 0 = .ok (.aload_n 0, 1) := by decide +kernel
theorem dX10_reject_1 : decode cX10_reject 1 = .ok (.getfield 29, 3) := by decide +kernel
theorem dX10_reject_4 : decode cX10_reject 4 = .ok (.iload_n 1, 1) := by decide +kernel
theorem dX10_reject_5 : decode cX10_reject 5 = .ok (.iload_n 2, 1) := by decide +kernel
theorem dX10_reject_6 : decode cX10_reject 6 = .ok (.invokevirtual 184, 3) := by decide +kernel
theorem dX10_reject_9 : decode cX10_reject 9 = .ok (.ifCond .ne 5, 3) := by decide +kernel
theorem dX10_reject_12 : decode cX10_reject 12 = .ok (.iconst (-1), 1) := by decide +kernel
theorem dX10_reject_13 : decode cX10_reject 13 = .ok (.ireturn, 1) := by decide +kernel
theorem dX10_reject_14 : decode cX10_reject 14 = .ok (.aload_n 0, 1) := by decide +kernel
theorem dX10_reject_15 : decode cX10_reject 15 = .ok (.getfield 29, 3) := by decide +kernel
theorem dX10_reject_18 : decode cX10_reject 18 = .ok (.getfield 111, 3) := by decide +kernel
theorem dX10_reject_21 : decode cX10_reject 21 = .ok (.iload_n 1, 1) := by decide +kernel
theorem dX10_reject_22 : decode cX10_reject 22 = .ok (.aaload, 1) := by decide +kernel
theorem dX10_reject_23 : decode cX10_reject 23 = .ok (.astore_n 3, 1) := by decide +kernel
theorem dX10_reject_24 : decode cX10_reject 24 = .ok (.aload_n 3, 1) := by decide +kernel
theorem dX10_reject_25 : decode cX10_reject 25 = .ok (.getfield 115, 3) := by decide +kernel
theorem dX10_reject_28 : decode cX10_reject 28 = .ok (.iconst 2, 1) := by decide +kernel
theorem dX10_reject_29 : decode cX10_reject 29 = .ok (.if_icmp .eq 6, 3) := by decide +kernel
theorem dX10_reject_32 : decode cX10_reject 32 = .ok (.bipush (-4), 2) := by decide +kernel
theorem dX10_reject_34 : decode cX10_reject 34 = .ok (.ireturn, 1) := by decide +kernel
theorem dX10_reject_35 : decode cX10_reject 35 = .ok (.aload_n 0, 1) := by decide +kernel
theorem dX10_reject_36 : decode cX10_reject 36 = .ok (.getfield 39, 3) := by decide +kernel
theorem dX10_reject_39 : decode cX10_reject 39 = .ok (.aload_n 0, 1) := by decide +kernel
theorem dX10_reject_40 : decode cX10_reject 40 = .ok (.getfield 29, 3) := by decide +kernel
theorem dX10_reject_43 : decode cX10_reject 43 = .ok (.invokevirtual 51, 3) := by decide +kernel
theorem dX10_reject_46 : decode cX10_reject 46 = .ok (.aload_n 3, 1) := by decide +kernel
theorem dX10_reject_47 : decode cX10_reject 47 = .ok (.iload_n 2, 1) := by decide +kernel
theorem dX10_reject_48 : decode cX10_reject 48 = .ok (.iconst 0, 1) := by decide +kernel
theorem dX10_reject_49 : decode cX10_reject 49 = .ok (.iconst 0, 1) := by decide +kernel
theorem dX10_reject_50 : decode cX10_reject 50 = .ok (.invokevirtual 202, 3) := by decide +kernel
theorem dX10_reject_53 : decode cX10_reject 53 = .ok (.aload_n 3, 1) := by decide +kernel
theorem dX10_reject_54 : decode cX10_reject 54 = .ok (.iconst 1, 1) := by decide +kernel
theorem dX10_reject_55 : decode cX10_reject 55 = .ok (.putfield 115, 3) := by decide +kernel
theorem dX10_reject_58 : decode cX10_reject 58 = .ok (.aload_n 3, 1) := by decide +kernel
theorem dX10_reject_59 : decode cX10_reject 59 = .ok (.bipush (-5), 2) := by decide +kernel
theorem dX10_reject_61 : decode cX10_reject 61 = .ok (.putfield 225, 3) := by decide +kernel
theorem dX10_reject_64 : decode cX10_reject 64 = .ok (.aload_n 3, 1) := by decide +kernel
theorem dX10_reject_65 : decode cX10_reject 65 = .ok (.dup, 1) := by decide +kernel
theorem dX10_reject_66 : decode cX10_reject 66 = .ok (.getfield 228, 3) := by decide +kernel
theorem dX10_reject_69 : decode cX10_reject 69 = .ok (.iconst 1, 1) := by decide +kernel
theorem dX10_reject_70 : decode cX10_reject 70 = .ok (.iadd, 1) := by decide +kernel
theorem dX10_reject_71 : decode cX10_reject 71 = .ok (.putfield 228, 3) := by decide +kernel
theorem dX10_reject_74 : decode cX10_reject 74 = .ok (.aload_n 3, 1) := by decide +kernel
theorem dX10_reject_75 : decode cX10_reject 75 = .ok (.getfield 228, 3) := by decide +kernel
theorem dX10_reject_78 : decode cX10_reject 78 = .ok (.ireturn, 1) := by decide +kernel
theorem dX10_deliver_0 : decode cX10_deliver 0 = .ok (.aload_n 0, 1) := by decide +kernel
theorem dX10_deliver_1 : decode cX10_deliver 1 = .ok (.getfield 29, 3) := by decide +kernel
theorem dX10_deliver_4 : decode cX10_deliver 4 = .ok (.iload_n 1, 1) := by decide +kernel
theorem dX10_deliver_5 : decode cX10_deliver 5 = .ok (.invokevirtual 105, 3) := by decide +kernel
theorem dX10_deliver_8 : decode cX10_deliver 8 = .ok (.ifCond .ne 5, 3) := by decide +kernel
theorem dX10_deliver_11 : decode cX10_deliver 11 = .ok (.iconst (-1), 1) := by decide +kernel
theorem dX10_deliver_12 : decode cX10_deliver 12 = .ok (.ireturn, 1) := by decide +kernel
theorem dX10_deliver_13 : decode cX10_deliver 13 = .ok (.aload_n 0, 1) := by decide +kernel
theorem dX10_deliver_14 : decode cX10_deliver 14 = .ok (.getfield 29, 3) := by decide +kernel
theorem dX10_deliver_17 : decode cX10_deliver 17 = .ok (.getfield 111, 3) := by decide +kernel
theorem dX10_deliver_20 : decode cX10_deliver 20 = .ok (.iload_n 1, 1) := by decide +kernel
theorem dX10_deliver_21 : decode cX10_deliver 21 = .ok (.aaload, 1) := by decide +kernel
theorem dX10_deliver_22 : decode cX10_deliver 22 = .ok (.astore_n 2, 1) := by decide +kernel
theorem dX10_deliver_23 : decode cX10_deliver 23 = .ok (.aload_n 2, 1) := by decide +kernel
theorem dX10_deliver_24 : decode cX10_deliver 24 = .ok (.getfield 115, 3) := by decide +kernel
theorem dX10_deliver_27 : decode cX10_deliver 27 = .ok (.iconst 2, 1) := by decide +kernel
theorem dX10_deliver_28 : decode cX10_deliver 28 = .ok (.if_icmp .eq 6, 3) := by decide +kernel
theorem dX10_deliver_31 : decode cX10_deliver 31 = .ok (.bipush (-4), 2) := by decide +kernel
theorem dX10_deliver_33 : decode cX10_deliver 33 = .ok (.ireturn, 1) := by decide +kernel
theorem dX10_deliver_34 : decode cX10_deliver 34 = .ok (.aload_n 0, 1) := by decide +kernel
theorem dX10_deliver_35 : decode cX10_deliver 35 = .ok (.getfield 39, 3) := by decide +kernel
theorem dX10_deliver_38 : decode cX10_deliver 38 = .ok (.aload_n 0, 1) := by decide +kernel
theorem dX10_deliver_39 : decode cX10_deliver 39 = .ok (.getfield 29, 3) := by decide +kernel
theorem dX10_deliver_42 : decode cX10_deliver 42 = .ok (.invokevirtual 51, 3) := by decide +kernel
theorem dX10_deliver_45 : decode cX10_deliver 45 = .ok (.aload_n 2, 1) := by decide +kernel
theorem dX10_deliver_46 : decode cX10_deliver 46 = .ok (.iconst 3, 1) := by decide +kernel
theorem dX10_deliver_47 : decode cX10_deliver 47 = .ok (.putfield 115, 3) := by decide +kernel
theorem dX10_deliver_50 : decode cX10_deliver 50 = .ok (.aload_n 2, 1) := by decide +kernel
theorem dX10_deliver_51 : decode cX10_deliver 51 = .ok (.invokevirtual 231, 3) := by decide +kernel
theorem dX10_deliver_54 : decode cX10_deliver 54 = .ok (.ireturn, 1) := by decide +kernel
theorem dX10_settle_0 : decode cX10_settle 0 = .ok (.aload_n 0, 1) := by decide +kernel
theorem dX10_settle_1 : decode cX10_settle 1 = .ok (.getfield 29, 3) := by decide +kernel
theorem dX10_settle_4 : decode cX10_settle 4 = .ok (.getfield 137, 3) := by decide +kernel
theorem dX10_settle_7 : decode cX10_settle 7 = .ok (.iload_n 1, 1) := by decide +kernel
theorem dX10_settle_8 : decode cX10_settle 8 = .ok (.invokevirtual 234, 3) := by decide +kernel
theorem dX10_settle_11 : decode cX10_settle 11 = .ok (.ifCond .ne 5, 3) := by decide +kernel
theorem dX10_settle_14 : decode cX10_settle 14 = .ok (.iconst (-1), 1) := by decide +kernel
theorem dX10_settle_15 : decode cX10_settle 15 = .ok (.ireturn, 1) := by decide +kernel
theorem dX10_settle_16 : decode cX10_settle 16 = .ok (.iload_n 2, 1) := by decide +kernel
theorem dX10_settle_17 : decode cX10_settle 17 = .ok (.ifCond .eq 11, 3) := by decide +kernel
theorem dX10_settle_20 : decode cX10_settle 20 = .ok (.iload_n 2, 1) := by decide +kernel
theorem dX10_settle_21 : decode cX10_settle 21 = .ok (.iconst 1, 1) := by decide +kernel
theorem dX10_settle_22 : decode cX10_settle 22 = .ok (.if_icmp .eq 6, 3) := by decide +kernel
theorem dX10_settle_25 : decode cX10_settle 25 = .ok (.bipush (-2), 2) := by decide +kernel
theorem dX10_settle_27 : decode cX10_settle 27 = .ok (.ireturn, 1) := by decide +kernel
theorem dX10_settle_28 : decode cX10_settle 28 = .ok (.aload_n 0, 1) := by decide +kernel
theorem dX10_settle_29 : decode cX10_settle 29 = .ok (.getfield 29, 3) := by decide +kernel
theorem dX10_settle_32 : decode cX10_settle 32 = .ok (.getfield 137, 3) := by decide +kernel
theorem dX10_settle_35 : decode cX10_settle 35 = .ok (.getfield 237, 3) := by decide +kernel
theorem dX10_settle_38 : decode cX10_settle 38 = .ok (.iload_n 1, 1) := by decide +kernel
theorem dX10_settle_39 : decode cX10_settle 39 = .ok (.aaload, 1) := by decide +kernel
theorem dX10_settle_40 : decode cX10_settle 40 = .ok (.invokevirtual 241, 3) := by decide +kernel
theorem dX10_settle_43 : decode cX10_settle 43 = .ok (.ifCond .eq 6, 3) := by decide +kernel
theorem dX10_settle_46 : decode cX10_settle 46 = .ok (.bipush (-4), 2) := by decide +kernel
theorem dX10_settle_48 : decode cX10_settle 48 = .ok (.ireturn, 1) := by decide +kernel
theorem dX10_settle_49 : decode cX10_settle 49 = .ok (.aload_n 0, 1) := by decide +kernel
theorem dX10_settle_50 : decode cX10_settle 50 = .ok (.getfield 39, 3) := by decide +kernel
theorem dX10_settle_53 : decode cX10_settle 53 = .ok (.aload_n 0, 1) := by decide +kernel
theorem dX10_settle_54 : decode cX10_settle 54 = .ok (.getfield 29, 3) := by decide +kernel
theorem dX10_settle_57 : decode cX10_settle 57 = .ok (.invokevirtual 51, 3) := by decide +kernel
theorem dX10_settle_60 : decode cX10_settle 60 = .ok (.aload_n 0, 1) := by decide +kernel
theorem dX10_settle_61 : decode cX10_settle 61 = .ok (.getfield 29, 3) := by decide +kernel
theorem dX10_settle_64 : decode cX10_settle 64 = .ok (.iload_n 1, 1) := by decide +kernel
theorem dX10_settle_65 : decode cX10_settle 65 = .ok (.iload_n 2, 1) := by decide +kernel
theorem dX10_settle_66 : decode cX10_settle 66 = .ok (.invokevirtual 246, 3) := by decide +kernel
theorem dX10_settle_69 : decode cX10_settle 69 = .ok (.ireturn, 1) := by decide +kernel
theorem dX10_undo_0 : decode cX10_undo 0 = .ok (.aload_n 0, 1) := by decide +kernel
theorem dX10_undo_1 : decode cX10_undo 1 = .ok (.getfield 39, 3) := by decide +kernel
theorem dX10_undo_4 : decode cX10_undo 4 = .ok (.getfield 249, 3) := by decide +kernel
theorem dX10_undo_7 : decode cX10_undo 7 = .ok (.ifCond .ne 6, 3) := by decide +kernel
theorem dX10_undo_10 : decode cX10_undo 10 = .ok (.bipush (-5), 2) := by decide +kernel
theorem dX10_undo_12 : decode cX10_undo 12 = .ok (.ireturn, 1) := by decide +kernel
theorem dX10_undo_13 : decode cX10_undo 13 = .ok (.aload_n 0, 1) := by decide +kernel
theorem dX10_undo_14 : decode cX10_undo 14 = .ok (.getfield 39, 3) := by decide +kernel
theorem dX10_undo_17 : decode cX10_undo 17 = .ok (.aload_n 0, 1) := by decide +kernel
theorem dX10_undo_18 : decode cX10_undo 18 = .ok (.getfield 29, 3) := by decide +kernel
theorem dX10_undo_21 : decode cX10_undo 21 = .ok (.invokevirtual 250, 3) := by decide +kernel
theorem dX10_undo_24 : decode cX10_undo 24 = .ok (.aload_n 0, 1) := by decide +kernel
theorem dX10_undo_25 : decode cX10_undo 25 = .ok (.getfield 39, 3) := by decide +kernel
theorem dX10_undo_28 : decode cX10_undo 28 = .ok (.getfield 249, 3) := by decide +kernel
theorem dX10_undo_31 : decode cX10_undo 31 = .ok (.ireturn, 1) := by decide +kernel
theorem dX10_keep_0 : decode cX10_keep 0 = .ok (.aload_n 0, 1) := by decide +kernel
theorem dX10_keep_1 : decode cX10_keep 1 = .ok (.getfield 33, 3) := by decide +kernel
theorem dX10_keep_4 : decode cX10_keep 4 = .ok (.aload_n 0, 1) := by decide +kernel
theorem dX10_keep_5 : decode cX10_keep 5 = .ok (.getfield 29, 3) := by decide +kernel
theorem dX10_keep_8 : decode cX10_keep 8 = .ok (.invokevirtual 253, 3) := by decide +kernel
theorem dX10_keep_11 : decode cX10_keep 11 = .ok (.aload_n 0, 1) := by decide +kernel
theorem dX10_keep_12 : decode cX10_keep 12 = .ok (.iconst 1, 1) := by decide +kernel
theorem dX10_keep_13 : decode cX10_keep 13 = .ok (.putfield 43, 3) := by decide +kernel
theorem dX10_keep_16 : decode cX10_keep 16 = .ok (.aload_n 0, 1) := by decide +kernel
theorem dX10_keep_17 : decode cX10_keep 17 = .ok (.getfield 29, 3) := by decide +kernel
theorem dX10_keep_20 : decode cX10_keep 20 = .ok (.getfield 98, 3) := by decide +kernel
theorem dX10_keep_23 : decode cX10_keep 23 = .ok (.ireturn, 1) := by decide +kernel
theorem dX10_restore_0 : decode cX10_restore 0 = .ok (.aload_n 0, 1) := by decide +kernel
theorem dX10_restore_1 : decode cX10_restore 1 = .ok (.getfield 43, 3) := by decide +kernel
theorem dX10_restore_4 : decode cX10_restore 4 = .ok (.ifCond .ne 6, 3) := by decide +kernel
theorem dX10_restore_7 : decode cX10_restore 7 = .ok (.bipush (-5), 2) := by decide +kernel
theorem dX10_restore_9 : decode cX10_restore 9 = .ok (.ireturn, 1) := by decide +kernel
theorem dX10_restore_10 : decode cX10_restore 10 = .ok (.aload_n 0, 1) := by decide +kernel
theorem dX10_restore_11 : decode cX10_restore 11 = .ok (.getfield 39, 3) := by decide +kernel
theorem dX10_restore_14 : decode cX10_restore 14 = .ok (.aload_n 0, 1) := by decide +kernel
theorem dX10_restore_15 : decode cX10_restore 15 = .ok (.getfield 29, 3) := by decide +kernel
theorem dX10_restore_18 : decode cX10_restore 18 = .ok (.invokevirtual 51, 3) := by decide +kernel
theorem dX10_restore_21 : decode cX10_restore 21 = .ok (.aload_n 0, 1) := by decide +kernel
theorem dX10_restore_22 : decode cX10_restore 22 = .ok (.getfield 29, 3) := by decide +kernel
theorem dX10_restore_25 : decode cX10_restore 25 = .ok (.aload_n 0, 1) := by decide +kernel
theorem dX10_restore_26 : decode cX10_restore 26 = .ok (.getfield 33, 3) := by decide +kernel
theorem dX10_restore_29 : decode cX10_restore 29 = .ok (.invokevirtual 253, 3) := by decide +kernel
theorem dX10_restore_32 : decode cX10_restore 32 = .ok (.aload_n 0, 1) := by decide +kernel
theorem dX10_restore_33 : decode cX10_restore 33 = .ok (.getfield 29, 3) := by decide +kernel
theorem dX10_restore_36 : decode cX10_restore 36 = .ok (.getfield 98, 3) := by decide +kernel
theorem dX10_restore_39 : decode cX10_restore 39 = .ok (.ireturn, 1) := by decide +kernel
theorem dX10_person_0 : decode cX10_person 0 = .ok (.aload_n 0, 1) := by decide +kernel
theorem dX10_person_1 : decode cX10_person 1 = .ok (.getfield 29, 3) := by decide +kernel
theorem dX10_person_4 : decode cX10_person 4 = .ok (.iload_n 1, 1) := by decide +kernel
theorem dX10_person_5 : decode cX10_person 5 = .ok (.invokevirtual 59, 3) := by decide +kernel
theorem dX10_person_8 : decode cX10_person 8 = .ok (.ifCond .ne 5, 3) := by decide +kernel
theorem dX10_person_11 : decode cX10_person 11 = .ok (.iconst (-1), 1) := by decide +kernel
theorem dX10_person_12 : decode cX10_person 12 = .ok (.ireturn, 1) := by decide +kernel
theorem dX10_person_13 : decode cX10_person 13 = .ok (.iload_n 2, 1) := by decide +kernel
theorem dX10_person_14 : decode cX10_person 14 = .ok (.tableswitch 130 0 7 #[46, 59, 72, 81, 90, 99, 108, 117], 46) := by decide +kernel
theorem dX10_person_60 : decode cX10_person 60 = .ok (.aload_n 0, 1) := by decide +kernel
theorem dX10_person_61 : decode cX10_person 61 = .ok (.getfield 29, 3) := by decide +kernel
theorem dX10_person_64 : decode cX10_person 64 = .ok (.getfield 63, 3) := by decide +kernel
theorem dX10_person_67 : decode cX10_person 67 = .ok (.iload_n 1, 1) := by decide +kernel
theorem dX10_person_68 : decode cX10_person 68 = .ok (.aaload, 1) := by decide +kernel
theorem dX10_person_69 : decode cX10_person 69 = .ok (.getfield 171, 3) := by decide +kernel
theorem dX10_person_72 : decode cX10_person 72 = .ok (.ireturn, 1) := by decide +kernel
theorem dX10_person_73 : decode cX10_person 73 = .ok (.aload_n 0, 1) := by decide +kernel
theorem dX10_person_74 : decode cX10_person 74 = .ok (.getfield 29, 3) := by decide +kernel
theorem dX10_person_77 : decode cX10_person 77 = .ok (.getfield 63, 3) := by decide +kernel
theorem dX10_person_80 : decode cX10_person 80 = .ok (.iload_n 1, 1) := by decide +kernel
theorem dX10_person_81 : decode cX10_person 81 = .ok (.aaload, 1) := by decide +kernel
theorem dX10_person_82 : decode cX10_person 82 = .ok (.getfield 76, 3) := by decide +kernel
theorem dX10_person_85 : decode cX10_person 85 = .ok (.ireturn, 1) := by decide +kernel
theorem dX10_person_86 : decode cX10_person 86 = .ok (.aload_n 0, 1) := by decide +kernel
theorem dX10_person_87 : decode cX10_person 87 = .ok (.getfield 29, 3) := by decide +kernel
theorem dX10_person_90 : decode cX10_person 90 = .ok (.iload_n 1, 1) := by decide +kernel
theorem dX10_person_91 : decode cX10_person 91 = .ok (.invokevirtual 256, 3) := by decide +kernel
theorem dX10_person_94 : decode cX10_person 94 = .ok (.ireturn, 1) := by decide +kernel
theorem dX10_person_95 : decode cX10_person 95 = .ok (.aload_n 0, 1) := by decide +kernel
theorem dX10_person_96 : decode cX10_person 96 = .ok (.getfield 29, 3) := by decide +kernel
theorem dX10_person_99 : decode cX10_person 99 = .ok (.iload_n 1, 1) := by decide +kernel
theorem dX10_person_100 : decode cX10_person 100 = .ok (.invokevirtual 259, 3) := by decide +kernel
theorem dX10_person_103 : decode cX10_person 103 = .ok (.ireturn, 1) := by decide +kernel
theorem dX10_person_104 : decode cX10_person 104 = .ok (.aload_n 0, 1) := by decide +kernel
theorem dX10_person_105 : decode cX10_person 105 = .ok (.getfield 29, 3) := by decide +kernel
theorem dX10_person_108 : decode cX10_person 108 = .ok (.iload_n 1, 1) := by decide +kernel
theorem dX10_person_109 : decode cX10_person 109 = .ok (.invokevirtual 262, 3) := by decide +kernel
theorem dX10_person_112 : decode cX10_person 112 = .ok (.ireturn, 1) := by decide +kernel
theorem dX10_person_113 : decode cX10_person 113 = .ok (.aload_n 0, 1) := by decide +kernel
theorem dX10_person_114 : decode cX10_person 114 = .ok (.getfield 29, 3) := by decide +kernel
theorem dX10_person_117 : decode cX10_person 117 = .ok (.iload_n 1, 1) := by decide +kernel
theorem dX10_person_118 : decode cX10_person 118 = .ok (.invokevirtual 265, 3) := by decide +kernel
theorem dX10_person_121 : decode cX10_person 121 = .ok (.ireturn, 1) := by decide +kernel
theorem dX10_person_122 : decode cX10_person 122 = .ok (.aload_n 0, 1) := by decide +kernel
theorem dX10_person_123 : decode cX10_person 123 = .ok (.getfield 29, 3) := by decide +kernel
theorem dX10_person_126 : decode cX10_person 126 = .ok (.iload_n 1, 1) := by decide +kernel
theorem dX10_person_127 : decode cX10_person 127 = .ok (.invokevirtual 268, 3) := by decide +kernel
theorem dX10_person_130 : decode cX10_person 130 = .ok (.ireturn, 1) := by decide +kernel
theorem dX10_person_131 : decode cX10_person 131 = .ok (.aload_n 0, 1) := by decide +kernel
theorem dX10_person_132 : decode cX10_person 132 = .ok (.getfield 29, 3) := by decide +kernel
theorem dX10_person_135 : decode cX10_person 135 = .ok (.getfield 63, 3) := by decide +kernel
theorem dX10_person_138 : decode cX10_person 138 = .ok (.iload_n 1, 1) := by decide +kernel
theorem dX10_person_139 : decode cX10_person 139 = .ok (.aaload, 1) := by decide +kernel
theorem dX10_person_140 : decode cX10_person 140 = .ok (.getfield 271, 3) := by decide +kernel
theorem dX10_person_143 : decode cX10_person 143 = .ok (.ireturn, 1) := by decide +kernel
theorem dX10_person_144 : decode cX10_person 144 = .ok (.bipush (-2), 2) := by decide +kernel
theorem dX10_person_146 : decode cX10_person 146 = .ok (.ireturn, 1) := by decide +kernel
theorem dX10_file_0 : decode cX10_file 0 = .ok (.aload_n 0, 1) := by decide +kernel
theorem dX10_file_1 : decode cX10_file 1 = .ok (.getfield 29, 3) := by decide +kernel
theorem dX10_file_4 : decode cX10_file 4 = .ok (.iload_n 1, 1) := by decide +kernel
theorem dX10_file_5 : decode cX10_file 5 = .ok (.invokevirtual 105, 3) := by decide +kernel
theorem dX10_file_8 : decode cX10_file 8 = .ok (.ifCond .ne 5, 3) := by decide +kernel
theorem dX10_file_11 : decode cX10_file 11 = .ok (.iconst (-1), 1) := by decide +kernel
theorem dX10_file_12 : decode cX10_file 12 = .ok (.ireturn, 1) := by decide +kernel
theorem dX10_file_13 : decode cX10_file 13 = .ok (.aload_n 0, 1) := by decide +kernel
theorem dX10_file_14 : decode cX10_file 14 = .ok (.getfield 29, 3) := by decide +kernel
theorem dX10_file_17 : decode cX10_file 17 = .ok (.getfield 111, 3) := by decide +kernel
theorem dX10_file_20 : decode cX10_file 20 = .ok (.iload_n 1, 1) := by decide +kernel
theorem dX10_file_21 : decode cX10_file 21 = .ok (.aaload, 1) := by decide +kernel
theorem dX10_file_22 : decode cX10_file 22 = .ok (.astore_n 3, 1) := by decide +kernel
theorem dX10_file_23 : decode cX10_file 23 = .ok (.iload_n 2, 1) := by decide +kernel
theorem dX10_file_24 : decode cX10_file 24 = .ok (.tableswitch 110 0 9 #[56, 61, 66, 71, 80, 85, 90, 95, 100, 105], 56) := by decide +kernel
theorem dX10_file_80 : decode cX10_file 80 = .ok (.aload_n 3, 1) := by decide +kernel
theorem dX10_file_81 : decode cX10_file 81 = .ok (.getfield 115, 3) := by decide +kernel
theorem dX10_file_84 : decode cX10_file 84 = .ok (.ireturn, 1) := by decide +kernel
theorem dX10_file_85 : decode cX10_file 85 = .ok (.aload_n 3, 1) := by decide +kernel
theorem dX10_file_86 : decode cX10_file 86 = .ok (.getfield 120, 3) := by decide +kernel
theorem dX10_file_89 : decode cX10_file 89 = .ok (.ireturn, 1) := by decide +kernel
theorem dX10_file_90 : decode cX10_file 90 = .ok (.aload_n 3, 1) := by decide +kernel
theorem dX10_file_91 : decode cX10_file 91 = .ok (.invokevirtual 274, 3) := by decide +kernel
theorem dX10_file_94 : decode cX10_file 94 = .ok (.ireturn, 1) := by decide +kernel
theorem dX10_file_95 : decode cX10_file 95 = .ok (.aload_n 0, 1) := by decide +kernel
theorem dX10_file_96 : decode cX10_file 96 = .ok (.getfield 29, 3) := by decide +kernel
theorem dX10_file_99 : decode cX10_file 99 = .ok (.iload_n 1, 1) := by decide +kernel
theorem dX10_file_100 : decode cX10_file 100 = .ok (.invokevirtual 158, 3) := by decide +kernel
theorem dX10_file_103 : decode cX10_file 103 = .ok (.ireturn, 1) := by decide +kernel
theorem dX10_file_104 : decode cX10_file 104 = .ok (.aload_n 3, 1) := by decide +kernel
theorem dX10_file_105 : decode cX10_file 105 = .ok (.getfield 178, 3) := by decide +kernel
theorem dX10_file_108 : decode cX10_file 108 = .ok (.ireturn, 1) := by decide +kernel
theorem dX10_file_109 : decode cX10_file 109 = .ok (.aload_n 3, 1) := by decide +kernel
theorem dX10_file_110 : decode cX10_file 110 = .ok (.getfield 225, 3) := by decide +kernel
theorem dX10_file_113 : decode cX10_file 113 = .ok (.ireturn, 1) := by decide +kernel
theorem dX10_file_114 : decode cX10_file 114 = .ok (.aload_n 3, 1) := by decide +kernel
theorem dX10_file_115 : decode cX10_file 115 = .ok (.getfield 165, 3) := by decide +kernel
theorem dX10_file_118 : decode cX10_file 118 = .ok (.ireturn, 1) := by decide +kernel
theorem dX10_file_119 : decode cX10_file 119 = .ok (.aload_n 3, 1) := by decide +kernel
theorem dX10_file_120 : decode cX10_file 120 = .ok (.invokevirtual 231, 3) := by decide +kernel
theorem dX10_file_123 : decode cX10_file 123 = .ok (.ireturn, 1) := by decide +kernel
theorem dX10_file_124 : decode cX10_file 124 = .ok (.aload_n 3, 1) := by decide +kernel
theorem dX10_file_125 : decode cX10_file 125 = .ok (.invokevirtual 168, 3) := by decide +kernel
theorem dX10_file_128 : decode cX10_file 128 = .ok (.ireturn, 1) := by decide +kernel
theorem dX10_file_129 : decode cX10_file 129 = .ok (.aload_n 3, 1) := by decide +kernel
theorem dX10_file_130 : decode cX10_file 130 = .ok (.getfield 228, 3) := by decide +kernel
theorem dX10_file_133 : decode cX10_file 133 = .ok (.ireturn, 1) := by decide +kernel
theorem dX10_file_134 : decode cX10_file 134 = .ok (.bipush (-2), 2) := by decide +kernel
theorem dX10_file_136 : decode cX10_file 136 = .ok (.ireturn, 1) := by decide +kernel
theorem dX10_segment_0 : decode cX10_segment 0 = .ok (.aload_n 0, 1) := by decide +kernel
theorem dX10_segment_1 : decode cX10_segment 1 = .ok (.getfield 29, 3) := by decide +kernel
theorem dX10_segment_4 : decode cX10_segment 4 = .ok (.iload_n 1, 1) := by decide +kernel
theorem dX10_segment_5 : decode cX10_segment 5 = .ok (.iload_n 2, 1) := by decide +kernel
theorem dX10_segment_6 : decode cX10_segment 6 = .ok (.invokevirtual 184, 3) := by decide +kernel
theorem dX10_segment_9 : decode cX10_segment 9 = .ok (.ifCond .ne 5, 3) := by decide +kernel
theorem dX10_segment_12 : decode cX10_segment 12 = .ok (.iconst (-1), 1) := by decide +kernel
theorem dX10_segment_13 : decode cX10_segment 13 = .ok (.ireturn, 1) := by decide +kernel
theorem dX10_segment_14 : decode cX10_segment 14 = .ok (.aload_n 0, 1) := by decide +kernel
theorem dX10_segment_15 : decode cX10_segment 15 = .ok (.getfield 29, 3) := by decide +kernel
theorem dX10_segment_18 : decode cX10_segment 18 = .ok (.getfield 111, 3) := by decide +kernel
theorem dX10_segment_21 : decode cX10_segment 21 = .ok (.iload_n 1, 1) := by decide +kernel
theorem dX10_segment_22 : decode cX10_segment 22 = .ok (.aaload, 1) := by decide +kernel
theorem dX10_segment_23 : decode cX10_segment 23 = .ok (.astore 4, 2) := by decide +kernel
theorem dX10_segment_25 : decode cX10_segment 25 = .ok (.aload 4, 2) := by decide +kernel
theorem dX10_segment_27 : decode cX10_segment 27 = .ok (.getfield 188, 3) := by decide +kernel
theorem dX10_segment_30 : decode cX10_segment 30 = .ok (.iload_n 2, 1) := by decide +kernel
theorem dX10_segment_31 : decode cX10_segment 31 = .ok (.aaload, 1) := by decide +kernel
theorem dX10_segment_32 : decode cX10_segment 32 = .ok (.astore 5, 2) := by decide +kernel
theorem dX10_segment_34 : decode cX10_segment 34 = .ok (.iload_n 3, 1) := by decide +kernel
theorem dX10_segment_35 : decode cX10_segment 35 = .ok (.tableswitch 137 0 6 #[41, 47, 70, 78, 91, 104, 127], 41) := by decide +kernel
theorem dX10_segment_76 : decode cX10_segment 76 = .ok (.aload 5, 2) := by decide +kernel
theorem dX10_segment_78 : decode cX10_segment 78 = .ok (.getfield 277, 3) := by decide +kernel
theorem dX10_segment_81 : decode cX10_segment 81 = .ok (.ireturn, 1) := by decide +kernel
theorem dX10_segment_82 : decode cX10_segment 82 = .ok (.aload 4, 2) := by decide +kernel
theorem dX10_segment_84 : decode cX10_segment 84 = .ok (.getfield 199, 3) := by decide +kernel
theorem dX10_segment_87 : decode cX10_segment 87 = .ok (.iload_n 2, 1) := by decide +kernel
theorem dX10_segment_88 : decode cX10_segment 88 = .ok (.iaload, 1) := by decide +kernel
theorem dX10_segment_89 : decode cX10_segment 89 = .ok (.ifCond .ne 8, 3) := by decide +kernel
theorem dX10_segment_92 : decode cX10_segment 92 = .ok (.bipush (-5), 2) := by decide +kernel
theorem dX10_segment_94 : decode cX10_segment 94 = .ok (.goto 10, 3) := by decide +kernel
theorem dX10_segment_97 : decode cX10_segment 97 = .ok (.aload 4, 2) := by decide +kernel
theorem dX10_segment_99 : decode cX10_segment 99 = .ok (.getfield 199, 3) := by decide +kernel
theorem dX10_segment_102 : decode cX10_segment 102 = .ok (.iload_n 2, 1) := by decide +kernel
theorem dX10_segment_103 : decode cX10_segment 103 = .ok (.iaload, 1) := by decide +kernel
theorem dX10_segment_104 : decode cX10_segment 104 = .ok (.ireturn, 1) := by decide +kernel
theorem dX10_segment_105 : decode cX10_segment 105 = .ok (.aload 4, 2) := by decide +kernel
theorem dX10_segment_107 : decode cX10_segment 107 = .ok (.getfield 280, 3) := by decide +kernel
theorem dX10_segment_110 : decode cX10_segment 110 = .ok (.iload_n 2, 1) := by decide +kernel
theorem dX10_segment_111 : decode cX10_segment 111 = .ok (.iaload, 1) := by decide +kernel
theorem dX10_segment_112 : decode cX10_segment 112 = .ok (.ireturn, 1) := by decide +kernel
theorem dX10_segment_113 : decode cX10_segment 113 = .ok (.aload_n 0, 1) := by decide +kernel
theorem dX10_segment_114 : decode cX10_segment 114 = .ok (.getfield 29, 3) := by decide +kernel
theorem dX10_segment_117 : decode cX10_segment 117 = .ok (.getfield 137, 3) := by decide +kernel
theorem dX10_segment_120 : decode cX10_segment 120 = .ok (.aload 5, 2) := by decide +kernel
theorem dX10_segment_122 : decode cX10_segment 122 = .ok (.invokevirtual 283, 3) := by decide +kernel
theorem dX10_segment_125 : decode cX10_segment 125 = .ok (.ireturn, 1) := by decide +kernel
theorem dX10_segment_126 : decode cX10_segment 126 = .ok (.aload_n 0, 1) := by decide +kernel
theorem dX10_segment_127 : decode cX10_segment 127 = .ok (.getfield 29, 3) := by decide +kernel
theorem dX10_segment_130 : decode cX10_segment 130 = .ok (.getfield 137, 3) := by decide +kernel
theorem dX10_segment_133 : decode cX10_segment 133 = .ok (.aload 5, 2) := by decide +kernel
theorem dX10_segment_135 : decode cX10_segment 135 = .ok (.invokevirtual 286, 3) := by decide +kernel
theorem dX10_segment_138 : decode cX10_segment 138 = .ok (.ireturn, 1) := by decide +kernel
theorem dX10_segment_139 : decode cX10_segment 139 = .ok (.aload 4, 2) := by decide +kernel
theorem dX10_segment_141 : decode cX10_segment 141 = .ok (.invokevirtual 161, 3) := by decide +kernel
theorem dX10_segment_144 : decode cX10_segment 144 = .ok (.ifCond .eq 15, 3) := by decide +kernel
theorem dX10_segment_147 : decode cX10_segment 147 = .ok (.aload_n 0, 1) := by decide +kernel
theorem dX10_segment_148 : decode cX10_segment 148 = .ok (.getfield 29, 3) := by decide +kernel
theorem dX10_segment_151 : decode cX10_segment 151 = .ok (.iload_n 1, 1) := by decide +kernel
theorem dX10_segment_152 : decode cX10_segment 152 = .ok (.iload_n 2, 1) := by decide +kernel
theorem dX10_segment_153 : decode cX10_segment 153 = .ok (.invokevirtual 289, 3) := by decide +kernel
theorem dX10_segment_156 : decode cX10_segment 156 = .ok (.goto 5, 3) := by decide +kernel
theorem dX10_segment_159 : decode cX10_segment 159 = .ok (.bipush (-5), 2) := by decide +kernel
theorem dX10_segment_161 : decode cX10_segment 161 = .ok (.ireturn, 1) := by decide +kernel
theorem dX10_segment_162 : decode cX10_segment 162 = .ok (.aload_n 0, 1) := by decide +kernel
theorem dX10_segment_163 : decode cX10_segment 163 = .ok (.getfield 29, 3) := by decide +kernel
theorem dX10_segment_166 : decode cX10_segment 166 = .ok (.iload_n 1, 1) := by decide +kernel
theorem dX10_segment_167 : decode cX10_segment 167 = .ok (.iload_n 2, 1) := by decide +kernel
theorem dX10_segment_168 : decode cX10_segment 168 = .ok (.invokevirtual 292, 3) := by decide +kernel
theorem dX10_segment_171 : decode cX10_segment 171 = .ok (.ireturn, 1) := by decide +kernel
theorem dX10_segment_172 : decode cX10_segment 172 = .ok (.bipush (-2), 2) := by decide +kernel
theorem dX10_segment_174 : decode cX10_segment 174 = .ok (.ireturn, 1) := by decide +kernel
theorem dX10_charAt_0 : decode cX10_charAt 0 = .ok (.aload_n 0, 1) := by decide +kernel
theorem dX10_charAt_1 : decode cX10_charAt 1 = .ok (.getfield 29, 3) := by decide +kernel
theorem dX10_charAt_4 : decode cX10_charAt 4 = .ok (.iload_n 1, 1) := by decide +kernel
theorem dX10_charAt_5 : decode cX10_charAt 5 = .ok (.iload_n 2, 1) := by decide +kernel
theorem dX10_charAt_6 : decode cX10_charAt 6 = .ok (.invokevirtual 184, 3) := by decide +kernel
theorem dX10_charAt_9 : decode cX10_charAt 9 = .ok (.ifCond .ne 5, 3) := by decide +kernel
theorem dX10_charAt_12 : decode cX10_charAt 12 = .ok (.iconst (-1), 1) := by decide +kernel
theorem dX10_charAt_13 : decode cX10_charAt 13 = .ok (.ireturn, 1) := by decide +kernel
theorem dX10_charAt_14 : decode cX10_charAt 14 = .ok (.iload_n 3, 1) := by decide +kernel
theorem dX10_charAt_15 : decode cX10_charAt 15 = .ok (.ifCond .ge 6, 3) := by decide +kernel
theorem dX10_charAt_18 : decode cX10_charAt 18 = .ok (.bipush (-2), 2) := by decide +kernel
theorem dX10_charAt_20 : decode cX10_charAt 20 = .ok (.ireturn, 1) := by decide +kernel
theorem dX10_charAt_21 : decode cX10_charAt 21 = .ok (.aload_n 0, 1) := by decide +kernel
theorem dX10_charAt_22 : decode cX10_charAt 22 = .ok (.getfield 29, 3) := by decide +kernel
theorem dX10_charAt_25 : decode cX10_charAt 25 = .ok (.getfield 111, 3) := by decide +kernel
theorem dX10_charAt_28 : decode cX10_charAt 28 = .ok (.iload_n 1, 1) := by decide +kernel
theorem dX10_charAt_29 : decode cX10_charAt 29 = .ok (.aaload, 1) := by decide +kernel
theorem dX10_charAt_30 : decode cX10_charAt 30 = .ok (.getfield 188, 3) := by decide +kernel
theorem dX10_charAt_33 : decode cX10_charAt 33 = .ok (.iload_n 2, 1) := by decide +kernel
theorem dX10_charAt_34 : decode cX10_charAt 34 = .ok (.aaload, 1) := by decide +kernel
theorem dX10_charAt_35 : decode cX10_charAt 35 = .ok (.getfield 295, 3) := by decide +kernel
theorem dX10_charAt_38 : decode cX10_charAt 38 = .ok (.astore 4, 2) := by decide +kernel
theorem dX10_charAt_40 : decode cX10_charAt 40 = .ok (.iload_n 3, 1) := by decide +kernel
theorem dX10_charAt_41 : decode cX10_charAt 41 = .ok (.aload 4, 2) := by decide +kernel
theorem dX10_charAt_43 : decode cX10_charAt 43 = .ok (.arraylength, 1) := by decide +kernel
theorem dX10_charAt_44 : decode cX10_charAt 44 = .ok (.if_icmp .ge 10, 3) := by decide +kernel
theorem dX10_charAt_47 : decode cX10_charAt 47 = .ok (.aload 4, 2) := by decide +kernel
theorem dX10_charAt_49 : decode cX10_charAt 49 = .ok (.iload_n 3, 1) := by decide +kernel
theorem dX10_charAt_50 : decode cX10_charAt 50 = .ok (.caload, 1) := by decide +kernel
theorem dX10_charAt_51 : decode cX10_charAt 51 = .ok (.goto 5, 3) := by decide +kernel
theorem dX10_charAt_54 : decode cX10_charAt 54 = .ok (.bipush (-5), 2) := by decide +kernel
theorem dX10_charAt_56 : decode cX10_charAt 56 = .ok (.ireturn, 1) := by decide +kernel
theorem dX10_distance_0 : decode cX10_distance 0 = .ok (.aload_n 0, 1) := by decide +kernel
theorem dX10_distance_1 : decode cX10_distance 1 = .ok (.getfield 29, 3) := by decide +kernel
theorem dX10_distance_4 : decode cX10_distance 4 = .ok (.iload_n 1, 1) := by decide +kernel
theorem dX10_distance_5 : decode cX10_distance 5 = .ok (.iload_n 2, 1) := by decide +kernel
theorem dX10_distance_6 : decode cX10_distance 6 = .ok (.invokevirtual 184, 3) := by decide +kernel
theorem dX10_distance_9 : decode cX10_distance 9 = .ok (.ifCond .eq 17, 3) := by decide +kernel
theorem dX10_distance_12 : decode cX10_distance 12 = .ok (.aload_n 0, 1) := by decide +kernel
theorem dX10_distance_13 : decode cX10_distance 13 = .ok (.getfield 29, 3) := by decide +kernel
theorem dX10_distance_16 : decode cX10_distance 16 = .ok (.getfield 137, 3) := by decide +kernel
theorem dX10_distance_19 : decode cX10_distance 19 = .ok (.iload_n 3, 1) := by decide +kernel
theorem dX10_distance_20 : decode cX10_distance 20 = .ok (.invokevirtual 299, 3) := by decide +kernel
theorem dX10_distance_23 : decode cX10_distance 23 = .ok (.ifCond .ne 5, 3) := by decide +kernel
theorem dX10_distance_26 : decode cX10_distance 26 = .ok (.iconst (-1), 1) := by decide +kernel
theorem dX10_distance_27 : decode cX10_distance 27 = .ok (.ireturn, 1) := by decide +kernel
theorem dX10_distance_28 : decode cX10_distance 28 = .ok (.aload_n 0, 1) := by decide +kernel
theorem dX10_distance_29 : decode cX10_distance 29 = .ok (.getfield 29, 3) := by decide +kernel
theorem dX10_distance_32 : decode cX10_distance 32 = .ok (.getfield 137, 3) := by decide +kernel
theorem dX10_distance_35 : decode cX10_distance 35 = .ok (.aload_n 0, 1) := by decide +kernel
theorem dX10_distance_36 : decode cX10_distance 36 = .ok (.getfield 29, 3) := by decide +kernel
theorem dX10_distance_39 : decode cX10_distance 39 = .ok (.getfield 111, 3) := by decide +kernel
theorem dX10_distance_42 : decode cX10_distance 42 = .ok (.iload_n 1, 1) := by decide +kernel
theorem dX10_distance_43 : decode cX10_distance 43 = .ok (.aaload, 1) := by decide +kernel
theorem dX10_distance_44 : decode cX10_distance 44 = .ok (.getfield 188, 3) := by decide +kernel
theorem dX10_distance_47 : decode cX10_distance 47 = .ok (.iload_n 2, 1) := by decide +kernel
theorem dX10_distance_48 : decode cX10_distance 48 = .ok (.aaload, 1) := by decide +kernel
theorem dX10_distance_49 : decode cX10_distance 49 = .ok (.iload_n 3, 1) := by decide +kernel
theorem dX10_distance_50 : decode cX10_distance 50 = .ok (.invokevirtual 302, 3) := by decide +kernel
theorem dX10_distance_53 : decode cX10_distance 53 = .ok (.ireturn, 1) := by decide +kernel
theorem dX10_wordsIn_0 : decode cX10_wordsIn 0 = .ok (.aload_n 0, 1) := by decide +kernel
theorem dX10_wordsIn_1 : decode cX10_wordsIn 1 = .ok (.getfield 29, 3) := by decide +kernel
theorem dX10_wordsIn_4 : decode cX10_wordsIn 4 = .ok (.iload_n 1, 1) := by decide +kernel
theorem dX10_wordsIn_5 : decode cX10_wordsIn 5 = .ok (.invokevirtual 105, 3) := by decide +kernel
theorem dX10_wordsIn_8 : decode cX10_wordsIn 8 = .ok (.ifCond .ne 5, 3) := by decide +kernel
theorem dX10_wordsIn_11 : decode cX10_wordsIn 11 = .ok (.iconst (-1), 1) := by decide +kernel
theorem dX10_wordsIn_12 : decode cX10_wordsIn 12 = .ok (.ireturn, 1) := by decide +kernel
theorem dX10_wordsIn_13 : decode cX10_wordsIn 13 = .ok (.iload_n 2, 1) := by decide +kernel
theorem dX10_wordsIn_14 : decode cX10_wordsIn 14 = .ok (.invokestatic 84, 3) := by decide +kernel
theorem dX10_wordsIn_17 : decode cX10_wordsIn 17 = .ok (.ifCond .ne 6, 3) := by decide +kernel
theorem dX10_wordsIn_20 : decode cX10_wordsIn 20 = .ok (.bipush (-2), 2) := by decide +kernel
theorem dX10_wordsIn_22 : decode cX10_wordsIn 22 = .ok (.ireturn, 1) := by decide +kernel
theorem dX10_wordsIn_23 : decode cX10_wordsIn 23 = .ok (.aload_n 0, 1) := by decide +kernel
theorem dX10_wordsIn_24 : decode cX10_wordsIn 24 = .ok (.getfield 29, 3) := by decide +kernel
theorem dX10_wordsIn_27 : decode cX10_wordsIn 27 = .ok (.getfield 111, 3) := by decide +kernel
theorem dX10_wordsIn_30 : decode cX10_wordsIn 30 = .ok (.iload_n 1, 1) := by decide +kernel
theorem dX10_wordsIn_31 : decode cX10_wordsIn 31 = .ok (.aaload, 1) := by decide +kernel
theorem dX10_wordsIn_32 : decode cX10_wordsIn 32 = .ok (.invokevirtual 161, 3) := by decide +kernel
theorem dX10_wordsIn_35 : decode cX10_wordsIn 35 = .ok (.ifCond .ne 6, 3) := by decide +kernel
theorem dX10_wordsIn_38 : decode cX10_wordsIn 38 = .ok (.bipush (-5), 2) := by decide +kernel
theorem dX10_wordsIn_40 : decode cX10_wordsIn 40 = .ok (.ireturn, 1) := by decide +kernel
theorem dX10_wordsIn_41 : decode cX10_wordsIn 41 = .ok (.aload_n 0, 1) := by decide +kernel
theorem dX10_wordsIn_42 : decode cX10_wordsIn 42 = .ok (.getfield 29, 3) := by decide +kernel
theorem dX10_wordsIn_45 : decode cX10_wordsIn 45 = .ok (.iload_n 1, 1) := by decide +kernel
theorem dX10_wordsIn_46 : decode cX10_wordsIn 46 = .ok (.invokevirtual 305, 3) := by decide +kernel
theorem dX10_wordsIn_49 : decode cX10_wordsIn 49 = .ok (.aload_n 0, 1) := by decide +kernel
theorem dX10_wordsIn_50 : decode cX10_wordsIn 50 = .ok (.getfield 29, 3) := by decide +kernel
theorem dX10_wordsIn_53 : decode cX10_wordsIn 53 = .ok (.getfield 309, 3) := by decide +kernel
theorem dX10_wordsIn_56 : decode cX10_wordsIn 56 = .ok (.iload_n 2, 1) := by decide +kernel
theorem dX10_wordsIn_57 : decode cX10_wordsIn 57 = .ok (.iaload, 1) := by decide +kernel
theorem dX10_wordsIn_58 : decode cX10_wordsIn 58 = .ok (.ireturn, 1) := by decide +kernel
theorem dX10_allWords_0 : decode cX10_allWords 0 = .ok (.iload_n 1, 1) := by decide +kernel
theorem dX10_allWords_1 : decode cX10_allWords 1 = .ok (.invokestatic 84, 3) := by decide +kernel
theorem dX10_allWords_4 : decode cX10_allWords 4 = .ok (.ifCond .ne 6, 3) := by decide +kernel
theorem dX10_allWords_7 : decode cX10_allWords 7 = .ok (.bipush (-2), 2) := by decide +kernel
theorem dX10_allWords_9 : decode cX10_allWords 9 = .ok (.ireturn, 1) := by decide +kernel
theorem dX10_allWords_10 : decode cX10_allWords 10 = .ok (.iconst 0, 1) := by decide +kernel
theorem dX10_allWords_11 : decode cX10_allWords 11 = .ok (.istore_n 2, 1) := by decide +kernel
theorem dX10_allWords_12 : decode cX10_allWords 12 = .ok (.iconst 0, 1) := by decide +kernel
theorem dX10_allWords_13 : decode cX10_allWords 13 = .ok (.istore_n 3, 1) := by decide +kernel
theorem dX10_allWords_14 : decode cX10_allWords 14 = .ok (.iload_n 3, 1) := by decide +kernel
theorem dX10_allWords_15 : decode cX10_allWords 15 = .ok (.aload_n 0, 1) := by decide +kernel
theorem dX10_allWords_16 : decode cX10_allWords 16 = .ok (.getfield 29, 3) := by decide +kernel
theorem dX10_allWords_19 : decode cX10_allWords 19 = .ok (.getfield 98, 3) := by decide +kernel
theorem dX10_allWords_22 : decode cX10_allWords 22 = .ok (.if_icmp .ge 44, 3) := by decide +kernel
theorem dX10_allWords_25 : decode cX10_allWords 25 = .ok (.aload_n 0, 1) := by decide +kernel
theorem dX10_allWords_26 : decode cX10_allWords 26 = .ok (.getfield 29, 3) := by decide +kernel
theorem dX10_allWords_29 : decode cX10_allWords 29 = .ok (.getfield 111, 3) := by decide +kernel
theorem dX10_allWords_32 : decode cX10_allWords 32 = .ok (.iload_n 3, 1) := by decide +kernel
theorem dX10_allWords_33 : decode cX10_allWords 33 = .ok (.aaload, 1) := by decide +kernel
theorem dX10_allWords_34 : decode cX10_allWords 34 = .ok (.invokevirtual 161, 3) := by decide +kernel
theorem dX10_allWords_37 : decode cX10_allWords 37 = .ok (.ifCond .eq 23, 3) := by decide +kernel
theorem dX10_allWords_40 : decode cX10_allWords 40 = .ok (.aload_n 0, 1) := by decide +kernel
theorem dX10_allWords_41 : decode cX10_allWords 41 = .ok (.getfield 29, 3) := by decide +kernel
theorem dX10_allWords_44 : decode cX10_allWords 44 = .ok (.iload_n 3, 1) := by decide +kernel
theorem dX10_allWords_45 : decode cX10_allWords 45 = .ok (.invokevirtual 305, 3) := by decide +kernel
theorem dX10_allWords_48 : decode cX10_allWords 48 = .ok (.iload_n 2, 1) := by decide +kernel
theorem dX10_allWords_49 : decode cX10_allWords 49 = .ok (.aload_n 0, 1) := by decide +kernel
theorem dX10_allWords_50 : decode cX10_allWords 50 = .ok (.getfield 29, 3) := by decide +kernel
theorem dX10_allWords_53 : decode cX10_allWords 53 = .ok (.getfield 309, 3) := by decide +kernel
theorem dX10_allWords_56 : decode cX10_allWords 56 = .ok (.iload_n 1, 1) := by decide +kernel
theorem dX10_allWords_57 : decode cX10_allWords 57 = .ok (.iaload, 1) := by decide +kernel
theorem dX10_allWords_58 : decode cX10_allWords 58 = .ok (.iadd, 1) := by decide +kernel
theorem dX10_allWords_59 : decode cX10_allWords 59 = .ok (.istore_n 2, 1) := by decide +kernel
theorem dX10_allWords_60 : decode cX10_allWords 60 = .ok (.iinc 3 1, 3) := by decide +kernel
theorem dX10_allWords_63 : decode cX10_allWords 63 = .ok (.goto (-49), 3) := by decide +kernel
theorem dX10_allWords_66 : decode cX10_allWords 66 = .ok (.iload_n 2, 1) := by decide +kernel
theorem dX10_allWords_67 : decode cX10_allWords 67 = .ok (.ireturn, 1) := by decide +kernel
theorem dX10_price_0 : decode cX10_price 0 = .ok (.aload_n 0, 1) := by decide +kernel
theorem dX10_price_1 : decode cX10_price 1 = .ok (.getfield 29, 3) := by decide +kernel
theorem dX10_price_4 : decode cX10_price 4 = .ok (.iload_n 1, 1) := by decide +kernel
theorem dX10_price_5 : decode cX10_price 5 = .ok (.invokevirtual 105, 3) := by decide +kernel
theorem dX10_price_8 : decode cX10_price 8 = .ok (.ifCond .eq 14, 3) := by decide +kernel
theorem dX10_price_11 : decode cX10_price 11 = .ok (.aload_n 0, 1) := by decide +kernel
theorem dX10_price_12 : decode cX10_price 12 = .ok (.getfield 29, 3) := by decide +kernel
theorem dX10_price_15 : decode cX10_price 15 = .ok (.iload_n 2, 1) := by decide +kernel
theorem dX10_price_16 : decode cX10_price 16 = .ok (.invokevirtual 59, 3) := by decide +kernel
theorem dX10_price_19 : decode cX10_price 19 = .ok (.ifCond .ne 5, 3) := by decide +kernel
theorem dX10_price_22 : decode cX10_price 22 = .ok (.iconst (-1), 1) := by decide +kernel
theorem dX10_price_23 : decode cX10_price 23 = .ok (.ireturn, 1) := by decide +kernel
theorem dX10_price_24 : decode cX10_price 24 = .ok (.aload_n 0, 1) := by decide +kernel
theorem dX10_price_25 : decode cX10_price 25 = .ok (.getfield 29, 3) := by decide +kernel
theorem dX10_price_28 : decode cX10_price 28 = .ok (.getfield 111, 3) := by decide +kernel
theorem dX10_price_31 : decode cX10_price 31 = .ok (.iload_n 1, 1) := by decide +kernel
theorem dX10_price_32 : decode cX10_price 32 = .ok (.aaload, 1) := by decide +kernel
theorem dX10_price_33 : decode cX10_price 33 = .ok (.invokevirtual 161, 3) := by decide +kernel
theorem dX10_price_36 : decode cX10_price 36 = .ok (.ifCond .ne 6, 3) := by decide +kernel
theorem dX10_price_39 : decode cX10_price 39 = .ok (.bipush (-5), 2) := by decide +kernel
theorem dX10_price_41 : decode cX10_price 41 = .ok (.ireturn, 1) := by decide +kernel
theorem dX10_price_42 : decode cX10_price 42 = .ok (.aload_n 0, 1) := by decide +kernel
theorem dX10_price_43 : decode cX10_price 43 = .ok (.getfield 29, 3) := by decide +kernel
theorem dX10_price_46 : decode cX10_price 46 = .ok (.iload_n 1, 1) := by decide +kernel
theorem dX10_price_47 : decode cX10_price 47 = .ok (.aload_n 0, 1) := by decide +kernel
theorem dX10_price_48 : decode cX10_price 48 = .ok (.getfield 29, 3) := by decide +kernel
theorem dX10_price_51 : decode cX10_price 51 = .ok (.getfield 63, 3) := by decide +kernel
theorem dX10_price_54 : decode cX10_price 54 = .ok (.iload_n 2, 1) := by decide +kernel
theorem dX10_price_55 : decode cX10_price 55 = .ok (.aaload, 1) := by decide +kernel
theorem dX10_price_56 : decode cX10_price 56 = .ok (.getfield 171, 3) := by decide +kernel
theorem dX10_price_59 : decode cX10_price 59 = .ok (.invokevirtual 174, 3) := by decide +kernel
theorem dX10_price_62 : decode cX10_price 62 = .ok (.ireturn, 1) := by decide +kernel
theorem dX10_firstReviewer_0 : decode cX10_firstReviewer 0 = .ok (.aload_n 0, 1) := by decide +kernel
theorem dX10_firstReviewer_1 : decode cX10_firstReviewer 1 = .ok (.getfield 29, 3) := by decide +kernel
theorem dX10_firstReviewer_4 : decode cX10_firstReviewer 4 = .ok (.iload_n 1, 1) := by decide +kernel
theorem dX10_firstReviewer_5 : decode cX10_firstReviewer 5 = .ok (.invokevirtual 105, 3) := by decide +kernel
theorem dX10_firstReviewer_8 : decode cX10_firstReviewer 8 = .ok (.ifCond .ne 5, 3) := by decide +kernel
theorem dX10_firstReviewer_11 : decode cX10_firstReviewer 11 = .ok (.iconst (-1), 1) := by decide +kernel
theorem dX10_firstReviewer_12 : decode cX10_firstReviewer 12 = .ok (.ireturn, 1) := by decide +kernel
theorem dX10_firstReviewer_13 : decode cX10_firstReviewer 13 = .ok (.iconst 0, 1) := by decide +kernel
theorem dX10_firstReviewer_14 : decode cX10_firstReviewer 14 = .ok (.istore_n 2, 1) := by decide +kernel
theorem dX10_firstReviewer_15 : decode cX10_firstReviewer 15 = .ok (.iload_n 2, 1) := by decide +kernel
theorem dX10_firstReviewer_16 : decode cX10_firstReviewer 16 = .ok (.aload_n 0, 1) := by decide +kernel
theorem dX10_firstReviewer_17 : decode cX10_firstReviewer 17 = .ok (.getfield 29, 3) := by decide +kernel
theorem dX10_firstReviewer_20 : decode cX10_firstReviewer 20 = .ok (.getfield 47, 3) := by decide +kernel
theorem dX10_firstReviewer_23 : decode cX10_firstReviewer 23 = .ok (.if_icmp .ge 23, 3) := by decide +kernel
theorem dX10_firstReviewer_26 : decode cX10_firstReviewer 26 = .ok (.aload_n 0, 1) := by decide +kernel
theorem dX10_firstReviewer_27 : decode cX10_firstReviewer 27 = .ok (.getfield 29, 3) := by decide +kernel
theorem dX10_firstReviewer_30 : decode cX10_firstReviewer 30 = .ok (.iload_n 1, 1) := by decide +kernel
theorem dX10_firstReviewer_31 : decode cX10_firstReviewer 31 = .ok (.iload_n 2, 1) := by decide +kernel
theorem dX10_firstReviewer_32 : decode cX10_firstReviewer 32 = .ok (.invokevirtual 213, 3) := by decide +kernel
theorem dX10_firstReviewer_35 : decode cX10_firstReviewer 35 = .ok (.ifCond .eq 5, 3) := by decide +kernel
theorem dX10_firstReviewer_38 : decode cX10_firstReviewer 38 = .ok (.iload_n 2, 1) := by decide +kernel
theorem dX10_firstReviewer_39 : decode cX10_firstReviewer 39 = .ok (.ireturn, 1) := by decide +kernel
theorem dX10_firstReviewer_40 : decode cX10_firstReviewer 40 = .ok (.iinc 2 1, 3) := by decide +kernel
theorem dX10_firstReviewer_43 : decode cX10_firstReviewer 43 = .ok (.goto (-28), 3) := by decide +kernel
theorem dX10_firstReviewer_46 : decode cX10_firstReviewer 46 = .ok (.bipush (-5), 2) := by decide +kernel
theorem dX10_firstReviewer_48 : decode cX10_firstReviewer 48 = .ok (.ireturn, 1) := by decide +kernel
theorem dX10_entry_0 : decode cX10_entry 0 = .ok (.aload_n 0, 1) := by decide +kernel
theorem dX10_entry_1 : decode cX10_entry 1 = .ok (.getfield 29, 3) := by decide +kernel
theorem dX10_entry_4 : decode cX10_entry 4 = .ok (.getfield 137, 3) := by decide +kernel
theorem dX10_entry_7 : decode cX10_entry 7 = .ok (.iload_n 1, 1) := by decide +kernel
theorem dX10_entry_8 : decode cX10_entry 8 = .ok (.invokevirtual 299, 3) := by decide +kernel
theorem dX10_entry_11 : decode cX10_entry 11 = .ok (.ifCond .ne 5, 3) := by decide +kernel
theorem dX10_entry_14 : decode cX10_entry 14 = .ok (.iconst (-1), 1) := by decide +kernel
theorem dX10_entry_15 : decode cX10_entry 15 = .ok (.ireturn, 1) := by decide +kernel
theorem dX10_entry_16 : decode cX10_entry 16 = .ok (.aload_n 0, 1) := by decide +kernel
theorem dX10_entry_17 : decode cX10_entry 17 = .ok (.getfield 29, 3) := by decide +kernel
theorem dX10_entry_20 : decode cX10_entry 20 = .ok (.getfield 137, 3) := by decide +kernel
theorem dX10_entry_23 : decode cX10_entry 23 = .ok (.getfield 312, 3) := by decide +kernel
theorem dX10_entry_26 : decode cX10_entry 26 = .ok (.iload_n 1, 1) := by decide +kernel
theorem dX10_entry_27 : decode cX10_entry 27 = .ok (.aaload, 1) := by decide +kernel
theorem dX10_entry_28 : decode cX10_entry 28 = .ok (.astore_n 3, 1) := by decide +kernel
theorem dX10_entry_29 : decode cX10_entry 29 = .ok (.iload_n 2, 1) := by decide +kernel
theorem dX10_entry_30 : decode cX10_entry 30 = .ok (.tableswitch 84 0 4 #[34, 42, 47, 60, 72], 34) := by decide +kernel
theorem dX10_entry_64 : decode cX10_entry 64 = .ok (.aload_n 3, 1) := by decide +kernel
theorem dX10_entry_65 : decode cX10_entry 65 = .ok (.getfield 316, 3) := by decide +kernel
theorem dX10_entry_68 : decode cX10_entry 68 = .ok (.getfield 277, 3) := by decide +kernel
theorem dX10_entry_71 : decode cX10_entry 71 = .ok (.ireturn, 1) := by decide +kernel
theorem dX10_entry_72 : decode cX10_entry 72 = .ok (.aload_n 3, 1) := by decide +kernel
theorem dX10_entry_73 : decode cX10_entry 73 = .ok (.getfield 322, 3) := by decide +kernel
theorem dX10_entry_76 : decode cX10_entry 76 = .ok (.ireturn, 1) := by decide +kernel
theorem dX10_entry_77 : decode cX10_entry 77 = .ok (.aload_n 3, 1) := by decide +kernel
theorem dX10_entry_78 : decode cX10_entry 78 = .ok (.getfield 325, 3) := by decide +kernel
theorem dX10_entry_81 : decode cX10_entry 81 = .ok (.ifCond .eq 7, 3) := by decide +kernel
theorem dX10_entry_84 : decode cX10_entry 84 = .ok (.iconst 1, 1) := by decide +kernel
theorem dX10_entry_85 : decode cX10_entry 85 = .ok (.goto 4, 3) := by decide +kernel
theorem dX10_entry_88 : decode cX10_entry 88 = .ok (.iconst 0, 1) := by decide +kernel
theorem dX10_entry_89 : decode cX10_entry 89 = .ok (.ireturn, 1) := by decide +kernel
theorem dX10_entry_90 : decode cX10_entry 90 = .ok (.aload_n 0, 1) := by decide +kernel
theorem dX10_entry_91 : decode cX10_entry 91 = .ok (.getfield 29, 3) := by decide +kernel
theorem dX10_entry_94 : decode cX10_entry 94 = .ok (.getfield 137, 3) := by decide +kernel
theorem dX10_entry_97 : decode cX10_entry 97 = .ok (.iload_n 1, 1) := by decide +kernel
theorem dX10_entry_98 : decode cX10_entry 98 = .ok (.invokevirtual 328, 3) := by decide +kernel
theorem dX10_entry_101 : decode cX10_entry 101 = .ok (.ireturn, 1) := by decide +kernel
theorem dX10_entry_102 : decode cX10_entry 102 = .ok (.aload_n 0, 1) := by decide +kernel
theorem dX10_entry_103 : decode cX10_entry 103 = .ok (.getfield 29, 3) := by decide +kernel
theorem dX10_entry_106 : decode cX10_entry 106 = .ok (.aload_n 3, 1) := by decide +kernel
theorem dX10_entry_107 : decode cX10_entry 107 = .ok (.getfield 316, 3) := by decide +kernel
theorem dX10_entry_110 : decode cX10_entry 110 = .ok (.invokevirtual 331, 3) := by decide +kernel
theorem dX10_entry_113 : decode cX10_entry 113 = .ok (.ireturn, 1) := by decide +kernel
theorem dX10_entry_114 : decode cX10_entry 114 = .ok (.bipush (-2), 2) := by decide +kernel
theorem dX10_entry_116 : decode cX10_entry 116 = .ok (.ireturn, 1) := by decide +kernel
theorem dX10_dispute_0 : decode cX10_dispute 0 = .ok (.aload_n 0, 1) := by decide +kernel
theorem dX10_dispute_1 : decode cX10_dispute 1 = .ok (.getfield 29, 3) := by decide +kernel
theorem dX10_dispute_4 : decode cX10_dispute 4 = .ok (.getfield 137, 3) := by decide +kernel
theorem dX10_dispute_7 : decode cX10_dispute 7 = .ok (.iload_n 1, 1) := by decide +kernel
theorem dX10_dispute_8 : decode cX10_dispute 8 = .ok (.invokevirtual 234, 3) := by decide +kernel
theorem dX10_dispute_11 : decode cX10_dispute 11 = .ok (.ifCond .ne 5, 3) := by decide +kernel
theorem dX10_dispute_14 : decode cX10_dispute 14 = .ok (.iconst (-1), 1) := by decide +kernel
theorem dX10_dispute_15 : decode cX10_dispute 15 = .ok (.ireturn, 1) := by decide +kernel
theorem dX10_dispute_16 : decode cX10_dispute 16 = .ok (.aload_n 0, 1) := by decide +kernel
theorem dX10_dispute_17 : decode cX10_dispute 17 = .ok (.getfield 29, 3) := by decide +kernel
theorem dX10_dispute_20 : decode cX10_dispute 20 = .ok (.getfield 137, 3) := by decide +kernel
theorem dX10_dispute_23 : decode cX10_dispute 23 = .ok (.getfield 237, 3) := by decide +kernel
theorem dX10_dispute_26 : decode cX10_dispute 26 = .ok (.iload_n 1, 1) := by decide +kernel
theorem dX10_dispute_27 : decode cX10_dispute 27 = .ok (.aaload, 1) := by decide +kernel
theorem dX10_dispute_28 : decode cX10_dispute 28 = .ok (.astore_n 3, 1) := by decide +kernel
theorem dX10_dispute_29 : decode cX10_dispute 29 = .ok (.iload_n 2, 1) := by decide +kernel
theorem dX10_dispute_30 : decode cX10_dispute 30 = .ok (.tableswitch 79 0 4 #[34, 39, 44, 49, 62], 34) := by decide +kernel
theorem dX10_dispute_64 : decode cX10_dispute 64 = .ok (.aload_n 3, 1) := by decide +kernel
theorem dX10_dispute_65 : decode cX10_dispute 65 = .ok (.getfield 334, 3) := by decide +kernel
theorem dX10_dispute_68 : decode cX10_dispute 68 = .ok (.ireturn, 1) := by decide +kernel
theorem dX10_dispute_69 : decode cX10_dispute 69 = .ok (.aload_n 3, 1) := by decide +kernel
theorem dX10_dispute_70 : decode cX10_dispute 70 = .ok (.getfield 337, 3) := by decide +kernel
theorem dX10_dispute_73 : decode cX10_dispute 73 = .ok (.ireturn, 1) := by decide +kernel
theorem dX10_dispute_74 : decode cX10_dispute 74 = .ok (.aload_n 3, 1) := by decide +kernel
theorem dX10_dispute_75 : decode cX10_dispute 75 = .ok (.getfield 340, 3) := by decide +kernel
theorem dX10_dispute_78 : decode cX10_dispute 78 = .ok (.ireturn, 1) := by decide +kernel
theorem dX10_dispute_79 : decode cX10_dispute 79 = .ok (.aload_n 3, 1) := by decide +kernel
theorem dX10_dispute_80 : decode cX10_dispute 80 = .ok (.invokevirtual 241, 3) := by decide +kernel
theorem dX10_dispute_83 : decode cX10_dispute 83 = .ok (.ifCond .eq 7, 3) := by decide +kernel
theorem dX10_dispute_86 : decode cX10_dispute 86 = .ok (.iconst 1, 1) := by decide +kernel
theorem dX10_dispute_87 : decode cX10_dispute 87 = .ok (.goto 4, 3) := by decide +kernel
theorem dX10_dispute_90 : decode cX10_dispute 90 = .ok (.iconst 0, 1) := by decide +kernel
theorem dX10_dispute_91 : decode cX10_dispute 91 = .ok (.ireturn, 1) := by decide +kernel
theorem dX10_dispute_92 : decode cX10_dispute 92 = .ok (.aload_n 3, 1) := by decide +kernel
theorem dX10_dispute_93 : decode cX10_dispute 93 = .ok (.invokevirtual 241, 3) := by decide +kernel
theorem dX10_dispute_96 : decode cX10_dispute 96 = .ok (.ifCond .eq 10, 3) := by decide +kernel
theorem dX10_dispute_99 : decode cX10_dispute 99 = .ok (.aload_n 3, 1) := by decide +kernel
theorem dX10_dispute_100 : decode cX10_dispute 100 = .ok (.getfield 343, 3) := by decide +kernel
theorem dX10_dispute_103 : decode cX10_dispute 103 = .ok (.goto 5, 3) := by decide +kernel
theorem dX10_dispute_106 : decode cX10_dispute 106 = .ok (.bipush (-5), 2) := by decide +kernel
theorem dX10_dispute_108 : decode cX10_dispute 108 = .ok (.ireturn, 1) := by decide +kernel
theorem dX10_dispute_109 : decode cX10_dispute 109 = .ok (.bipush (-2), 2) := by decide +kernel
theorem dX10_dispute_111 : decode cX10_dispute 111 = .ok (.ireturn, 1) := by decide +kernel
theorem dX10_fileAt_0 : decode cX10_fileAt 0 = .ok (.iload_n 1, 1) := by decide +kernel
theorem dX10_fileAt_1 : decode cX10_fileAt 1 = .ok (.ifCond .ge 6, 3) := by decide +kernel
theorem dX10_fileAt_4 : decode cX10_fileAt 4 = .ok (.bipush (-2), 2) := by decide +kernel
theorem dX10_fileAt_6 : decode cX10_fileAt 6 = .ok (.ireturn, 1) := by decide +kernel
theorem dX10_fileAt_7 : decode cX10_fileAt 7 = .ok (.iload_n 1, 1) := by decide +kernel
theorem dX10_fileAt_8 : decode cX10_fileAt 8 = .ok (.aload_n 0, 1) := by decide +kernel
theorem dX10_fileAt_9 : decode cX10_fileAt 9 = .ok (.getfield 29, 3) := by decide +kernel
theorem dX10_fileAt_12 : decode cX10_fileAt 12 = .ok (.getfield 98, 3) := by decide +kernel
theorem dX10_fileAt_15 : decode cX10_fileAt 15 = .ok (.if_icmp .ge 15, 3) := by decide +kernel
theorem dX10_fileAt_18 : decode cX10_fileAt 18 = .ok (.aload_n 0, 1) := by decide +kernel
theorem dX10_fileAt_19 : decode cX10_fileAt 19 = .ok (.getfield 29, 3) := by decide +kernel
theorem dX10_fileAt_22 : decode cX10_fileAt 22 = .ok (.getfield 346, 3) := by decide +kernel
theorem dX10_fileAt_25 : decode cX10_fileAt 25 = .ok (.iload_n 1, 1) := by decide +kernel
theorem dX10_fileAt_26 : decode cX10_fileAt 26 = .ok (.iaload, 1) := by decide +kernel
theorem dX10_fileAt_27 : decode cX10_fileAt 27 = .ok (.goto 5, 3) := by decide +kernel
theorem dX10_fileAt_30 : decode cX10_fileAt 30 = .ok (.bipush (-5), 2) := by decide +kernel
theorem dX10_fileAt_32 : decode cX10_fileAt 32 = .ok (.ireturn, 1) := by decide +kernel
theorem dX10_count_0 : decode cX10_count 0 = .ok (.iload_n 1, 1) := by decide +kernel
theorem dX10_count_1 : decode cX10_count 1 = .ok (.tableswitch 200 0 16 #[83, 91, 99, 107, 118, 129, 140, 148, 156, 164, 172, 172, 172, 172, 172, 184, 192], 83) := by decide +kernel
theorem dX10_count_84 : decode cX10_count 84 = .ok (.aload_n 0, 1) := by decide +kernel
theorem dX10_count_85 : decode cX10_count 85 = .ok (.getfield 29, 3) := by decide +kernel
theorem dX10_count_88 : decode cX10_count 88 = .ok (.getfield 98, 3) := by decide +kernel
theorem dX10_count_91 : decode cX10_count 91 = .ok (.ireturn, 1) := by decide +kernel
theorem dX10_count_92 : decode cX10_count 92 = .ok (.aload_n 0, 1) := by decide +kernel
theorem dX10_count_93 : decode cX10_count 93 = .ok (.getfield 29, 3) := by decide +kernel
theorem dX10_count_96 : decode cX10_count 96 = .ok (.invokevirtual 349, 3) := by decide +kernel
theorem dX10_count_99 : decode cX10_count 99 = .ok (.ireturn, 1) := by decide +kernel
theorem dX10_count_100 : decode cX10_count 100 = .ok (.aload_n 0, 1) := by decide +kernel
theorem dX10_count_101 : decode cX10_count 101 = .ok (.getfield 29, 3) := by decide +kernel
theorem dX10_count_104 : decode cX10_count 104 = .ok (.getfield 47, 3) := by decide +kernel
theorem dX10_count_107 : decode cX10_count 107 = .ok (.ireturn, 1) := by decide +kernel
theorem dX10_count_108 : decode cX10_count 108 = .ok (.aload_n 0, 1) := by decide +kernel
theorem dX10_count_109 : decode cX10_count 109 = .ok (.getfield 29, 3) := by decide +kernel
theorem dX10_count_112 : decode cX10_count 112 = .ok (.getfield 137, 3) := by decide +kernel
theorem dX10_count_115 : decode cX10_count 115 = .ok (.getfield 147, 3) := by decide +kernel
theorem dX10_count_118 : decode cX10_count 118 = .ok (.ireturn, 1) := by decide +kernel
theorem dX10_count_119 : decode cX10_count 119 = .ok (.aload_n 0, 1) := by decide +kernel
theorem dX10_count_120 : decode cX10_count 120 = .ok (.getfield 29, 3) := by decide +kernel
theorem dX10_count_123 : decode cX10_count 123 = .ok (.getfield 137, 3) := by decide +kernel
theorem dX10_count_126 : decode cX10_count 126 = .ok (.getfield 352, 3) := by decide +kernel
theorem dX10_count_129 : decode cX10_count 129 = .ok (.ireturn, 1) := by decide +kernel
theorem dX10_count_130 : decode cX10_count 130 = .ok (.aload_n 0, 1) := by decide +kernel
theorem dX10_count_131 : decode cX10_count 131 = .ok (.getfield 29, 3) := by decide +kernel
theorem dX10_count_134 : decode cX10_count 134 = .ok (.getfield 137, 3) := by decide +kernel
theorem dX10_count_137 : decode cX10_count 137 = .ok (.invokevirtual 355, 3) := by decide +kernel
theorem dX10_count_140 : decode cX10_count 140 = .ok (.ireturn, 1) := by decide +kernel
theorem dX10_count_141 : decode cX10_count 141 = .ok (.aload_n 0, 1) := by decide +kernel
theorem dX10_count_142 : decode cX10_count 142 = .ok (.getfield 29, 3) := by decide +kernel
theorem dX10_count_145 : decode cX10_count 145 = .ok (.invokevirtual 358, 3) := by decide +kernel
theorem dX10_count_148 : decode cX10_count 148 = .ok (.ireturn, 1) := by decide +kernel
theorem dX10_count_149 : decode cX10_count 149 = .ok (.aload_n 0, 1) := by decide +kernel
theorem dX10_count_150 : decode cX10_count 150 = .ok (.getfield 29, 3) := by decide +kernel
theorem dX10_count_153 : decode cX10_count 153 = .ok (.invokevirtual 361, 3) := by decide +kernel
theorem dX10_count_156 : decode cX10_count 156 = .ok (.ireturn, 1) := by decide +kernel
theorem dX10_count_157 : decode cX10_count 157 = .ok (.aload_n 0, 1) := by decide +kernel
theorem dX10_count_158 : decode cX10_count 158 = .ok (.getfield 29, 3) := by decide +kernel
theorem dX10_count_161 : decode cX10_count 161 = .ok (.invokevirtual 364, 3) := by decide +kernel
theorem dX10_count_164 : decode cX10_count 164 = .ok (.ireturn, 1) := by decide +kernel
theorem dX10_count_165 : decode cX10_count 165 = .ok (.aload_n 0, 1) := by decide +kernel
theorem dX10_count_166 : decode cX10_count 166 = .ok (.getfield 29, 3) := by decide +kernel
theorem dX10_count_169 : decode cX10_count 169 = .ok (.invokevirtual 367, 3) := by decide +kernel
theorem dX10_count_172 : decode cX10_count 172 = .ok (.ireturn, 1) := by decide +kernel
theorem dX10_count_173 : decode cX10_count 173 = .ok (.aload_n 0, 1) := by decide +kernel
theorem dX10_count_174 : decode cX10_count 174 = .ok (.getfield 29, 3) := by decide +kernel
theorem dX10_count_177 : decode cX10_count 177 = .ok (.iload_n 1, 1) := by decide +kernel
theorem dX10_count_178 : decode cX10_count 178 = .ok (.bipush 10, 2) := by decide +kernel
theorem dX10_count_180 : decode cX10_count 180 = .ok (.isub, 1) := by decide +kernel
theorem dX10_count_181 : decode cX10_count 181 = .ok (.invokevirtual 370, 3) := by decide +kernel
theorem dX10_count_184 : decode cX10_count 184 = .ok (.ireturn, 1) := by decide +kernel
theorem dX10_count_185 : decode cX10_count 185 = .ok (.aload_n 0, 1) := by decide +kernel
theorem dX10_count_186 : decode cX10_count 186 = .ok (.getfield 39, 3) := by decide +kernel
theorem dX10_count_189 : decode cX10_count 189 = .ok (.getfield 249, 3) := by decide +kernel
theorem dX10_count_192 : decode cX10_count 192 = .ok (.ireturn, 1) := by decide +kernel
theorem dX10_count_193 : decode cX10_count 193 = .ok (.aload_n 0, 1) := by decide +kernel
theorem dX10_count_194 : decode cX10_count 194 = .ok (.getfield 18, 3) := by decide +kernel
theorem dX10_count_197 : decode cX10_count 197 = .ok (.getfield 91, 3) := by decide +kernel
theorem dX10_count_200 : decode cX10_count 200 = .ok (.ireturn, 1) := by decide +kernel
theorem dX10_count_201 : decode cX10_count 201 = .ok (.bipush (-2), 2) := by decide +kernel
theorem dX10_count_203 : decode cX10_count 203 = .ok (.ireturn, 1) := by decide +kernel
theorem dX10_isBand_0 : decode cX10_isBand 0 = .ok (.iload_n 0, 1) := by decide +kernel
theorem dX10_isBand_1 : decode cX10_isBand 1 = .ok (.ifCond .lt 13, 3) := by decide +kernel
theorem dX10_isBand_4 : decode cX10_isBand 4 = .ok (.iload_n 0, 1) := by decide +kernel
theorem dX10_isBand_5 : decode cX10_isBand 5 = .ok (.bipush 6, 2) := by decide +kernel
theorem dX10_isBand_7 : decode cX10_isBand 7 = .ok (.if_icmp .ge 7, 3) := by decide +kernel
theorem dX10_isBand_10 : decode cX10_isBand 10 = .ok (.iconst 1, 1) := by decide +kernel
theorem dX10_isBand_11 : decode cX10_isBand 11 = .ok (.goto 4, 3) := by decide +kernel
theorem dX10_isBand_14 : decode cX10_isBand 14 = .ok (.iconst 0, 1) := by decide +kernel
theorem dX10_isBand_15 : decode cX10_isBand 15 = .ok (.ireturn, 1) := by decide +kernel
theorem dX10_isTarget_0 : decode cX10_isTarget 0 = .ok (.iload_n 0, 1) := by decide +kernel
theorem dX10_isTarget_1 : decode cX10_isTarget 1 = .ok (.iconst 1, 1) := by decide +kernel
theorem dX10_isTarget_2 : decode cX10_isTarget 2 = .ok (.if_icmp .lt 14, 3) := by decide +kernel
theorem dX10_isTarget_5 : decode cX10_isTarget 5 = .ok (.iload_n 0, 1) := by decide +kernel
theorem dX10_isTarget_6 : decode cX10_isTarget 6 = .ok (.sipush 999, 3) := by decide +kernel
theorem dX10_isTarget_9 : decode cX10_isTarget 9 = .ok (.if_icmp .gt 7, 3) := by decide +kernel
theorem dX10_isTarget_12 : decode cX10_isTarget 12 = .ok (.iconst 1, 1) := by decide +kernel
theorem dX10_isTarget_13 : decode cX10_isTarget 13 = .ok (.goto 4, 3) := by decide +kernel
theorem dX10_isTarget_16 : decode cX10_isTarget 16 = .ok (.iconst 0, 1) := by decide +kernel
theorem dX10_isTarget_17 : decode cX10_isTarget 17 = .ok (.ireturn, 1) := by decide +kernel
theorem dJ6_bitCount_0f7a4_0 : decode cJ6_bitCount_0f7a4 0 = .ok (.iload_n 0, 1) := by decide +kernel
theorem dJ6_bitCount_0f7a4_1 : decode cJ6_bitCount_0f7a4 1 = .ok (.iload_n 0, 1) := by decide +kernel
theorem dJ6_bitCount_0f7a4_2 : decode cJ6_bitCount_0f7a4 2 = .ok (.iconst 1, 1) := by decide +kernel
theorem dJ6_bitCount_0f7a4_3 : decode cJ6_bitCount_0f7a4 3 = .ok (.iushr, 1) := by decide +kernel
theorem dJ6_bitCount_0f7a4_4 : decode cJ6_bitCount_0f7a4 4 = .ok (.ldc_w 265, 3) := by decide +kernel
theorem dJ6_bitCount_0f7a4_7 : decode cJ6_bitCount_0f7a4 7 = .ok (.iand, 1) := by decide +kernel
theorem dJ6_bitCount_0f7a4_8 : decode cJ6_bitCount_0f7a4 8 = .ok (.isub, 1) := by decide +kernel
theorem dJ6_bitCount_0f7a4_9 : decode cJ6_bitCount_0f7a4 9 = .ok (.istore_n 0, 1) := by decide +kernel
theorem dJ6_bitCount_0f7a4_10 : decode cJ6_bitCount_0f7a4 10 = .ok (.iload_n 0, 1) := by decide +kernel
theorem dJ6_bitCount_0f7a4_11 : decode cJ6_bitCount_0f7a4 11 = .ok (.ldc_w 266, 3) := by decide +kernel
theorem dJ6_bitCount_0f7a4_14 : decode cJ6_bitCount_0f7a4 14 = .ok (.iand, 1) := by decide +kernel
theorem dJ6_bitCount_0f7a4_15 : decode cJ6_bitCount_0f7a4 15 = .ok (.iload_n 0, 1) := by decide +kernel
theorem dJ6_bitCount_0f7a4_16 : decode cJ6_bitCount_0f7a4 16 = .ok (.iconst 2, 1) := by decide +kernel
theorem dJ6_bitCount_0f7a4_17 : decode cJ6_bitCount_0f7a4 17 = .ok (.iushr, 1) := by decide +kernel
theorem dJ6_bitCount_0f7a4_18 : decode cJ6_bitCount_0f7a4 18 = .ok (.ldc_w 266, 3) := by decide +kernel
theorem dJ6_bitCount_0f7a4_21 : decode cJ6_bitCount_0f7a4 21 = .ok (.iand, 1) := by decide +kernel
theorem dJ6_bitCount_0f7a4_22 : decode cJ6_bitCount_0f7a4 22 = .ok (.iadd, 1) := by decide +kernel
theorem dJ6_bitCount_0f7a4_23 : decode cJ6_bitCount_0f7a4 23 = .ok (.istore_n 0, 1) := by decide +kernel
theorem dJ6_bitCount_0f7a4_24 : decode cJ6_bitCount_0f7a4 24 = .ok (.iload_n 0, 1) := by decide +kernel
theorem dJ6_bitCount_0f7a4_25 : decode cJ6_bitCount_0f7a4 25 = .ok (.iload_n 0, 1) := by decide +kernel
theorem dJ6_bitCount_0f7a4_26 : decode cJ6_bitCount_0f7a4 26 = .ok (.iconst 4, 1) := by decide +kernel
theorem dJ6_bitCount_0f7a4_27 : decode cJ6_bitCount_0f7a4 27 = .ok (.iushr, 1) := by decide +kernel
theorem dJ6_bitCount_0f7a4_28 : decode cJ6_bitCount_0f7a4 28 = .ok (.iadd, 1) := by decide +kernel
theorem dJ6_bitCount_0f7a4_29 : decode cJ6_bitCount_0f7a4 29 = .ok (.ldc_w 267, 3) := by decide +kernel
theorem dJ6_bitCount_0f7a4_32 : decode cJ6_bitCount_0f7a4 32 = .ok (.iand, 1) := by decide +kernel
theorem dJ6_bitCount_0f7a4_33 : decode cJ6_bitCount_0f7a4 33 = .ok (.istore_n 0, 1) := by decide +kernel
theorem dJ6_bitCount_0f7a4_34 : decode cJ6_bitCount_0f7a4 34 = .ok (.iload_n 0, 1) := by decide +kernel
theorem dJ6_bitCount_0f7a4_35 : decode cJ6_bitCount_0f7a4 35 = .ok (.iload_n 0, 1) := by decide +kernel
theorem dJ6_bitCount_0f7a4_36 : decode cJ6_bitCount_0f7a4 36 = .ok (.bipush 8, 2) := by decide +kernel
theorem dJ6_bitCount_0f7a4_38 : decode cJ6_bitCount_0f7a4 38 = .ok (.iushr, 1) := by decide +kernel
theorem dJ6_bitCount_0f7a4_39 : decode cJ6_bitCount_0f7a4 39 = .ok (.iadd, 1) := by decide +kernel
theorem dJ6_bitCount_0f7a4_40 : decode cJ6_bitCount_0f7a4 40 = .ok (.istore_n 0, 1) := by decide +kernel
theorem dJ6_bitCount_0f7a4_41 : decode cJ6_bitCount_0f7a4 41 = .ok (.iload_n 0, 1) := by decide +kernel
theorem dJ6_bitCount_0f7a4_42 : decode cJ6_bitCount_0f7a4 42 = .ok (.iload_n 0, 1) := by decide +kernel
theorem dJ6_bitCount_0f7a4_43 : decode cJ6_bitCount_0f7a4 43 = .ok (.bipush 16, 2) := by decide +kernel
theorem dJ6_bitCount_0f7a4_45 : decode cJ6_bitCount_0f7a4 45 = .ok (.iushr, 1) := by decide +kernel
theorem dJ6_bitCount_0f7a4_46 : decode cJ6_bitCount_0f7a4 46 = .ok (.iadd, 1) := by decide +kernel
theorem dJ6_bitCount_0f7a4_47 : decode cJ6_bitCount_0f7a4 47 = .ok (.istore_n 0, 1) := by decide +kernel
theorem dJ6_bitCount_0f7a4_48 : decode cJ6_bitCount_0f7a4 48 = .ok (.iload_n 0, 1) := by decide +kernel
theorem dJ6_bitCount_0f7a4_49 : decode cJ6_bitCount_0f7a4 49 = .ok (.bipush 63, 2) := by decide +kernel
theorem dJ6_bitCount_0f7a4_51 : decode cJ6_bitCount_0f7a4 51 = .ok (.iand, 1) := by decide +kernel
theorem dJ6_bitCount_0f7a4_52 : decode cJ6_bitCount_0f7a4 52 = .ok (.ireturn, 1) := by decide +kernel
theorem dJ9_max_7cf53_0 : decode cJ9_max_7cf53 0 = .ok (.iload_n 0, 1) := by decide +kernel
theorem dJ9_max_7cf53_1 : decode cJ9_max_7cf53 1 = .ok (.iload_n 1, 1) := by decide +kernel
theorem dJ9_max_7cf53_2 : decode cJ9_max_7cf53 2 = .ok (.if_icmp .lt 7, 3) := by decide +kernel
theorem dJ9_max_7cf53_5 : decode cJ9_max_7cf53 5 = .ok (.iload_n 0, 1) := by decide +kernel
theorem dJ9_max_7cf53_6 : decode cJ9_max_7cf53 6 = .ok (.goto 4, 3) := by decide +kernel
theorem dJ9_max_7cf53_9 : decode cJ9_max_7cf53 9 = .ok (.iload_n 1, 1) := by decide +kernel
theorem dJ9_max_7cf53_10 : decode cJ9_max_7cf53 10 = .ok (.ireturn, 1) := by decide +kernel
theorem dJ9_min_7cf53_0 : decode cJ9_min_7cf53 0 = .ok (.iload_n 0, 1) := by decide +kernel
theorem dJ9_min_7cf53_1 : decode cJ9_min_7cf53 1 = .ok (.iload_n 1, 1) := by decide +kernel
theorem dJ9_min_7cf53_2 : decode cJ9_min_7cf53 2 = .ok (.if_icmp .gt 7, 3) := by decide +kernel
theorem dJ9_min_7cf53_5 : decode cJ9_min_7cf53 5 = .ok (.iload_n 0, 1) := by decide +kernel
theorem dJ9_min_7cf53_6 : decode cJ9_min_7cf53 6 = .ok (.goto 4, 3) := by decide +kernel
theorem dJ9_min_7cf53_9 : decode cJ9_min_7cf53 9 = .ok (.iload_n 1, 1) := by decide +kernel
theorem dJ9_min_7cf53_10 : decode cJ9_min_7cf53 10 = .ok (.ireturn, 1) := by decide +kernel
theorem dL_law_0 : decode cL_law 0 = .ok (.new 7, 3) := by decide +kernel
theorem dL_law_3 : decode cL_law 3 = .ok (.dup, 1) := by decide +kernel
theorem dL_law_4 : decode cL_law 4 = .ok (.invokespecial 9, 3) := by decide +kernel
theorem dL_law_7 : decode cL_law 7 = .ok (.astore_n 1, 1) := by decide +kernel
theorem dL_law_8 : decode cL_law 8 = .ok (.new 10, 3) := by decide +kernel
theorem dL_law_11 : decode cL_law 11 = .ok (.dup, 1) := by decide +kernel
theorem dL_law_12 : decode cL_law 12 = .ok (.invokespecial 12, 3) := by decide +kernel
theorem dL_law_15 : decode cL_law 15 = .ok (.astore_n 2, 1) := by decide +kernel
theorem dL_law_16 : decode cL_law 16 = .ok (.iconst 0, 1) := by decide +kernel
theorem dL_law_17 : decode cL_law 17 = .ok (.istore_n 3, 1) := by decide +kernel
theorem dL_law_18 : decode cL_law 18 = .ok (.iload_n 3, 1) := by decide +kernel
theorem dL_law_19 : decode cL_law 19 = .ok (.aload_n 0, 1) := by decide +kernel
theorem dL_law_20 : decode cL_law 20 = .ok (.arraylength, 1) := by decide +kernel
theorem dL_law_21 : decode cL_law 21 = .ok (.iconst 4, 1) := by decide +kernel
theorem dL_law_22 : decode cL_law 22 = .ok (.isub, 1) := by decide +kernel
theorem dL_law_23 : decode cL_law 23 = .ok (.if_icmp .gt 1083, 3) := by decide +kernel
theorem dL_law_26 : decode cL_law 26 = .ok (.aload_n 0, 1) := by decide +kernel
theorem dL_law_27 : decode cL_law 27 = .ok (.iload_n 3, 1) := by decide +kernel
theorem dL_law_28 : decode cL_law 28 = .ok (.iaload, 1) := by decide +kernel
theorem dL_law_29 : decode cL_law 29 = .ok (.bipush 31, 2) := by decide +kernel
theorem dL_law_31 : decode cL_law 31 = .ok (.iand, 1) := by decide +kernel
theorem dL_law_32 : decode cL_law 32 = .ok (.tableswitch 1068 0 31 #[144, 167, 226, 259, 284, 297, 310, 333, 356, 389, 412, 445, 488, 521, 554, 577, 610, 623, 636, 649, 682, 715, 758, 801, 844, 877, 900, 933, 956, 989, 1022, 1045], 144) := by decide +kernel
theorem dL_law_176 : decode cL_law 176 = .ok (.aload_n 1, 1) := by decide +kernel
theorem dL_law_177 : decode cL_law 177 = .ok (.aload_n 0, 1) := by decide +kernel
theorem dL_law_178 : decode cL_law 178 = .ok (.iload_n 3, 1) := by decide +kernel
theorem dL_law_179 : decode cL_law 179 = .ok (.iconst 1, 1) := by decide +kernel
theorem dL_law_180 : decode cL_law 180 = .ok (.iadd, 1) := by decide +kernel
theorem dL_law_181 : decode cL_law 181 = .ok (.iaload, 1) := by decide +kernel
theorem dL_law_182 : decode cL_law 182 = .ok (.invokevirtual 13, 3) := by decide +kernel
theorem dL_law_185 : decode cL_law 185 = .ok (.pop, 1) := by decide +kernel
theorem dL_law_186 : decode cL_law 186 = .ok (.aload_n 2, 1) := by decide +kernel
theorem dL_law_187 : decode cL_law 187 = .ok (.aload_n 0, 1) := by decide +kernel
theorem dL_law_188 : decode cL_law 188 = .ok (.iload_n 3, 1) := by decide +kernel
theorem dL_law_189 : decode cL_law 189 = .ok (.iconst 1, 1) := by decide +kernel
theorem dL_law_190 : decode cL_law 190 = .ok (.iadd, 1) := by decide +kernel
theorem dL_law_191 : decode cL_law 191 = .ok (.iaload, 1) := by decide +kernel
theorem dL_law_192 : decode cL_law 192 = .ok (.invokevirtual 17, 3) := by decide +kernel
theorem dL_law_195 : decode cL_law 195 = .ok (.pop, 1) := by decide +kernel
theorem dL_law_196 : decode cL_law 196 = .ok (.goto 904, 3) := by decide +kernel
theorem dL_law_199 : decode cL_law 199 = .ok (.aload_n 1, 1) := by decide +kernel
theorem dL_law_200 : decode cL_law 200 = .ok (.aload_n 0, 1) := by decide +kernel
theorem dL_law_201 : decode cL_law 201 = .ok (.iload_n 3, 1) := by decide +kernel
theorem dL_law_202 : decode cL_law 202 = .ok (.iconst 1, 1) := by decide +kernel
theorem dL_law_203 : decode cL_law 203 = .ok (.iadd, 1) := by decide +kernel
theorem dL_law_204 : decode cL_law 204 = .ok (.iaload, 1) := by decide +kernel
theorem dL_law_205 : decode cL_law 205 = .ok (.aload_n 0, 1) := by decide +kernel
theorem dL_law_206 : decode cL_law 206 = .ok (.iload_n 3, 1) := by decide +kernel
theorem dL_law_207 : decode cL_law 207 = .ok (.iconst 2, 1) := by decide +kernel
theorem dL_law_208 : decode cL_law 208 = .ok (.iadd, 1) := by decide +kernel
theorem dL_law_209 : decode cL_law 209 = .ok (.iaload, 1) := by decide +kernel
theorem dL_law_210 : decode cL_law 210 = .ok (.aload_n 0, 1) := by decide +kernel
theorem dL_law_211 : decode cL_law 211 = .ok (.iload_n 3, 1) := by decide +kernel
theorem dL_law_212 : decode cL_law 212 = .ok (.iconst 3, 1) := by decide +kernel
theorem dL_law_213 : decode cL_law 213 = .ok (.iadd, 1) := by decide +kernel
theorem dL_law_214 : decode cL_law 214 = .ok (.iaload, 1) := by decide +kernel
theorem dL_law_215 : decode cL_law 215 = .ok (.ifCond .eq 7, 3) := by decide +kernel
theorem dL_law_218 : decode cL_law 218 = .ok (.iconst 1, 1) := by decide +kernel
theorem dL_law_219 : decode cL_law 219 = .ok (.goto 4, 3) := by decide +kernel
theorem dL_law_222 : decode cL_law 222 = .ok (.iconst 0, 1) := by decide +kernel
theorem dL_law_223 : decode cL_law 223 = .ok (.invokevirtual 18, 3) := by decide +kernel
theorem dL_law_226 : decode cL_law 226 = .ok (.pop, 1) := by decide +kernel
theorem dL_law_227 : decode cL_law 227 = .ok (.aload_n 2, 1) := by decide +kernel
theorem dL_law_228 : decode cL_law 228 = .ok (.aload_n 0, 1) := by decide +kernel
theorem dL_law_229 : decode cL_law 229 = .ok (.iload_n 3, 1) := by decide +kernel
theorem dL_law_230 : decode cL_law 230 = .ok (.iconst 1, 1) := by decide +kernel
theorem dL_law_231 : decode cL_law 231 = .ok (.iadd, 1) := by decide +kernel
theorem dL_law_232 : decode cL_law 232 = .ok (.iaload, 1) := by decide +kernel
theorem dL_law_233 : decode cL_law 233 = .ok (.aload_n 0, 1) := by decide +kernel
theorem dL_law_234 : decode cL_law 234 = .ok (.iload_n 3, 1) := by decide +kernel
theorem dL_law_235 : decode cL_law 235 = .ok (.iconst 2, 1) := by decide +kernel
theorem dL_law_236 : decode cL_law 236 = .ok (.iadd, 1) := by decide +kernel
theorem dL_law_237 : decode cL_law 237 = .ok (.iaload, 1) := by decide +kernel
theorem dL_law_238 : decode cL_law 238 = .ok (.aload_n 0, 1) := by decide +kernel
theorem dL_law_239 : decode cL_law 239 = .ok (.iload_n 3, 1) := by decide +kernel
theorem dL_law_240 : decode cL_law 240 = .ok (.iconst 3, 1) := by decide +kernel
theorem dL_law_241 : decode cL_law 241 = .ok (.iadd, 1) := by decide +kernel
theorem dL_law_242 : decode cL_law 242 = .ok (.iaload, 1) := by decide +kernel
theorem dL_law_243 : decode cL_law 243 = .ok (.ifCond .eq 7, 3) := by decide +kernel
theorem dL_law_246 : decode cL_law 246 = .ok (.iconst 1, 1) := by decide +kernel
theorem dL_law_247 : decode cL_law 247 = .ok (.goto 4, 3) := by decide +kernel
theorem dL_law_250 : decode cL_law 250 = .ok (.iconst 0, 1) := by decide +kernel
theorem dL_law_251 : decode cL_law 251 = .ok (.invokevirtual 22, 3) := by decide +kernel
theorem dL_law_254 : decode cL_law 254 = .ok (.pop, 1) := by decide +kernel
theorem dL_law_255 : decode cL_law 255 = .ok (.goto 845, 3) := by decide +kernel
theorem dL_law_258 : decode cL_law 258 = .ok (.aload_n 1, 1) := by decide +kernel
theorem dL_law_259 : decode cL_law 259 = .ok (.aload_n 0, 1) := by decide +kernel
theorem dL_law_260 : decode cL_law 260 = .ok (.iload_n 3, 1) := by decide +kernel
theorem dL_law_261 : decode cL_law 261 = .ok (.iconst 1, 1) := by decide +kernel
theorem dL_law_262 : decode cL_law 262 = .ok (.iadd, 1) := by decide +kernel
theorem dL_law_263 : decode cL_law 263 = .ok (.iaload, 1) := by decide +kernel
theorem dL_law_264 : decode cL_law 264 = .ok (.aload_n 0, 1) := by decide +kernel
theorem dL_law_265 : decode cL_law 265 = .ok (.iload_n 3, 1) := by decide +kernel
theorem dL_law_266 : decode cL_law 266 = .ok (.iconst 2, 1) := by decide +kernel
theorem dL_law_267 : decode cL_law 267 = .ok (.iadd, 1) := by decide +kernel
theorem dL_law_268 : decode cL_law 268 = .ok (.iaload, 1) := by decide +kernel
theorem dL_law_269 : decode cL_law 269 = .ok (.invokevirtual 23, 3) := by decide +kernel
theorem dL_law_272 : decode cL_law 272 = .ok (.pop, 1) := by decide +kernel
theorem dL_law_273 : decode cL_law 273 = .ok (.aload_n 2, 1) := by decide +kernel
theorem dL_law_274 : decode cL_law 274 = .ok (.aload_n 0, 1) := by decide +kernel
theorem dL_law_275 : decode cL_law 275 = .ok (.iload_n 3, 1) := by decide +kernel
theorem dL_law_276 : decode cL_law 276 = .ok (.iconst 1, 1) := by decide +kernel
theorem dL_law_277 : decode cL_law 277 = .ok (.iadd, 1) := by decide +kernel
theorem dL_law_278 : decode cL_law 278 = .ok (.iaload, 1) := by decide +kernel
theorem dL_law_279 : decode cL_law 279 = .ok (.aload_n 0, 1) := by decide +kernel
theorem dL_law_280 : decode cL_law 280 = .ok (.iload_n 3, 1) := by decide +kernel
theorem dL_law_281 : decode cL_law 281 = .ok (.iconst 2, 1) := by decide +kernel
theorem dL_law_282 : decode cL_law 282 = .ok (.iadd, 1) := by decide +kernel
theorem dL_law_283 : decode cL_law 283 = .ok (.iaload, 1) := by decide +kernel
theorem dL_law_284 : decode cL_law 284 = .ok (.invokevirtual 27, 3) := by decide +kernel
theorem dL_law_287 : decode cL_law 287 = .ok (.pop, 1) := by decide +kernel
theorem dL_law_288 : decode cL_law 288 = .ok (.goto 812, 3) := by decide +kernel
theorem dL_law_291 : decode cL_law 291 = .ok (.aload_n 1, 1) := by decide +kernel
theorem dL_law_292 : decode cL_law 292 = .ok (.aload_n 0, 1) := by decide +kernel
theorem dL_law_293 : decode cL_law 293 = .ok (.iload_n 3, 1) := by decide +kernel
theorem dL_law_294 : decode cL_law 294 = .ok (.iconst 1, 1) := by decide +kernel
theorem dL_law_295 : decode cL_law 295 = .ok (.iadd, 1) := by decide +kernel
theorem dL_law_296 : decode cL_law 296 = .ok (.iaload, 1) := by decide +kernel
theorem dL_law_297 : decode cL_law 297 = .ok (.i2c, 1) := by decide +kernel
theorem dL_law_298 : decode cL_law 298 = .ok (.invokevirtual 28, 3) := by decide +kernel
theorem dL_law_301 : decode cL_law 301 = .ok (.pop, 1) := by decide +kernel
theorem dL_law_302 : decode cL_law 302 = .ok (.aload_n 2, 1) := by decide +kernel
theorem dL_law_303 : decode cL_law 303 = .ok (.aload_n 0, 1) := by decide +kernel
theorem dL_law_304 : decode cL_law 304 = .ok (.iload_n 3, 1) := by decide +kernel
theorem dL_law_305 : decode cL_law 305 = .ok (.iconst 1, 1) := by decide +kernel
theorem dL_law_306 : decode cL_law 306 = .ok (.iadd, 1) := by decide +kernel
theorem dL_law_307 : decode cL_law 307 = .ok (.iaload, 1) := by decide +kernel
theorem dL_law_308 : decode cL_law 308 = .ok (.i2c, 1) := by decide +kernel
theorem dL_law_309 : decode cL_law 309 = .ok (.invokevirtual 32, 3) := by decide +kernel
theorem dL_law_312 : decode cL_law 312 = .ok (.pop, 1) := by decide +kernel
theorem dL_law_313 : decode cL_law 313 = .ok (.goto 787, 3) := by decide +kernel
theorem dL_law_316 : decode cL_law 316 = .ok (.aload_n 1, 1) := by decide +kernel
theorem dL_law_317 : decode cL_law 317 = .ok (.invokevirtual 33, 3) := by decide +kernel
theorem dL_law_320 : decode cL_law 320 = .ok (.pop, 1) := by decide +kernel
theorem dL_law_321 : decode cL_law 321 = .ok (.aload_n 2, 1) := by decide +kernel
theorem dL_law_322 : decode cL_law 322 = .ok (.invokevirtual 37, 3) := by decide +kernel
theorem dL_law_325 : decode cL_law 325 = .ok (.pop, 1) := by decide +kernel
theorem dL_law_326 : decode cL_law 326 = .ok (.goto 774, 3) := by decide +kernel
theorem dL_law_329 : decode cL_law 329 = .ok (.aload_n 1, 1) := by decide +kernel
theorem dL_law_330 : decode cL_law 330 = .ok (.invokevirtual 38, 3) := by decide +kernel
theorem dL_law_333 : decode cL_law 333 = .ok (.pop, 1) := by decide +kernel
theorem dL_law_334 : decode cL_law 334 = .ok (.aload_n 2, 1) := by decide +kernel
theorem dL_law_335 : decode cL_law 335 = .ok (.invokevirtual 41, 3) := by decide +kernel
theorem dL_law_338 : decode cL_law 338 = .ok (.pop, 1) := by decide +kernel
theorem dL_law_339 : decode cL_law 339 = .ok (.goto 761, 3) := by decide +kernel
theorem dL_law_342 : decode cL_law 342 = .ok (.aload_n 1, 1) := by decide +kernel
theorem dL_law_343 : decode cL_law 343 = .ok (.aload_n 0, 1) := by decide +kernel
theorem dL_law_344 : decode cL_law 344 = .ok (.iload_n 3, 1) := by decide +kernel
theorem dL_law_345 : decode cL_law 345 = .ok (.iconst 1, 1) := by decide +kernel
theorem dL_law_346 : decode cL_law 346 = .ok (.iadd, 1) := by decide +kernel
theorem dL_law_347 : decode cL_law 347 = .ok (.iaload, 1) := by decide +kernel
theorem dL_law_348 : decode cL_law 348 = .ok (.invokevirtual 42, 3) := by decide +kernel
theorem dL_law_351 : decode cL_law 351 = .ok (.pop, 1) := by decide +kernel
theorem dL_law_352 : decode cL_law 352 = .ok (.aload_n 2, 1) := by decide +kernel
theorem dL_law_353 : decode cL_law 353 = .ok (.aload_n 0, 1) := by decide +kernel
theorem dL_law_354 : decode cL_law 354 = .ok (.iload_n 3, 1) := by decide +kernel
theorem dL_law_355 : decode cL_law 355 = .ok (.iconst 1, 1) := by decide +kernel
theorem dL_law_356 : decode cL_law 356 = .ok (.iadd, 1) := by decide +kernel
theorem dL_law_357 : decode cL_law 357 = .ok (.iaload, 1) := by decide +kernel
theorem dL_law_358 : decode cL_law 358 = .ok (.invokevirtual 45, 3) := by decide +kernel
theorem dL_law_361 : decode cL_law 361 = .ok (.pop, 1) := by decide +kernel
theorem dL_law_362 : decode cL_law 362 = .ok (.goto 738, 3) := by decide +kernel
theorem dL_law_365 : decode cL_law 365 = .ok (.aload_n 1, 1) := by decide +kernel
theorem dL_law_366 : decode cL_law 366 = .ok (.aload_n 0, 1) := by decide +kernel
theorem dL_law_367 : decode cL_law 367 = .ok (.iload_n 3, 1) := by decide +kernel
theorem dL_law_368 : decode cL_law 368 = .ok (.iconst 1, 1) := by decide +kernel
theorem dL_law_369 : decode cL_law 369 = .ok (.iadd, 1) := by decide +kernel
theorem dL_law_370 : decode cL_law 370 = .ok (.iaload, 1) := by decide +kernel
theorem dL_law_371 : decode cL_law 371 = .ok (.invokevirtual 46, 3) := by decide +kernel
theorem dL_law_374 : decode cL_law 374 = .ok (.pop, 1) := by decide +kernel
theorem dL_law_375 : decode cL_law 375 = .ok (.aload_n 2, 1) := by decide +kernel
theorem dL_law_376 : decode cL_law 376 = .ok (.aload_n 0, 1) := by decide +kernel
theorem dL_law_377 : decode cL_law 377 = .ok (.iload_n 3, 1) := by decide +kernel
theorem dL_law_378 : decode cL_law 378 = .ok (.iconst 1, 1) := by decide +kernel
theorem dL_law_379 : decode cL_law 379 = .ok (.iadd, 1) := by decide +kernel
theorem dL_law_380 : decode cL_law 380 = .ok (.iaload, 1) := by decide +kernel
theorem dL_law_381 : decode cL_law 381 = .ok (.invokevirtual 49, 3) := by decide +kernel
theorem dL_law_384 : decode cL_law 384 = .ok (.pop, 1) := by decide +kernel
theorem dL_law_385 : decode cL_law 385 = .ok (.goto 715, 3) := by decide +kernel
theorem dL_law_388 : decode cL_law 388 = .ok (.aload_n 1, 1) := by decide +kernel
theorem dL_law_389 : decode cL_law 389 = .ok (.aload_n 0, 1) := by decide +kernel
theorem dL_law_390 : decode cL_law 390 = .ok (.iload_n 3, 1) := by decide +kernel
theorem dL_law_391 : decode cL_law 391 = .ok (.iconst 1, 1) := by decide +kernel
theorem dL_law_392 : decode cL_law 392 = .ok (.iadd, 1) := by decide +kernel
theorem dL_law_393 : decode cL_law 393 = .ok (.iaload, 1) := by decide +kernel
theorem dL_law_394 : decode cL_law 394 = .ok (.aload_n 0, 1) := by decide +kernel
theorem dL_law_395 : decode cL_law 395 = .ok (.iload_n 3, 1) := by decide +kernel
theorem dL_law_396 : decode cL_law 396 = .ok (.iconst 2, 1) := by decide +kernel
theorem dL_law_397 : decode cL_law 397 = .ok (.iadd, 1) := by decide +kernel
theorem dL_law_398 : decode cL_law 398 = .ok (.iaload, 1) := by decide +kernel
theorem dL_law_399 : decode cL_law 399 = .ok (.invokevirtual 50, 3) := by decide +kernel
theorem dL_law_402 : decode cL_law 402 = .ok (.pop, 1) := by decide +kernel
theorem dL_law_403 : decode cL_law 403 = .ok (.aload_n 2, 1) := by decide +kernel
theorem dL_law_404 : decode cL_law 404 = .ok (.aload_n 0, 1) := by decide +kernel
theorem dL_law_405 : decode cL_law 405 = .ok (.iload_n 3, 1) := by decide +kernel
theorem dL_law_406 : decode cL_law 406 = .ok (.iconst 1, 1) := by decide +kernel
theorem dL_law_407 : decode cL_law 407 = .ok (.iadd, 1) := by decide +kernel
theorem dL_law_408 : decode cL_law 408 = .ok (.iaload, 1) := by decide +kernel
theorem dL_law_409 : decode cL_law 409 = .ok (.aload_n 0, 1) := by decide +kernel
theorem dL_law_410 : decode cL_law 410 = .ok (.iload_n 3, 1) := by decide +kernel
theorem dL_law_411 : decode cL_law 411 = .ok (.iconst 2, 1) := by decide +kernel
theorem dL_law_412 : decode cL_law 412 = .ok (.iadd, 1) := by decide +kernel
theorem dL_law_413 : decode cL_law 413 = .ok (.iaload, 1) := by decide +kernel
theorem dL_law_414 : decode cL_law 414 = .ok (.invokevirtual 53, 3) := by decide +kernel
theorem dL_law_417 : decode cL_law 417 = .ok (.pop, 1) := by decide +kernel
theorem dL_law_418 : decode cL_law 418 = .ok (.goto 682, 3) := by decide +kernel
theorem dL_law_421 : decode cL_law 421 = .ok (.aload_n 1, 1) := by decide +kernel
theorem dL_law_422 : decode cL_law 422 = .ok (.aload_n 0, 1) := by decide +kernel
theorem dL_law_423 : decode cL_law 423 = .ok (.iload_n 3, 1) := by decide +kernel
theorem dL_law_424 : decode cL_law 424 = .ok (.iconst 1, 1) := by decide +kernel
theorem dL_law_425 : decode cL_law 425 = .ok (.iadd, 1) := by decide +kernel
theorem dL_law_426 : decode cL_law 426 = .ok (.iaload, 1) := by decide +kernel
theorem dL_law_427 : decode cL_law 427 = .ok (.invokevirtual 54, 3) := by decide +kernel
theorem dL_law_430 : decode cL_law 430 = .ok (.pop, 1) := by decide +kernel
theorem dL_law_431 : decode cL_law 431 = .ok (.aload_n 2, 1) := by decide +kernel
theorem dL_law_432 : decode cL_law 432 = .ok (.aload_n 0, 1) := by decide +kernel
theorem dL_law_433 : decode cL_law 433 = .ok (.iload_n 3, 1) := by decide +kernel
theorem dL_law_434 : decode cL_law 434 = .ok (.iconst 1, 1) := by decide +kernel
theorem dL_law_435 : decode cL_law 435 = .ok (.iadd, 1) := by decide +kernel
theorem dL_law_436 : decode cL_law 436 = .ok (.iaload, 1) := by decide +kernel
theorem dL_law_437 : decode cL_law 437 = .ok (.invokevirtual 57, 3) := by decide +kernel
theorem dL_law_440 : decode cL_law 440 = .ok (.pop, 1) := by decide +kernel
theorem dL_law_441 : decode cL_law 441 = .ok (.goto 659, 3) := by decide +kernel
theorem dL_law_444 : decode cL_law 444 = .ok (.aload_n 1, 1) := by decide +kernel
theorem dL_law_445 : decode cL_law 445 = .ok (.aload_n 0, 1) := by decide +kernel
theorem dL_law_446 : decode cL_law 446 = .ok (.iload_n 3, 1) := by decide +kernel
theorem dL_law_447 : decode cL_law 447 = .ok (.iconst 1, 1) := by decide +kernel
theorem dL_law_448 : decode cL_law 448 = .ok (.iadd, 1) := by decide +kernel
theorem dL_law_449 : decode cL_law 449 = .ok (.iaload, 1) := by decide +kernel
theorem dL_law_450 : decode cL_law 450 = .ok (.aload_n 0, 1) := by decide +kernel
theorem dL_law_451 : decode cL_law 451 = .ok (.iload_n 3, 1) := by decide +kernel
theorem dL_law_452 : decode cL_law 452 = .ok (.iconst 2, 1) := by decide +kernel
theorem dL_law_453 : decode cL_law 453 = .ok (.iadd, 1) := by decide +kernel
theorem dL_law_454 : decode cL_law 454 = .ok (.iaload, 1) := by decide +kernel
theorem dL_law_455 : decode cL_law 455 = .ok (.invokevirtual 58, 3) := by decide +kernel
theorem dL_law_458 : decode cL_law 458 = .ok (.pop, 1) := by decide +kernel
theorem dL_law_459 : decode cL_law 459 = .ok (.aload_n 2, 1) := by decide +kernel
theorem dL_law_460 : decode cL_law 460 = .ok (.aload_n 0, 1) := by decide +kernel
theorem dL_law_461 : decode cL_law 461 = .ok (.iload_n 3, 1) := by decide +kernel
theorem dL_law_462 : decode cL_law 462 = .ok (.iconst 1, 1) := by decide +kernel
theorem dL_law_463 : decode cL_law 463 = .ok (.iadd, 1) := by decide +kernel
theorem dL_law_464 : decode cL_law 464 = .ok (.iaload, 1) := by decide +kernel
theorem dL_law_465 : decode cL_law 465 = .ok (.aload_n 0, 1) := by decide +kernel
theorem dL_law_466 : decode cL_law 466 = .ok (.iload_n 3, 1) := by decide +kernel
theorem dL_law_467 : decode cL_law 467 = .ok (.iconst 2, 1) := by decide +kernel
theorem dL_law_468 : decode cL_law 468 = .ok (.iadd, 1) := by decide +kernel
theorem dL_law_469 : decode cL_law 469 = .ok (.iaload, 1) := by decide +kernel
theorem dL_law_470 : decode cL_law 470 = .ok (.invokevirtual 61, 3) := by decide +kernel
theorem dL_law_473 : decode cL_law 473 = .ok (.pop, 1) := by decide +kernel
theorem dL_law_474 : decode cL_law 474 = .ok (.goto 626, 3) := by decide +kernel
theorem dL_law_477 : decode cL_law 477 = .ok (.aload_n 1, 1) := by decide +kernel
theorem dL_law_478 : decode cL_law 478 = .ok (.aload_n 0, 1) := by decide +kernel
theorem dL_law_479 : decode cL_law 479 = .ok (.iload_n 3, 1) := by decide +kernel
theorem dL_law_480 : decode cL_law 480 = .ok (.iconst 1, 1) := by decide +kernel
theorem dL_law_481 : decode cL_law 481 = .ok (.iadd, 1) := by decide +kernel
theorem dL_law_482 : decode cL_law 482 = .ok (.iaload, 1) := by decide +kernel
theorem dL_law_483 : decode cL_law 483 = .ok (.aload_n 0, 1) := by decide +kernel
theorem dL_law_484 : decode cL_law 484 = .ok (.iload_n 3, 1) := by decide +kernel
theorem dL_law_485 : decode cL_law 485 = .ok (.iconst 2, 1) := by decide +kernel
theorem dL_law_486 : decode cL_law 486 = .ok (.iadd, 1) := by decide +kernel
theorem dL_law_487 : decode cL_law 487 = .ok (.iaload, 1) := by decide +kernel
theorem dL_law_488 : decode cL_law 488 = .ok (.aload_n 0, 1) := by decide +kernel
theorem dL_law_489 : decode cL_law 489 = .ok (.iload_n 3, 1) := by decide +kernel
theorem dL_law_490 : decode cL_law 490 = .ok (.iconst 3, 1) := by decide +kernel
theorem dL_law_491 : decode cL_law 491 = .ok (.iadd, 1) := by decide +kernel
theorem dL_law_492 : decode cL_law 492 = .ok (.iaload, 1) := by decide +kernel
theorem dL_law_493 : decode cL_law 493 = .ok (.invokevirtual 62, 3) := by decide +kernel
theorem dL_law_496 : decode cL_law 496 = .ok (.pop, 1) := by decide +kernel
theorem dL_law_497 : decode cL_law 497 = .ok (.aload_n 2, 1) := by decide +kernel
theorem dL_law_498 : decode cL_law 498 = .ok (.aload_n 0, 1) := by decide +kernel
theorem dL_law_499 : decode cL_law 499 = .ok (.iload_n 3, 1) := by decide +kernel
theorem dL_law_500 : decode cL_law 500 = .ok (.iconst 1, 1) := by decide +kernel
theorem dL_law_501 : decode cL_law 501 = .ok (.iadd, 1) := by decide +kernel
theorem dL_law_502 : decode cL_law 502 = .ok (.iaload, 1) := by decide +kernel
theorem dL_law_503 : decode cL_law 503 = .ok (.aload_n 0, 1) := by decide +kernel
theorem dL_law_504 : decode cL_law 504 = .ok (.iload_n 3, 1) := by decide +kernel
theorem dL_law_505 : decode cL_law 505 = .ok (.iconst 2, 1) := by decide +kernel
theorem dL_law_506 : decode cL_law 506 = .ok (.iadd, 1) := by decide +kernel
theorem dL_law_507 : decode cL_law 507 = .ok (.iaload, 1) := by decide +kernel
theorem dL_law_508 : decode cL_law 508 = .ok (.aload_n 0, 1) := by decide +kernel
theorem dL_law_509 : decode cL_law 509 = .ok (.iload_n 3, 1) := by decide +kernel
theorem dL_law_510 : decode cL_law 510 = .ok (.iconst 3, 1) := by decide +kernel
theorem dL_law_511 : decode cL_law 511 = .ok (.iadd, 1) := by decide +kernel
theorem dL_law_512 : decode cL_law 512 = .ok (.iaload, 1) := by decide +kernel
theorem dL_law_513 : decode cL_law 513 = .ok (.invokevirtual 66, 3) := by decide +kernel
theorem dL_law_516 : decode cL_law 516 = .ok (.pop, 1) := by decide +kernel
theorem dL_law_517 : decode cL_law 517 = .ok (.goto 583, 3) := by decide +kernel
theorem dL_law_520 : decode cL_law 520 = .ok (.aload_n 1, 1) := by decide +kernel
theorem dL_law_521 : decode cL_law 521 = .ok (.aload_n 0, 1) := by decide +kernel
theorem dL_law_522 : decode cL_law 522 = .ok (.iload_n 3, 1) := by decide +kernel
theorem dL_law_523 : decode cL_law 523 = .ok (.iconst 1, 1) := by decide +kernel
theorem dL_law_524 : decode cL_law 524 = .ok (.iadd, 1) := by decide +kernel
theorem dL_law_525 : decode cL_law 525 = .ok (.iaload, 1) := by decide +kernel
theorem dL_law_526 : decode cL_law 526 = .ok (.aload_n 0, 1) := by decide +kernel
theorem dL_law_527 : decode cL_law 527 = .ok (.iload_n 3, 1) := by decide +kernel
theorem dL_law_528 : decode cL_law 528 = .ok (.iconst 2, 1) := by decide +kernel
theorem dL_law_529 : decode cL_law 529 = .ok (.iadd, 1) := by decide +kernel
theorem dL_law_530 : decode cL_law 530 = .ok (.iaload, 1) := by decide +kernel
theorem dL_law_531 : decode cL_law 531 = .ok (.invokevirtual 67, 3) := by decide +kernel
theorem dL_law_534 : decode cL_law 534 = .ok (.pop, 1) := by decide +kernel
theorem dL_law_535 : decode cL_law 535 = .ok (.aload_n 2, 1) := by decide +kernel
theorem dL_law_536 : decode cL_law 536 = .ok (.aload_n 0, 1) := by decide +kernel
theorem dL_law_537 : decode cL_law 537 = .ok (.iload_n 3, 1) := by decide +kernel
theorem dL_law_538 : decode cL_law 538 = .ok (.iconst 1, 1) := by decide +kernel
theorem dL_law_539 : decode cL_law 539 = .ok (.iadd, 1) := by decide +kernel
theorem dL_law_540 : decode cL_law 540 = .ok (.iaload, 1) := by decide +kernel
theorem dL_law_541 : decode cL_law 541 = .ok (.aload_n 0, 1) := by decide +kernel
theorem dL_law_542 : decode cL_law 542 = .ok (.iload_n 3, 1) := by decide +kernel
theorem dL_law_543 : decode cL_law 543 = .ok (.iconst 2, 1) := by decide +kernel
theorem dL_law_544 : decode cL_law 544 = .ok (.iadd, 1) := by decide +kernel
theorem dL_law_545 : decode cL_law 545 = .ok (.iaload, 1) := by decide +kernel
theorem dL_law_546 : decode cL_law 546 = .ok (.invokevirtual 70, 3) := by decide +kernel
theorem dL_law_549 : decode cL_law 549 = .ok (.pop, 1) := by decide +kernel
theorem dL_law_550 : decode cL_law 550 = .ok (.goto 550, 3) := by decide +kernel
theorem dL_law_553 : decode cL_law 553 = .ok (.aload_n 1, 1) := by decide +kernel
theorem dL_law_554 : decode cL_law 554 = .ok (.aload_n 0, 1) := by decide +kernel
theorem dL_law_555 : decode cL_law 555 = .ok (.iload_n 3, 1) := by decide +kernel
theorem dL_law_556 : decode cL_law 556 = .ok (.iconst 1, 1) := by decide +kernel
theorem dL_law_557 : decode cL_law 557 = .ok (.iadd, 1) := by decide +kernel
theorem dL_law_558 : decode cL_law 558 = .ok (.iaload, 1) := by decide +kernel
theorem dL_law_559 : decode cL_law 559 = .ok (.aload_n 0, 1) := by decide +kernel
theorem dL_law_560 : decode cL_law 560 = .ok (.iload_n 3, 1) := by decide +kernel
theorem dL_law_561 : decode cL_law 561 = .ok (.iconst 2, 1) := by decide +kernel
theorem dL_law_562 : decode cL_law 562 = .ok (.iadd, 1) := by decide +kernel
theorem dL_law_563 : decode cL_law 563 = .ok (.iaload, 1) := by decide +kernel
theorem dL_law_564 : decode cL_law 564 = .ok (.invokevirtual 71, 3) := by decide +kernel
theorem dL_law_567 : decode cL_law 567 = .ok (.pop, 1) := by decide +kernel
theorem dL_law_568 : decode cL_law 568 = .ok (.aload_n 2, 1) := by decide +kernel
theorem dL_law_569 : decode cL_law 569 = .ok (.aload_n 0, 1) := by decide +kernel
theorem dL_law_570 : decode cL_law 570 = .ok (.iload_n 3, 1) := by decide +kernel
theorem dL_law_571 : decode cL_law 571 = .ok (.iconst 1, 1) := by decide +kernel
theorem dL_law_572 : decode cL_law 572 = .ok (.iadd, 1) := by decide +kernel
theorem dL_law_573 : decode cL_law 573 = .ok (.iaload, 1) := by decide +kernel
theorem dL_law_574 : decode cL_law 574 = .ok (.aload_n 0, 1) := by decide +kernel
theorem dL_law_575 : decode cL_law 575 = .ok (.iload_n 3, 1) := by decide +kernel
theorem dL_law_576 : decode cL_law 576 = .ok (.iconst 2, 1) := by decide +kernel
theorem dL_law_577 : decode cL_law 577 = .ok (.iadd, 1) := by decide +kernel
theorem dL_law_578 : decode cL_law 578 = .ok (.iaload, 1) := by decide +kernel
theorem dL_law_579 : decode cL_law 579 = .ok (.invokevirtual 74, 3) := by decide +kernel
theorem dL_law_582 : decode cL_law 582 = .ok (.pop, 1) := by decide +kernel
theorem dL_law_583 : decode cL_law 583 = .ok (.goto 517, 3) := by decide +kernel
theorem dL_law_586 : decode cL_law 586 = .ok (.aload_n 1, 1) := by decide +kernel
theorem dL_law_587 : decode cL_law 587 = .ok (.aload_n 0, 1) := by decide +kernel
theorem dL_law_588 : decode cL_law 588 = .ok (.iload_n 3, 1) := by decide +kernel
theorem dL_law_589 : decode cL_law 589 = .ok (.iconst 1, 1) := by decide +kernel
theorem dL_law_590 : decode cL_law 590 = .ok (.iadd, 1) := by decide +kernel
theorem dL_law_591 : decode cL_law 591 = .ok (.iaload, 1) := by decide +kernel
theorem dL_law_592 : decode cL_law 592 = .ok (.invokevirtual 75, 3) := by decide +kernel
theorem dL_law_595 : decode cL_law 595 = .ok (.pop, 1) := by decide +kernel
theorem dL_law_596 : decode cL_law 596 = .ok (.aload_n 2, 1) := by decide +kernel
theorem dL_law_597 : decode cL_law 597 = .ok (.aload_n 0, 1) := by decide +kernel
theorem dL_law_598 : decode cL_law 598 = .ok (.iload_n 3, 1) := by decide +kernel
theorem dL_law_599 : decode cL_law 599 = .ok (.iconst 1, 1) := by decide +kernel
theorem dL_law_600 : decode cL_law 600 = .ok (.iadd, 1) := by decide +kernel
theorem dL_law_601 : decode cL_law 601 = .ok (.iaload, 1) := by decide +kernel
theorem dL_law_602 : decode cL_law 602 = .ok (.invokevirtual 78, 3) := by decide +kernel
theorem dL_law_605 : decode cL_law 605 = .ok (.pop, 1) := by decide +kernel
theorem dL_law_606 : decode cL_law 606 = .ok (.goto 494, 3) := by decide +kernel
theorem dL_law_609 : decode cL_law 609 = .ok (.aload_n 1, 1) := by decide +kernel
theorem dL_law_610 : decode cL_law 610 = .ok (.aload_n 0, 1) := by decide +kernel
theorem dL_law_611 : decode cL_law 611 = .ok (.iload_n 3, 1) := by decide +kernel
theorem dL_law_612 : decode cL_law 612 = .ok (.iconst 1, 1) := by decide +kernel
theorem dL_law_613 : decode cL_law 613 = .ok (.iadd, 1) := by decide +kernel
theorem dL_law_614 : decode cL_law 614 = .ok (.iaload, 1) := by decide +kernel
theorem dL_law_615 : decode cL_law 615 = .ok (.aload_n 0, 1) := by decide +kernel
theorem dL_law_616 : decode cL_law 616 = .ok (.iload_n 3, 1) := by decide +kernel
theorem dL_law_617 : decode cL_law 617 = .ok (.iconst 2, 1) := by decide +kernel
theorem dL_law_618 : decode cL_law 618 = .ok (.iadd, 1) := by decide +kernel
theorem dL_law_619 : decode cL_law 619 = .ok (.iaload, 1) := by decide +kernel
theorem dL_law_620 : decode cL_law 620 = .ok (.invokevirtual 79, 3) := by decide +kernel
theorem dL_law_623 : decode cL_law 623 = .ok (.pop, 1) := by decide +kernel
theorem dL_law_624 : decode cL_law 624 = .ok (.aload_n 2, 1) := by decide +kernel
theorem dL_law_625 : decode cL_law 625 = .ok (.aload_n 0, 1) := by decide +kernel
theorem dL_law_626 : decode cL_law 626 = .ok (.iload_n 3, 1) := by decide +kernel
theorem dL_law_627 : decode cL_law 627 = .ok (.iconst 1, 1) := by decide +kernel
theorem dL_law_628 : decode cL_law 628 = .ok (.iadd, 1) := by decide +kernel
theorem dL_law_629 : decode cL_law 629 = .ok (.iaload, 1) := by decide +kernel
theorem dL_law_630 : decode cL_law 630 = .ok (.aload_n 0, 1) := by decide +kernel
theorem dL_law_631 : decode cL_law 631 = .ok (.iload_n 3, 1) := by decide +kernel
theorem dL_law_632 : decode cL_law 632 = .ok (.iconst 2, 1) := by decide +kernel
theorem dL_law_633 : decode cL_law 633 = .ok (.iadd, 1) := by decide +kernel
theorem dL_law_634 : decode cL_law 634 = .ok (.iaload, 1) := by decide +kernel
theorem dL_law_635 : decode cL_law 635 = .ok (.invokevirtual 82, 3) := by decide +kernel
theorem dL_law_638 : decode cL_law 638 = .ok (.pop, 1) := by decide +kernel
theorem dL_law_639 : decode cL_law 639 = .ok (.goto 461, 3) := by decide +kernel
theorem dL_law_642 : decode cL_law 642 = .ok (.aload_n 1, 1) := by decide +kernel
theorem dL_law_643 : decode cL_law 643 = .ok (.invokevirtual 83, 3) := by decide +kernel
theorem dL_law_646 : decode cL_law 646 = .ok (.pop, 1) := by decide +kernel
theorem dL_law_647 : decode cL_law 647 = .ok (.aload_n 2, 1) := by decide +kernel
theorem dL_law_648 : decode cL_law 648 = .ok (.invokevirtual 86, 3) := by decide +kernel
theorem dL_law_651 : decode cL_law 651 = .ok (.pop, 1) := by decide +kernel
theorem dL_law_652 : decode cL_law 652 = .ok (.goto 448, 3) := by decide +kernel
theorem dL_law_655 : decode cL_law 655 = .ok (.aload_n 1, 1) := by decide +kernel
theorem dL_law_656 : decode cL_law 656 = .ok (.invokevirtual 87, 3) := by decide +kernel
theorem dL_law_659 : decode cL_law 659 = .ok (.pop, 1) := by decide +kernel
theorem dL_law_660 : decode cL_law 660 = .ok (.aload_n 2, 1) := by decide +kernel
theorem dL_law_661 : decode cL_law 661 = .ok (.invokevirtual 90, 3) := by decide +kernel
theorem dL_law_664 : decode cL_law 664 = .ok (.pop, 1) := by decide +kernel
theorem dL_law_665 : decode cL_law 665 = .ok (.goto 435, 3) := by decide +kernel
theorem dL_law_668 : decode cL_law 668 = .ok (.aload_n 1, 1) := by decide +kernel
theorem dL_law_669 : decode cL_law 669 = .ok (.invokevirtual 91, 3) := by decide +kernel
theorem dL_law_672 : decode cL_law 672 = .ok (.pop, 1) := by decide +kernel
theorem dL_law_673 : decode cL_law 673 = .ok (.aload_n 2, 1) := by decide +kernel
theorem dL_law_674 : decode cL_law 674 = .ok (.invokevirtual 94, 3) := by decide +kernel
theorem dL_law_677 : decode cL_law 677 = .ok (.pop, 1) := by decide +kernel
theorem dL_law_678 : decode cL_law 678 = .ok (.goto 422, 3) := by decide +kernel
theorem dL_law_681 : decode cL_law 681 = .ok (.aload_n 1, 1) := by decide +kernel
theorem dL_law_682 : decode cL_law 682 = .ok (.aload_n 0, 1) := by decide +kernel
theorem dL_law_683 : decode cL_law 683 = .ok (.iload_n 3, 1) := by decide +kernel
theorem dL_law_684 : decode cL_law 684 = .ok (.iconst 1, 1) := by decide +kernel
theorem dL_law_685 : decode cL_law 685 = .ok (.iadd, 1) := by decide +kernel
theorem dL_law_686 : decode cL_law 686 = .ok (.iaload, 1) := by decide +kernel
theorem dL_law_687 : decode cL_law 687 = .ok (.aload_n 0, 1) := by decide +kernel
theorem dL_law_688 : decode cL_law 688 = .ok (.iload_n 3, 1) := by decide +kernel
theorem dL_law_689 : decode cL_law 689 = .ok (.iconst 2, 1) := by decide +kernel
theorem dL_law_690 : decode cL_law 690 = .ok (.iadd, 1) := by decide +kernel
theorem dL_law_691 : decode cL_law 691 = .ok (.iaload, 1) := by decide +kernel
theorem dL_law_692 : decode cL_law 692 = .ok (.invokevirtual 95, 3) := by decide +kernel
theorem dL_law_695 : decode cL_law 695 = .ok (.pop, 1) := by decide +kernel
theorem dL_law_696 : decode cL_law 696 = .ok (.aload_n 2, 1) := by decide +kernel
theorem dL_law_697 : decode cL_law 697 = .ok (.aload_n 0, 1) := by decide +kernel
theorem dL_law_698 : decode cL_law 698 = .ok (.iload_n 3, 1) := by decide +kernel
theorem dL_law_699 : decode cL_law 699 = .ok (.iconst 1, 1) := by decide +kernel
theorem dL_law_700 : decode cL_law 700 = .ok (.iadd, 1) := by decide +kernel
theorem dL_law_701 : decode cL_law 701 = .ok (.iaload, 1) := by decide +kernel
theorem dL_law_702 : decode cL_law 702 = .ok (.aload_n 0, 1) := by decide +kernel
theorem dL_law_703 : decode cL_law 703 = .ok (.iload_n 3, 1) := by decide +kernel
theorem dL_law_704 : decode cL_law 704 = .ok (.iconst 2, 1) := by decide +kernel
theorem dL_law_705 : decode cL_law 705 = .ok (.iadd, 1) := by decide +kernel
theorem dL_law_706 : decode cL_law 706 = .ok (.iaload, 1) := by decide +kernel
theorem dL_law_707 : decode cL_law 707 = .ok (.invokevirtual 98, 3) := by decide +kernel
theorem dL_law_710 : decode cL_law 710 = .ok (.pop, 1) := by decide +kernel
theorem dL_law_711 : decode cL_law 711 = .ok (.goto 389, 3) := by decide +kernel
theorem dL_law_714 : decode cL_law 714 = .ok (.aload_n 1, 1) := by decide +kernel
theorem dL_law_715 : decode cL_law 715 = .ok (.aload_n 0, 1) := by decide +kernel
theorem dL_law_716 : decode cL_law 716 = .ok (.iload_n 3, 1) := by decide +kernel
theorem dL_law_717 : decode cL_law 717 = .ok (.iconst 1, 1) := by decide +kernel
theorem dL_law_718 : decode cL_law 718 = .ok (.iadd, 1) := by decide +kernel
theorem dL_law_719 : decode cL_law 719 = .ok (.iaload, 1) := by decide +kernel
theorem dL_law_720 : decode cL_law 720 = .ok (.aload_n 0, 1) := by decide +kernel
theorem dL_law_721 : decode cL_law 721 = .ok (.iload_n 3, 1) := by decide +kernel
theorem dL_law_722 : decode cL_law 722 = .ok (.iconst 2, 1) := by decide +kernel
theorem dL_law_723 : decode cL_law 723 = .ok (.iadd, 1) := by decide +kernel
theorem dL_law_724 : decode cL_law 724 = .ok (.iaload, 1) := by decide +kernel
theorem dL_law_725 : decode cL_law 725 = .ok (.invokevirtual 99, 3) := by decide +kernel
theorem dL_law_728 : decode cL_law 728 = .ok (.pop, 1) := by decide +kernel
theorem dL_law_729 : decode cL_law 729 = .ok (.aload_n 2, 1) := by decide +kernel
theorem dL_law_730 : decode cL_law 730 = .ok (.aload_n 0, 1) := by decide +kernel
theorem dL_law_731 : decode cL_law 731 = .ok (.iload_n 3, 1) := by decide +kernel
theorem dL_law_732 : decode cL_law 732 = .ok (.iconst 1, 1) := by decide +kernel
theorem dL_law_733 : decode cL_law 733 = .ok (.iadd, 1) := by decide +kernel
theorem dL_law_734 : decode cL_law 734 = .ok (.iaload, 1) := by decide +kernel
theorem dL_law_735 : decode cL_law 735 = .ok (.aload_n 0, 1) := by decide +kernel
theorem dL_law_736 : decode cL_law 736 = .ok (.iload_n 3, 1) := by decide +kernel
theorem dL_law_737 : decode cL_law 737 = .ok (.iconst 2, 1) := by decide +kernel
theorem dL_law_738 : decode cL_law 738 = .ok (.iadd, 1) := by decide +kernel
theorem dL_law_739 : decode cL_law 739 = .ok (.iaload, 1) := by decide +kernel
theorem dL_law_740 : decode cL_law 740 = .ok (.invokevirtual 102, 3) := by decide +kernel
theorem dL_law_743 : decode cL_law 743 = .ok (.pop, 1) := by decide +kernel
theorem dL_law_744 : decode cL_law 744 = .ok (.goto 356, 3) := by decide +kernel
theorem dL_law_747 : decode cL_law 747 = .ok (.aload_n 1, 1) := by decide +kernel
theorem dL_law_748 : decode cL_law 748 = .ok (.aload_n 0, 1) := by decide +kernel
theorem dL_law_749 : decode cL_law 749 = .ok (.iload_n 3, 1) := by decide +kernel
theorem dL_law_750 : decode cL_law 750 = .ok (.iconst 1, 1) := by decide +kernel
theorem dL_law_751 : decode cL_law 751 = .ok (.iadd, 1) := by decide +kernel
theorem dL_law_752 : decode cL_law 752 = .ok (.iaload, 1) := by decide +kernel
theorem dL_law_753 : decode cL_law 753 = .ok (.aload_n 0, 1) := by decide +kernel
theorem dL_law_754 : decode cL_law 754 = .ok (.iload_n 3, 1) := by decide +kernel
theorem dL_law_755 : decode cL_law 755 = .ok (.iconst 2, 1) := by decide +kernel
theorem dL_law_756 : decode cL_law 756 = .ok (.iadd, 1) := by decide +kernel
theorem dL_law_757 : decode cL_law 757 = .ok (.iaload, 1) := by decide +kernel
theorem dL_law_758 : decode cL_law 758 = .ok (.aload_n 0, 1) := by decide +kernel
theorem dL_law_759 : decode cL_law 759 = .ok (.iload_n 3, 1) := by decide +kernel
theorem dL_law_760 : decode cL_law 760 = .ok (.iconst 3, 1) := by decide +kernel
theorem dL_law_761 : decode cL_law 761 = .ok (.iadd, 1) := by decide +kernel
theorem dL_law_762 : decode cL_law 762 = .ok (.iaload, 1) := by decide +kernel
theorem dL_law_763 : decode cL_law 763 = .ok (.invokevirtual 103, 3) := by decide +kernel
theorem dL_law_766 : decode cL_law 766 = .ok (.pop, 1) := by decide +kernel
theorem dL_law_767 : decode cL_law 767 = .ok (.aload_n 2, 1) := by decide +kernel
theorem dL_law_768 : decode cL_law 768 = .ok (.aload_n 0, 1) := by decide +kernel
theorem dL_law_769 : decode cL_law 769 = .ok (.iload_n 3, 1) := by decide +kernel
theorem dL_law_770 : decode cL_law 770 = .ok (.iconst 1, 1) := by decide +kernel
theorem dL_law_771 : decode cL_law 771 = .ok (.iadd, 1) := by decide +kernel
theorem dL_law_772 : decode cL_law 772 = .ok (.iaload, 1) := by decide +kernel
theorem dL_law_773 : decode cL_law 773 = .ok (.aload_n 0, 1) := by decide +kernel
theorem dL_law_774 : decode cL_law 774 = .ok (.iload_n 3, 1) := by decide +kernel
theorem dL_law_775 : decode cL_law 775 = .ok (.iconst 2, 1) := by decide +kernel
theorem dL_law_776 : decode cL_law 776 = .ok (.iadd, 1) := by decide +kernel
theorem dL_law_777 : decode cL_law 777 = .ok (.iaload, 1) := by decide +kernel
theorem dL_law_778 : decode cL_law 778 = .ok (.aload_n 0, 1) := by decide +kernel
theorem dL_law_779 : decode cL_law 779 = .ok (.iload_n 3, 1) := by decide +kernel
theorem dL_law_780 : decode cL_law 780 = .ok (.iconst 3, 1) := by decide +kernel
theorem dL_law_781 : decode cL_law 781 = .ok (.iadd, 1) := by decide +kernel
theorem dL_law_782 : decode cL_law 782 = .ok (.iaload, 1) := by decide +kernel
theorem dL_law_783 : decode cL_law 783 = .ok (.invokevirtual 106, 3) := by decide +kernel
theorem dL_law_786 : decode cL_law 786 = .ok (.pop, 1) := by decide +kernel
theorem dL_law_787 : decode cL_law 787 = .ok (.goto 313, 3) := by decide +kernel
theorem dL_law_790 : decode cL_law 790 = .ok (.aload_n 1, 1) := by decide +kernel
theorem dL_law_791 : decode cL_law 791 = .ok (.aload_n 0, 1) := by decide +kernel
theorem dL_law_792 : decode cL_law 792 = .ok (.iload_n 3, 1) := by decide +kernel
theorem dL_law_793 : decode cL_law 793 = .ok (.iconst 1, 1) := by decide +kernel
theorem dL_law_794 : decode cL_law 794 = .ok (.iadd, 1) := by decide +kernel
theorem dL_law_795 : decode cL_law 795 = .ok (.iaload, 1) := by decide +kernel
theorem dL_law_796 : decode cL_law 796 = .ok (.aload_n 0, 1) := by decide +kernel
theorem dL_law_797 : decode cL_law 797 = .ok (.iload_n 3, 1) := by decide +kernel
theorem dL_law_798 : decode cL_law 798 = .ok (.iconst 2, 1) := by decide +kernel
theorem dL_law_799 : decode cL_law 799 = .ok (.iadd, 1) := by decide +kernel
theorem dL_law_800 : decode cL_law 800 = .ok (.iaload, 1) := by decide +kernel
theorem dL_law_801 : decode cL_law 801 = .ok (.aload_n 0, 1) := by decide +kernel
theorem dL_law_802 : decode cL_law 802 = .ok (.iload_n 3, 1) := by decide +kernel
theorem dL_law_803 : decode cL_law 803 = .ok (.iconst 3, 1) := by decide +kernel
theorem dL_law_804 : decode cL_law 804 = .ok (.iadd, 1) := by decide +kernel
theorem dL_law_805 : decode cL_law 805 = .ok (.iaload, 1) := by decide +kernel
theorem dL_law_806 : decode cL_law 806 = .ok (.invokevirtual 107, 3) := by decide +kernel
theorem dL_law_809 : decode cL_law 809 = .ok (.pop, 1) := by decide +kernel
theorem dL_law_810 : decode cL_law 810 = .ok (.aload_n 2, 1) := by decide +kernel
theorem dL_law_811 : decode cL_law 811 = .ok (.aload_n 0, 1) := by decide +kernel
theorem dL_law_812 : decode cL_law 812 = .ok (.iload_n 3, 1) := by decide +kernel
theorem dL_law_813 : decode cL_law 813 = .ok (.iconst 1, 1) := by decide +kernel
theorem dL_law_814 : decode cL_law 814 = .ok (.iadd, 1) := by decide +kernel
theorem dL_law_815 : decode cL_law 815 = .ok (.iaload, 1) := by decide +kernel
theorem dL_law_816 : decode cL_law 816 = .ok (.aload_n 0, 1) := by decide +kernel
theorem dL_law_817 : decode cL_law 817 = .ok (.iload_n 3, 1) := by decide +kernel
theorem dL_law_818 : decode cL_law 818 = .ok (.iconst 2, 1) := by decide +kernel
theorem dL_law_819 : decode cL_law 819 = .ok (.iadd, 1) := by decide +kernel
theorem dL_law_820 : decode cL_law 820 = .ok (.iaload, 1) := by decide +kernel
theorem dL_law_821 : decode cL_law 821 = .ok (.aload_n 0, 1) := by decide +kernel
theorem dL_law_822 : decode cL_law 822 = .ok (.iload_n 3, 1) := by decide +kernel
theorem dL_law_823 : decode cL_law 823 = .ok (.iconst 3, 1) := by decide +kernel
theorem dL_law_824 : decode cL_law 824 = .ok (.iadd, 1) := by decide +kernel
theorem dL_law_825 : decode cL_law 825 = .ok (.iaload, 1) := by decide +kernel
theorem dL_law_826 : decode cL_law 826 = .ok (.invokevirtual 110, 3) := by decide +kernel
theorem dL_law_829 : decode cL_law 829 = .ok (.pop, 1) := by decide +kernel
theorem dL_law_830 : decode cL_law 830 = .ok (.goto 270, 3) := by decide +kernel
theorem dL_law_833 : decode cL_law 833 = .ok (.aload_n 1, 1) := by decide +kernel
theorem dL_law_834 : decode cL_law 834 = .ok (.aload_n 0, 1) := by decide +kernel
theorem dL_law_835 : decode cL_law 835 = .ok (.iload_n 3, 1) := by decide +kernel
theorem dL_law_836 : decode cL_law 836 = .ok (.iconst 1, 1) := by decide +kernel
theorem dL_law_837 : decode cL_law 837 = .ok (.iadd, 1) := by decide +kernel
theorem dL_law_838 : decode cL_law 838 = .ok (.iaload, 1) := by decide +kernel
theorem dL_law_839 : decode cL_law 839 = .ok (.aload_n 0, 1) := by decide +kernel
theorem dL_law_840 : decode cL_law 840 = .ok (.iload_n 3, 1) := by decide +kernel
theorem dL_law_841 : decode cL_law 841 = .ok (.iconst 2, 1) := by decide +kernel
theorem dL_law_842 : decode cL_law 842 = .ok (.iadd, 1) := by decide +kernel
theorem dL_law_843 : decode cL_law 843 = .ok (.iaload, 1) := by decide +kernel
theorem dL_law_844 : decode cL_law 844 = .ok (.aload_n 0, 1) := by decide +kernel
theorem dL_law_845 : decode cL_law 845 = .ok (.iload_n 3, 1) := by decide +kernel
theorem dL_law_846 : decode cL_law 846 = .ok (.iconst 3, 1) := by decide +kernel
theorem dL_law_847 : decode cL_law 847 = .ok (.iadd, 1) := by decide +kernel
theorem dL_law_848 : decode cL_law 848 = .ok (.iaload, 1) := by decide +kernel
theorem dL_law_849 : decode cL_law 849 = .ok (.invokevirtual 111, 3) := by decide +kernel
theorem dL_law_852 : decode cL_law 852 = .ok (.pop, 1) := by decide +kernel
theorem dL_law_853 : decode cL_law 853 = .ok (.aload_n 2, 1) := by decide +kernel
theorem dL_law_854 : decode cL_law 854 = .ok (.aload_n 0, 1) := by decide +kernel
theorem dL_law_855 : decode cL_law 855 = .ok (.iload_n 3, 1) := by decide +kernel
theorem dL_law_856 : decode cL_law 856 = .ok (.iconst 1, 1) := by decide +kernel
theorem dL_law_857 : decode cL_law 857 = .ok (.iadd, 1) := by decide +kernel
theorem dL_law_858 : decode cL_law 858 = .ok (.iaload, 1) := by decide +kernel
theorem dL_law_859 : decode cL_law 859 = .ok (.aload_n 0, 1) := by decide +kernel
theorem dL_law_860 : decode cL_law 860 = .ok (.iload_n 3, 1) := by decide +kernel
theorem dL_law_861 : decode cL_law 861 = .ok (.iconst 2, 1) := by decide +kernel
theorem dL_law_862 : decode cL_law 862 = .ok (.iadd, 1) := by decide +kernel
theorem dL_law_863 : decode cL_law 863 = .ok (.iaload, 1) := by decide +kernel
theorem dL_law_864 : decode cL_law 864 = .ok (.aload_n 0, 1) := by decide +kernel
theorem dL_law_865 : decode cL_law 865 = .ok (.iload_n 3, 1) := by decide +kernel
theorem dL_law_866 : decode cL_law 866 = .ok (.iconst 3, 1) := by decide +kernel
theorem dL_law_867 : decode cL_law 867 = .ok (.iadd, 1) := by decide +kernel
theorem dL_law_868 : decode cL_law 868 = .ok (.iaload, 1) := by decide +kernel
theorem dL_law_869 : decode cL_law 869 = .ok (.invokevirtual 114, 3) := by decide +kernel
theorem dL_law_872 : decode cL_law 872 = .ok (.pop, 1) := by decide +kernel
theorem dL_law_873 : decode cL_law 873 = .ok (.goto 227, 3) := by decide +kernel
theorem dL_law_876 : decode cL_law 876 = .ok (.aload_n 1, 1) := by decide +kernel
theorem dL_law_877 : decode cL_law 877 = .ok (.aload_n 0, 1) := by decide +kernel
theorem dL_law_878 : decode cL_law 878 = .ok (.iload_n 3, 1) := by decide +kernel
theorem dL_law_879 : decode cL_law 879 = .ok (.iconst 1, 1) := by decide +kernel
theorem dL_law_880 : decode cL_law 880 = .ok (.iadd, 1) := by decide +kernel
theorem dL_law_881 : decode cL_law 881 = .ok (.iaload, 1) := by decide +kernel
theorem dL_law_882 : decode cL_law 882 = .ok (.aload_n 0, 1) := by decide +kernel
theorem dL_law_883 : decode cL_law 883 = .ok (.iload_n 3, 1) := by decide +kernel
theorem dL_law_884 : decode cL_law 884 = .ok (.iconst 2, 1) := by decide +kernel
theorem dL_law_885 : decode cL_law 885 = .ok (.iadd, 1) := by decide +kernel
theorem dL_law_886 : decode cL_law 886 = .ok (.iaload, 1) := by decide +kernel
theorem dL_law_887 : decode cL_law 887 = .ok (.invokevirtual 115, 3) := by decide +kernel
theorem dL_law_890 : decode cL_law 890 = .ok (.pop, 1) := by decide +kernel
theorem dL_law_891 : decode cL_law 891 = .ok (.aload_n 2, 1) := by decide +kernel
theorem dL_law_892 : decode cL_law 892 = .ok (.aload_n 0, 1) := by decide +kernel
theorem dL_law_893 : decode cL_law 893 = .ok (.iload_n 3, 1) := by decide +kernel
theorem dL_law_894 : decode cL_law 894 = .ok (.iconst 1, 1) := by decide +kernel
theorem dL_law_895 : decode cL_law 895 = .ok (.iadd, 1) := by decide +kernel
theorem dL_law_896 : decode cL_law 896 = .ok (.iaload, 1) := by decide +kernel
theorem dL_law_897 : decode cL_law 897 = .ok (.aload_n 0, 1) := by decide +kernel
theorem dL_law_898 : decode cL_law 898 = .ok (.iload_n 3, 1) := by decide +kernel
theorem dL_law_899 : decode cL_law 899 = .ok (.iconst 2, 1) := by decide +kernel
theorem dL_law_900 : decode cL_law 900 = .ok (.iadd, 1) := by decide +kernel
theorem dL_law_901 : decode cL_law 901 = .ok (.iaload, 1) := by decide +kernel
theorem dL_law_902 : decode cL_law 902 = .ok (.invokevirtual 118, 3) := by decide +kernel
theorem dL_law_905 : decode cL_law 905 = .ok (.pop, 1) := by decide +kernel
theorem dL_law_906 : decode cL_law 906 = .ok (.goto 194, 3) := by decide +kernel
theorem dL_law_909 : decode cL_law 909 = .ok (.aload_n 1, 1) := by decide +kernel
theorem dL_law_910 : decode cL_law 910 = .ok (.aload_n 0, 1) := by decide +kernel
theorem dL_law_911 : decode cL_law 911 = .ok (.iload_n 3, 1) := by decide +kernel
theorem dL_law_912 : decode cL_law 912 = .ok (.iconst 1, 1) := by decide +kernel
theorem dL_law_913 : decode cL_law 913 = .ok (.iadd, 1) := by decide +kernel
theorem dL_law_914 : decode cL_law 914 = .ok (.iaload, 1) := by decide +kernel
theorem dL_law_915 : decode cL_law 915 = .ok (.invokevirtual 119, 3) := by decide +kernel
theorem dL_law_918 : decode cL_law 918 = .ok (.pop, 1) := by decide +kernel
theorem dL_law_919 : decode cL_law 919 = .ok (.aload_n 2, 1) := by decide +kernel
theorem dL_law_920 : decode cL_law 920 = .ok (.aload_n 0, 1) := by decide +kernel
theorem dL_law_921 : decode cL_law 921 = .ok (.iload_n 3, 1) := by decide +kernel
theorem dL_law_922 : decode cL_law 922 = .ok (.iconst 1, 1) := by decide +kernel
theorem dL_law_923 : decode cL_law 923 = .ok (.iadd, 1) := by decide +kernel
theorem dL_law_924 : decode cL_law 924 = .ok (.iaload, 1) := by decide +kernel
theorem dL_law_925 : decode cL_law 925 = .ok (.invokevirtual 122, 3) := by decide +kernel
theorem dL_law_928 : decode cL_law 928 = .ok (.pop, 1) := by decide +kernel
theorem dL_law_929 : decode cL_law 929 = .ok (.goto 171, 3) := by decide +kernel
theorem dL_law_932 : decode cL_law 932 = .ok (.aload_n 1, 1) := by decide +kernel
theorem dL_law_933 : decode cL_law 933 = .ok (.aload_n 0, 1) := by decide +kernel
theorem dL_law_934 : decode cL_law 934 = .ok (.iload_n 3, 1) := by decide +kernel
theorem dL_law_935 : decode cL_law 935 = .ok (.iconst 1, 1) := by decide +kernel
theorem dL_law_936 : decode cL_law 936 = .ok (.iadd, 1) := by decide +kernel
theorem dL_law_937 : decode cL_law 937 = .ok (.iaload, 1) := by decide +kernel
theorem dL_law_938 : decode cL_law 938 = .ok (.aload_n 0, 1) := by decide +kernel
theorem dL_law_939 : decode cL_law 939 = .ok (.iload_n 3, 1) := by decide +kernel
theorem dL_law_940 : decode cL_law 940 = .ok (.iconst 2, 1) := by decide +kernel
theorem dL_law_941 : decode cL_law 941 = .ok (.iadd, 1) := by decide +kernel
theorem dL_law_942 : decode cL_law 942 = .ok (.iaload, 1) := by decide +kernel
theorem dL_law_943 : decode cL_law 943 = .ok (.invokevirtual 123, 3) := by decide +kernel
theorem dL_law_946 : decode cL_law 946 = .ok (.pop, 1) := by decide +kernel
theorem dL_law_947 : decode cL_law 947 = .ok (.aload_n 2, 1) := by decide +kernel
theorem dL_law_948 : decode cL_law 948 = .ok (.aload_n 0, 1) := by decide +kernel
theorem dL_law_949 : decode cL_law 949 = .ok (.iload_n 3, 1) := by decide +kernel
theorem dL_law_950 : decode cL_law 950 = .ok (.iconst 1, 1) := by decide +kernel
theorem dL_law_951 : decode cL_law 951 = .ok (.iadd, 1) := by decide +kernel
theorem dL_law_952 : decode cL_law 952 = .ok (.iaload, 1) := by decide +kernel
theorem dL_law_953 : decode cL_law 953 = .ok (.aload_n 0, 1) := by decide +kernel
theorem dL_law_954 : decode cL_law 954 = .ok (.iload_n 3, 1) := by decide +kernel
theorem dL_law_955 : decode cL_law 955 = .ok (.iconst 2, 1) := by decide +kernel
theorem dL_law_956 : decode cL_law 956 = .ok (.iadd, 1) := by decide +kernel
theorem dL_law_957 : decode cL_law 957 = .ok (.iaload, 1) := by decide +kernel
theorem dL_law_958 : decode cL_law 958 = .ok (.invokevirtual 126, 3) := by decide +kernel
theorem dL_law_961 : decode cL_law 961 = .ok (.pop, 1) := by decide +kernel
theorem dL_law_962 : decode cL_law 962 = .ok (.goto 138, 3) := by decide +kernel
theorem dL_law_965 : decode cL_law 965 = .ok (.aload_n 1, 1) := by decide +kernel
theorem dL_law_966 : decode cL_law 966 = .ok (.aload_n 0, 1) := by decide +kernel
theorem dL_law_967 : decode cL_law 967 = .ok (.iload_n 3, 1) := by decide +kernel
theorem dL_law_968 : decode cL_law 968 = .ok (.iconst 1, 1) := by decide +kernel
theorem dL_law_969 : decode cL_law 969 = .ok (.iadd, 1) := by decide +kernel
theorem dL_law_970 : decode cL_law 970 = .ok (.iaload, 1) := by decide +kernel
theorem dL_law_971 : decode cL_law 971 = .ok (.invokevirtual 127, 3) := by decide +kernel
theorem dL_law_974 : decode cL_law 974 = .ok (.pop, 1) := by decide +kernel
theorem dL_law_975 : decode cL_law 975 = .ok (.aload_n 2, 1) := by decide +kernel
theorem dL_law_976 : decode cL_law 976 = .ok (.aload_n 0, 1) := by decide +kernel
theorem dL_law_977 : decode cL_law 977 = .ok (.iload_n 3, 1) := by decide +kernel
theorem dL_law_978 : decode cL_law 978 = .ok (.iconst 1, 1) := by decide +kernel
theorem dL_law_979 : decode cL_law 979 = .ok (.iadd, 1) := by decide +kernel
theorem dL_law_980 : decode cL_law 980 = .ok (.iaload, 1) := by decide +kernel
theorem dL_law_981 : decode cL_law 981 = .ok (.invokevirtual 130, 3) := by decide +kernel
theorem dL_law_984 : decode cL_law 984 = .ok (.pop, 1) := by decide +kernel
theorem dL_law_985 : decode cL_law 985 = .ok (.goto 115, 3) := by decide +kernel
theorem dL_law_988 : decode cL_law 988 = .ok (.aload_n 1, 1) := by decide +kernel
theorem dL_law_989 : decode cL_law 989 = .ok (.aload_n 0, 1) := by decide +kernel
theorem dL_law_990 : decode cL_law 990 = .ok (.iload_n 3, 1) := by decide +kernel
theorem dL_law_991 : decode cL_law 991 = .ok (.iconst 1, 1) := by decide +kernel
theorem dL_law_992 : decode cL_law 992 = .ok (.iadd, 1) := by decide +kernel
theorem dL_law_993 : decode cL_law 993 = .ok (.iaload, 1) := by decide +kernel
theorem dL_law_994 : decode cL_law 994 = .ok (.aload_n 0, 1) := by decide +kernel
theorem dL_law_995 : decode cL_law 995 = .ok (.iload_n 3, 1) := by decide +kernel
theorem dL_law_996 : decode cL_law 996 = .ok (.iconst 2, 1) := by decide +kernel
theorem dL_law_997 : decode cL_law 997 = .ok (.iadd, 1) := by decide +kernel
theorem dL_law_998 : decode cL_law 998 = .ok (.iaload, 1) := by decide +kernel
theorem dL_law_999 : decode cL_law 999 = .ok (.invokevirtual 131, 3) := by decide +kernel
theorem dL_law_1002 : decode cL_law 1002 = .ok (.pop, 1) := by decide +kernel
theorem dL_law_1003 : decode cL_law 1003 = .ok (.aload_n 2, 1) := by decide +kernel
theorem dL_law_1004 : decode cL_law 1004 = .ok (.aload_n 0, 1) := by decide +kernel
theorem dL_law_1005 : decode cL_law 1005 = .ok (.iload_n 3, 1) := by decide +kernel
theorem dL_law_1006 : decode cL_law 1006 = .ok (.iconst 1, 1) := by decide +kernel
theorem dL_law_1007 : decode cL_law 1007 = .ok (.iadd, 1) := by decide +kernel
theorem dL_law_1008 : decode cL_law 1008 = .ok (.iaload, 1) := by decide +kernel
theorem dL_law_1009 : decode cL_law 1009 = .ok (.aload_n 0, 1) := by decide +kernel
theorem dL_law_1010 : decode cL_law 1010 = .ok (.iload_n 3, 1) := by decide +kernel
theorem dL_law_1011 : decode cL_law 1011 = .ok (.iconst 2, 1) := by decide +kernel
theorem dL_law_1012 : decode cL_law 1012 = .ok (.iadd, 1) := by decide +kernel
theorem dL_law_1013 : decode cL_law 1013 = .ok (.iaload, 1) := by decide +kernel
theorem dL_law_1014 : decode cL_law 1014 = .ok (.invokevirtual 134, 3) := by decide +kernel
theorem dL_law_1017 : decode cL_law 1017 = .ok (.pop, 1) := by decide +kernel
theorem dL_law_1018 : decode cL_law 1018 = .ok (.goto 82, 3) := by decide +kernel
theorem dL_law_1021 : decode cL_law 1021 = .ok (.aload_n 1, 1) := by decide +kernel
theorem dL_law_1022 : decode cL_law 1022 = .ok (.aload_n 0, 1) := by decide +kernel
theorem dL_law_1023 : decode cL_law 1023 = .ok (.iload_n 3, 1) := by decide +kernel
theorem dL_law_1024 : decode cL_law 1024 = .ok (.iconst 1, 1) := by decide +kernel
theorem dL_law_1025 : decode cL_law 1025 = .ok (.iadd, 1) := by decide +kernel
theorem dL_law_1026 : decode cL_law 1026 = .ok (.iaload, 1) := by decide +kernel
theorem dL_law_1027 : decode cL_law 1027 = .ok (.aload_n 0, 1) := by decide +kernel
theorem dL_law_1028 : decode cL_law 1028 = .ok (.iload_n 3, 1) := by decide +kernel
theorem dL_law_1029 : decode cL_law 1029 = .ok (.iconst 2, 1) := by decide +kernel
theorem dL_law_1030 : decode cL_law 1030 = .ok (.iadd, 1) := by decide +kernel
theorem dL_law_1031 : decode cL_law 1031 = .ok (.iaload, 1) := by decide +kernel
theorem dL_law_1032 : decode cL_law 1032 = .ok (.invokevirtual 135, 3) := by decide +kernel
theorem dL_law_1035 : decode cL_law 1035 = .ok (.pop, 1) := by decide +kernel
theorem dL_law_1036 : decode cL_law 1036 = .ok (.aload_n 2, 1) := by decide +kernel
theorem dL_law_1037 : decode cL_law 1037 = .ok (.aload_n 0, 1) := by decide +kernel
theorem dL_law_1038 : decode cL_law 1038 = .ok (.iload_n 3, 1) := by decide +kernel
theorem dL_law_1039 : decode cL_law 1039 = .ok (.iconst 1, 1) := by decide +kernel
theorem dL_law_1040 : decode cL_law 1040 = .ok (.iadd, 1) := by decide +kernel
theorem dL_law_1041 : decode cL_law 1041 = .ok (.iaload, 1) := by decide +kernel
theorem dL_law_1042 : decode cL_law 1042 = .ok (.aload_n 0, 1) := by decide +kernel
theorem dL_law_1043 : decode cL_law 1043 = .ok (.iload_n 3, 1) := by decide +kernel
theorem dL_law_1044 : decode cL_law 1044 = .ok (.iconst 2, 1) := by decide +kernel
theorem dL_law_1045 : decode cL_law 1045 = .ok (.iadd, 1) := by decide +kernel
theorem dL_law_1046 : decode cL_law 1046 = .ok (.iaload, 1) := by decide +kernel
theorem dL_law_1047 : decode cL_law 1047 = .ok (.invokevirtual 138, 3) := by decide +kernel
theorem dL_law_1050 : decode cL_law 1050 = .ok (.pop, 1) := by decide +kernel
theorem dL_law_1051 : decode cL_law 1051 = .ok (.goto 49, 3) := by decide +kernel
theorem dL_law_1054 : decode cL_law 1054 = .ok (.aload_n 1, 1) := by decide +kernel
theorem dL_law_1055 : decode cL_law 1055 = .ok (.aload_n 0, 1) := by decide +kernel
theorem dL_law_1056 : decode cL_law 1056 = .ok (.iload_n 3, 1) := by decide +kernel
theorem dL_law_1057 : decode cL_law 1057 = .ok (.iconst 1, 1) := by decide +kernel
theorem dL_law_1058 : decode cL_law 1058 = .ok (.iadd, 1) := by decide +kernel
theorem dL_law_1059 : decode cL_law 1059 = .ok (.iaload, 1) := by decide +kernel
theorem dL_law_1060 : decode cL_law 1060 = .ok (.invokevirtual 139, 3) := by decide +kernel
theorem dL_law_1063 : decode cL_law 1063 = .ok (.pop, 1) := by decide +kernel
theorem dL_law_1064 : decode cL_law 1064 = .ok (.aload_n 2, 1) := by decide +kernel
theorem dL_law_1065 : decode cL_law 1065 = .ok (.aload_n 0, 1) := by decide +kernel
theorem dL_law_1066 : decode cL_law 1066 = .ok (.iload_n 3, 1) := by decide +kernel
theorem dL_law_1067 : decode cL_law 1067 = .ok (.iconst 1, 1) := by decide +kernel
theorem dL_law_1068 : decode cL_law 1068 = .ok (.iadd, 1) := by decide +kernel
theorem dL_law_1069 : decode cL_law 1069 = .ok (.iaload, 1) := by decide +kernel
theorem dL_law_1070 : decode cL_law 1070 = .ok (.invokevirtual 142, 3) := by decide +kernel
theorem dL_law_1073 : decode cL_law 1073 = .ok (.pop, 1) := by decide +kernel
theorem dL_law_1074 : decode cL_law 1074 = .ok (.goto 26, 3) := by decide +kernel
theorem dL_law_1077 : decode cL_law 1077 = .ok (.aload_n 1, 1) := by decide +kernel
theorem dL_law_1078 : decode cL_law 1078 = .ok (.aload_n 0, 1) := by decide +kernel
theorem dL_law_1079 : decode cL_law 1079 = .ok (.iload_n 3, 1) := by decide +kernel
theorem dL_law_1080 : decode cL_law 1080 = .ok (.iconst 1, 1) := by decide +kernel
theorem dL_law_1081 : decode cL_law 1081 = .ok (.iadd, 1) := by decide +kernel
theorem dL_law_1082 : decode cL_law 1082 = .ok (.iaload, 1) := by decide +kernel
theorem dL_law_1083 : decode cL_law 1083 = .ok (.invokevirtual 143, 3) := by decide +kernel
theorem dL_law_1086 : decode cL_law 1086 = .ok (.aload_n 2, 1) := by decide +kernel
theorem dL_law_1087 : decode cL_law 1087 = .ok (.aload_n 0, 1) := by decide +kernel
theorem dL_law_1088 : decode cL_law 1088 = .ok (.iload_n 3, 1) := by decide +kernel
theorem dL_law_1089 : decode cL_law 1089 = .ok (.iconst 1, 1) := by decide +kernel
theorem dL_law_1090 : decode cL_law 1090 = .ok (.iadd, 1) := by decide +kernel
theorem dL_law_1091 : decode cL_law 1091 = .ok (.iaload, 1) := by decide +kernel
theorem dL_law_1092 : decode cL_law 1092 = .ok (.invokevirtual 146, 3) := by decide +kernel
theorem dL_law_1095 : decode cL_law 1095 = .ok (.if_icmp .eq 5, 3) := by decide +kernel
theorem dL_law_1098 : decode cL_law 1098 = .ok (.iconst 0, 1) := by decide +kernel
theorem dL_law_1099 : decode cL_law 1099 = .ok (.ireturn, 1) := by decide +kernel
theorem dL_law_1100 : decode cL_law 1100 = .ok (.iinc 3 4, 3) := by decide +kernel
theorem dL_law_1103 : decode cL_law 1103 = .ok (.goto (-1085), 3) := by decide +kernel
theorem dL_law_1106 : decode cL_law 1106 = .ok (.iconst 1, 1) := by decide +kernel
theorem dL_law_1107 : decode cL_law 1107 = .ok (.ireturn, 1) := by decide +kernel
