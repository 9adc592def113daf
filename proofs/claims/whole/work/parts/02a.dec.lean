theorem d_Br_init_0 : decode b_Br_init 0 = .ok (.aload_n 0, 1) := by decide +kernel
theorem d_Br_init_1 : decode b_Br_init 1 = .ok (.invokespecial 1, 3) := by decide +kernel
theorem d_Br_init_4 : decode b_Br_init 4 = .ok (.return_, 1) := by decide +kernel
theorem d_Br_clear_0 : decode b_Br_clear 0 = .ok (.aload_n 0, 1) := by decide +kernel
theorem d_Br_clear_1 : decode b_Br_clear 1 = .ok (.iconst 0, 1) := by decide +kernel
theorem d_Br_clear_2 : decode b_Br_clear 2 = .ok (.putfield 7, 3) := by decide +kernel
theorem d_Br_clear_5 : decode b_Br_clear 5 = .ok (.aload_n 0, 1) := by decide +kernel
theorem d_Br_clear_6 : decode b_Br_clear 6 = .ok (.iconst 0, 1) := by decide +kernel
theorem d_Br_clear_7 : decode b_Br_clear 7 = .ok (.putfield 13, 3) := by decide +kernel
theorem d_Br_clear_10 : decode b_Br_clear 10 = .ok (.return_, 1) := by decide +kernel
theorem d_Br_allEnded_0 : decode b_Br_allEnded 0 = .ok (.aload_n 0, 1) := by decide +kernel
theorem d_Br_allEnded_1 : decode b_Br_allEnded 1 = .ok (.getfield 7, 3) := by decide +kernel
theorem d_Br_allEnded_4 : decode b_Br_allEnded 4 = .ok (.ifCond .ne 7, 3) := by decide +kernel
theorem d_Br_allEnded_7 : decode b_Br_allEnded 7 = .ok (.iconst 1, 1) := by decide +kernel
theorem d_Br_allEnded_8 : decode b_Br_allEnded 8 = .ok (.goto 4, 3) := by decide +kernel
theorem d_Br_allEnded_11 : decode b_Br_allEnded 11 = .ok (.iconst 0, 1) := by decide +kernel
theorem d_Br_allEnded_12 : decode b_Br_allEnded 12 = .ok (.ireturn, 1) := by decide +kernel
theorem d_Br_isDone_0 : decode b_Br_isDone 0 = .ok (.aload_n 0, 1) := by decide +kernel
theorem d_Br_isDone_1 : decode b_Br_isDone 1 = .ok (.getfield 13, 3) := by decide +kernel
theorem d_Br_isDone_4 : decode b_Br_isDone 4 = .ok (.ifCond .ne 7, 3) := by decide +kernel
theorem d_Br_isDone_7 : decode b_Br_isDone 7 = .ok (.iconst 1, 1) := by decide +kernel
theorem d_Br_isDone_8 : decode b_Br_isDone 8 = .ok (.goto 4, 3) := by decide +kernel
theorem d_Br_isDone_11 : decode b_Br_isDone 11 = .ok (.iconst 0, 1) := by decide +kernel
theorem d_Br_isDone_12 : decode b_Br_isDone 12 = .ok (.ireturn, 1) := by decide +kernel
theorem d_Br_enter_0 : decode b_Br_enter 0 = .ok (.aload_n 0, 1) := by decide +kernel
theorem d_Br_enter_1 : decode b_Br_enter 1 = .ok (.dup, 1) := by decide +kernel
theorem d_Br_enter_2 : decode b_Br_enter 2 = .ok (.getfield 7, 3) := by decide +kernel
theorem d_Br_enter_5 : decode b_Br_enter 5 = .ok (.iconst 1, 1) := by decide +kernel
theorem d_Br_enter_6 : decode b_Br_enter 6 = .ok (.iadd, 1) := by decide +kernel
theorem d_Br_enter_7 : decode b_Br_enter 7 = .ok (.putfield 7, 3) := by decide +kernel
theorem d_Br_enter_10 : decode b_Br_enter 10 = .ok (.aload_n 0, 1) := by decide +kernel
theorem d_Br_enter_11 : decode b_Br_enter 11 = .ok (.invokevirtual 16, 3) := by decide +kernel
theorem d_Br_enter_14 : decode b_Br_enter 14 = .ok (.ifCond .eq 15, 3) := by decide +kernel
theorem d_Br_enter_17 : decode b_Br_enter 17 = .ok (.iload_n 1, 1) := by decide +kernel
theorem d_Br_enter_18 : decode b_Br_enter 18 = .ok (.ifCond .ne 11, 3) := by decide +kernel
theorem d_Br_enter_21 : decode b_Br_enter 21 = .ok (.aload_n 0, 1) := by decide +kernel
theorem d_Br_enter_22 : decode b_Br_enter 22 = .ok (.aload_n 0, 1) := by decide +kernel
theorem d_Br_enter_23 : decode b_Br_enter 23 = .ok (.getfield 7, 3) := by decide +kernel
theorem d_Br_enter_26 : decode b_Br_enter 26 = .ok (.putfield 13, 3) := by decide +kernel
theorem d_Br_enter_29 : decode b_Br_enter 29 = .ok (.return_, 1) := by decide +kernel
theorem d_Br_turn_0 : decode b_Br_turn 0 = .ok (.aload_n 0, 1) := by decide +kernel
theorem d_Br_turn_1 : decode b_Br_turn 1 = .ok (.getfield 7, 3) := by decide +kernel
theorem d_Br_turn_4 : decode b_Br_turn 4 = .ok (.ifCond .ne 5, 3) := by decide +kernel
theorem d_Br_turn_7 : decode b_Br_turn 7 = .ok (.iconst 0, 1) := by decide +kernel
theorem d_Br_turn_8 : decode b_Br_turn 8 = .ok (.ireturn, 1) := by decide +kernel
theorem d_Br_turn_9 : decode b_Br_turn 9 = .ok (.aload_n 0, 1) := by decide +kernel
theorem d_Br_turn_10 : decode b_Br_turn 10 = .ok (.invokevirtual 16, 3) := by decide +kernel
theorem d_Br_turn_13 : decode b_Br_turn 13 = .ok (.ifCond .eq 14, 3) := by decide +kernel
theorem d_Br_turn_16 : decode b_Br_turn 16 = .ok (.aload_n 0, 1) := by decide +kernel
theorem d_Br_turn_17 : decode b_Br_turn 17 = .ok (.aload_n 0, 1) := by decide +kernel
theorem d_Br_turn_18 : decode b_Br_turn 18 = .ok (.getfield 7, 3) := by decide +kernel
theorem d_Br_turn_21 : decode b_Br_turn 21 = .ok (.putfield 13, 3) := by decide +kernel
theorem d_Br_turn_24 : decode b_Br_turn 24 = .ok (.goto 19, 3) := by decide +kernel
theorem d_Br_turn_27 : decode b_Br_turn 27 = .ok (.aload_n 0, 1) := by decide +kernel
theorem d_Br_turn_28 : decode b_Br_turn 28 = .ok (.getfield 13, 3) := by decide +kernel
theorem d_Br_turn_31 : decode b_Br_turn 31 = .ok (.aload_n 0, 1) := by decide +kernel
theorem d_Br_turn_32 : decode b_Br_turn 32 = .ok (.getfield 7, 3) := by decide +kernel
theorem d_Br_turn_35 : decode b_Br_turn 35 = .ok (.if_icmp .ne 8, 3) := by decide +kernel
theorem d_Br_turn_38 : decode b_Br_turn 38 = .ok (.aload_n 0, 1) := by decide +kernel
theorem d_Br_turn_39 : decode b_Br_turn 39 = .ok (.iconst 0, 1) := by decide +kernel
theorem d_Br_turn_40 : decode b_Br_turn 40 = .ok (.putfield 13, 3) := by decide +kernel
theorem d_Br_turn_43 : decode b_Br_turn 43 = .ok (.iconst 1, 1) := by decide +kernel
theorem d_Br_turn_44 : decode b_Br_turn 44 = .ok (.ireturn, 1) := by decide +kernel
theorem d_Br_leave_0 : decode b_Br_leave 0 = .ok (.aload_n 0, 1) := by decide +kernel
theorem d_Br_leave_1 : decode b_Br_leave 1 = .ok (.getfield 7, 3) := by decide +kernel
theorem d_Br_leave_4 : decode b_Br_leave 4 = .ok (.ifCond .ne 5, 3) := by decide +kernel
theorem d_Br_leave_7 : decode b_Br_leave 7 = .ok (.iconst 0, 1) := by decide +kernel
theorem d_Br_leave_8 : decode b_Br_leave 8 = .ok (.ireturn, 1) := by decide +kernel
theorem d_Br_leave_9 : decode b_Br_leave 9 = .ok (.aload_n 0, 1) := by decide +kernel
theorem d_Br_leave_10 : decode b_Br_leave 10 = .ok (.getfield 13, 3) := by decide +kernel
theorem d_Br_leave_13 : decode b_Br_leave 13 = .ok (.aload_n 0, 1) := by decide +kernel
theorem d_Br_leave_14 : decode b_Br_leave 14 = .ok (.getfield 7, 3) := by decide +kernel
theorem d_Br_leave_17 : decode b_Br_leave 17 = .ok (.if_icmp .ne 8, 3) := by decide +kernel
theorem d_Br_leave_20 : decode b_Br_leave 20 = .ok (.aload_n 0, 1) := by decide +kernel
theorem d_Br_leave_21 : decode b_Br_leave 21 = .ok (.iconst 0, 1) := by decide +kernel
theorem d_Br_leave_22 : decode b_Br_leave 22 = .ok (.putfield 13, 3) := by decide +kernel
theorem d_Br_leave_25 : decode b_Br_leave 25 = .ok (.aload_n 0, 1) := by decide +kernel
theorem d_Br_leave_26 : decode b_Br_leave 26 = .ok (.dup, 1) := by decide +kernel
theorem d_Br_leave_27 : decode b_Br_leave 27 = .ok (.getfield 7, 3) := by decide +kernel
theorem d_Br_leave_30 : decode b_Br_leave 30 = .ok (.iconst 1, 1) := by decide +kernel
theorem d_Br_leave_31 : decode b_Br_leave 31 = .ok (.isub, 1) := by decide +kernel
theorem d_Br_leave_32 : decode b_Br_leave 32 = .ok (.putfield 7, 3) := by decide +kernel
theorem d_Br_leave_35 : decode b_Br_leave 35 = .ok (.iconst 1, 1) := by decide +kernel
theorem d_Br_leave_36 : decode b_Br_leave 36 = .ok (.ireturn, 1) := by decide +kernel
theorem d_El_init_0 : decode b_El_init 0 = .ok (.aload_n 0, 1) := by decide +kernel
theorem d_El_init_1 : decode b_El_init 1 = .ok (.invokespecial 1, 3) := by decide +kernel
theorem d_El_init_4 : decode b_El_init 4 = .ok (.aload_n 0, 1) := by decide +kernel
theorem d_El_init_5 : decode b_El_init 5 = .ok (.sipush 1920, 3) := by decide +kernel
theorem d_El_init_8 : decode b_El_init 8 = .ok (.newarray .byte, 2) := by decide +kernel
theorem d_El_init_10 : decode b_El_init 10 = .ok (.putfield 9, 3) := by decide +kernel
theorem d_El_init_13 : decode b_El_init 13 = .ok (.aload_n 0, 1) := by decide +kernel
theorem d_El_init_14 : decode b_El_init 14 = .ok (.bipush 24, 2) := by decide +kernel
theorem d_El_init_16 : decode b_El_init 16 = .ok (.newarray .int, 2) := by decide +kernel
theorem d_El_init_18 : decode b_El_init 18 = .ok (.putfield 13, 3) := by decide +kernel
theorem d_El_init_21 : decode b_El_init 21 = .ok (.aload_n 0, 1) := by decide +kernel
theorem d_El_init_22 : decode b_El_init 22 = .ok (.iconst 0, 1) := by decide +kernel
theorem d_El_init_23 : decode b_El_init 23 = .ok (.putfield 17, 3) := by decide +kernel
theorem d_El_init_26 : decode b_El_init 26 = .ok (.return_, 1) := by decide +kernel
theorem d_El_place_0 : decode b_El_place 0 = .ok (.iload_n 1, 1) := by decide +kernel
theorem d_El_place_1 : decode b_El_place 1 = .ok (.bipush 80, 2) := by decide +kernel
theorem d_El_place_3 : decode b_El_place 3 = .ok (.imul, 1) := by decide +kernel
theorem d_El_place_4 : decode b_El_place 4 = .ok (.ireturn, 1) := by decide +kernel
theorem d_El_has_0 : decode b_El_has 0 = .ok (.iload_n 1, 1) := by decide +kernel
theorem d_El_has_1 : decode b_El_has 1 = .ok (.ifCond .lt 15, 3) := by decide +kernel
theorem d_El_has_4 : decode b_El_has 4 = .ok (.iload_n 1, 1) := by decide +kernel
theorem d_El_has_5 : decode b_El_has 5 = .ok (.aload_n 0, 1) := by decide +kernel
theorem d_El_has_6 : decode b_El_has 6 = .ok (.getfield 17, 3) := by decide +kernel
theorem d_El_has_9 : decode b_El_has 9 = .ok (.if_icmp .ge 7, 3) := by decide +kernel
theorem d_El_has_12 : decode b_El_has 12 = .ok (.iconst 1, 1) := by decide +kernel
theorem d_El_has_13 : decode b_El_has 13 = .ok (.goto 4, 3) := by decide +kernel
theorem d_El_has_16 : decode b_El_has 16 = .ok (.iconst 0, 1) := by decide +kernel
theorem d_El_has_17 : decode b_El_has 17 = .ok (.ireturn, 1) := by decide +kernel
theorem d_El_push_0 : decode b_El_push 0 = .ok (.aload_n 0, 1) := by decide +kernel
theorem d_El_push_1 : decode b_El_push 1 = .ok (.getfield 17, 3) := by decide +kernel
theorem d_El_push_4 : decode b_El_push 4 = .ok (.bipush 24, 2) := by decide +kernel
theorem d_El_push_6 : decode b_El_push 6 = .ok (.if_icmp .ge 9, 3) := by decide +kernel
theorem d_El_push_9 : decode b_El_push 9 = .ok (.iload_n 3, 1) := by decide +kernel
theorem d_El_push_10 : decode b_El_push 10 = .ok (.bipush 80, 2) := by decide +kernel
theorem d_El_push_12 : decode b_El_push 12 = .ok (.if_icmp .le 5, 3) := by decide +kernel
theorem d_El_push_15 : decode b_El_push 15 = .ok (.iconst 0, 1) := by decide +kernel
theorem d_El_push_16 : decode b_El_push 16 = .ok (.ireturn, 1) := by decide +kernel
theorem d_El_push_17 : decode b_El_push 17 = .ok (.aload_n 1, 1) := by decide +kernel
theorem d_El_push_18 : decode b_El_push 18 = .ok (.iload_n 2, 1) := by decide +kernel
theorem d_El_push_19 : decode b_El_push 19 = .ok (.aload_n 0, 1) := by decide +kernel
theorem d_El_push_20 : decode b_El_push 20 = .ok (.getfield 9, 3) := by decide +kernel
theorem d_El_push_23 : decode b_El_push 23 = .ok (.aload_n 0, 1) := by decide +kernel
theorem d_El_push_24 : decode b_El_push 24 = .ok (.aload_n 0, 1) := by decide +kernel
theorem d_El_push_25 : decode b_El_push 25 = .ok (.getfield 17, 3) := by decide +kernel
theorem d_El_push_28 : decode b_El_push 28 = .ok (.invokevirtual 21, 3) := by decide +kernel
theorem d_El_push_31 : decode b_El_push 31 = .ok (.iload_n 3, 1) := by decide +kernel
theorem d_El_push_32 : decode b_El_push 32 = .ok (.invokestatic 25, 3) := by decide +kernel
theorem d_El_push_35 : decode b_El_push 35 = .ok (.aload_n 0, 1) := by decide +kernel
theorem d_El_push_36 : decode b_El_push 36 = .ok (.getfield 13, 3) := by decide +kernel
theorem d_El_push_39 : decode b_El_push 39 = .ok (.aload_n 0, 1) := by decide +kernel
theorem d_El_push_40 : decode b_El_push 40 = .ok (.getfield 17, 3) := by decide +kernel
theorem d_El_push_43 : decode b_El_push 43 = .ok (.iload_n 3, 1) := by decide +kernel
theorem d_El_push_44 : decode b_El_push 44 = .ok (.iastore, 1) := by decide +kernel
theorem d_El_push_45 : decode b_El_push 45 = .ok (.aload_n 0, 1) := by decide +kernel
theorem d_El_push_46 : decode b_El_push 46 = .ok (.dup, 1) := by decide +kernel
theorem d_El_push_47 : decode b_El_push 47 = .ok (.getfield 17, 3) := by decide +kernel
theorem d_El_push_50 : decode b_El_push 50 = .ok (.iconst 1, 1) := by decide +kernel
theorem d_El_push_51 : decode b_El_push 51 = .ok (.iadd, 1) := by decide +kernel
theorem d_El_push_52 : decode b_El_push 52 = .ok (.putfield 17, 3) := by decide +kernel
theorem d_El_push_55 : decode b_El_push 55 = .ok (.iconst 1, 1) := by decide +kernel
theorem d_El_push_56 : decode b_El_push 56 = .ok (.ireturn, 1) := by decide +kernel
theorem d_El_pushNumber_0 : decode b_El_pushNumber 0 = .ok (.aload_n 0, 1) := by decide +kernel
theorem d_El_pushNumber_1 : decode b_El_pushNumber 1 = .ok (.getfield 17, 3) := by decide +kernel
theorem d_El_pushNumber_4 : decode b_El_pushNumber 4 = .ok (.bipush 24, 2) := by decide +kernel
theorem d_El_pushNumber_6 : decode b_El_pushNumber 6 = .ok (.if_icmp .lt 5, 3) := by decide +kernel
theorem d_El_pushNumber_9 : decode b_El_pushNumber 9 = .ok (.iconst 0, 1) := by decide +kernel
theorem d_El_pushNumber_10 : decode b_El_pushNumber 10 = .ok (.ireturn, 1) := by decide +kernel
theorem d_El_pushNumber_11 : decode b_El_pushNumber 11 = .ok (.aload_n 0, 1) := by decide +kernel
theorem d_El_pushNumber_12 : decode b_El_pushNumber 12 = .ok (.aload_n 0, 1) := by decide +kernel
theorem d_El_pushNumber_13 : decode b_El_pushNumber 13 = .ok (.getfield 17, 3) := by decide +kernel
theorem d_El_pushNumber_16 : decode b_El_pushNumber 16 = .ok (.invokevirtual 21, 3) := by decide +kernel
theorem d_El_pushNumber_19 : decode b_El_pushNumber 19 = .ok (.istore_n 2, 1) := by decide +kernel
theorem d_El_pushNumber_20 : decode b_El_pushNumber 20 = .ok (.iconst 0, 1) := by decide +kernel
theorem d_El_pushNumber_21 : decode b_El_pushNumber 21 = .ok (.istore_n 3, 1) := by decide +kernel
theorem d_El_pushNumber_22 : decode b_El_pushNumber 22 = .ok (.iload_n 3, 1) := by decide +kernel
theorem d_El_pushNumber_23 : decode b_El_pushNumber 23 = .ok (.iconst 4, 1) := by decide +kernel
theorem d_El_pushNumber_24 : decode b_El_pushNumber 24 = .ok (.if_icmp .ge 27, 3) := by decide +kernel
theorem d_El_pushNumber_27 : decode b_El_pushNumber 27 = .ok (.aload_n 0, 1) := by decide +kernel
theorem d_El_pushNumber_28 : decode b_El_pushNumber 28 = .ok (.getfield 9, 3) := by decide +kernel
theorem d_El_pushNumber_31 : decode b_El_pushNumber 31 = .ok (.iload_n 2, 1) := by decide +kernel
theorem d_El_pushNumber_32 : decode b_El_pushNumber 32 = .ok (.iload_n 3, 1) := by decide +kernel
theorem d_El_pushNumber_33 : decode b_El_pushNumber 33 = .ok (.iadd, 1) := by decide +kernel
theorem d_El_pushNumber_34 : decode b_El_pushNumber 34 = .ok (.iload_n 1, 1) := by decide +kernel
theorem d_El_pushNumber_35 : decode b_El_pushNumber 35 = .ok (.bipush 24, 2) := by decide +kernel
theorem d_El_pushNumber_37 : decode b_El_pushNumber 37 = .ok (.iload_n 3, 1) := by decide +kernel
theorem d_El_pushNumber_38 : decode b_El_pushNumber 38 = .ok (.bipush 8, 2) := by decide +kernel
theorem d_El_pushNumber_40 : decode b_El_pushNumber 40 = .ok (.imul, 1) := by decide +kernel
theorem d_El_pushNumber_41 : decode b_El_pushNumber 41 = .ok (.isub, 1) := by decide +kernel
theorem d_El_pushNumber_42 : decode b_El_pushNumber 42 = .ok (.iushr, 1) := by decide +kernel
theorem d_El_pushNumber_43 : decode b_El_pushNumber 43 = .ok (.i2b, 1) := by decide +kernel
theorem d_El_pushNumber_44 : decode b_El_pushNumber 44 = .ok (.bastore, 1) := by decide +kernel
theorem d_El_pushNumber_45 : decode b_El_pushNumber 45 = .ok (.iinc 3 1, 3) := by decide +kernel
theorem d_El_pushNumber_48 : decode b_El_pushNumber 48 = .ok (.goto (-26), 3) := by decide +kernel
theorem d_El_pushNumber_51 : decode b_El_pushNumber 51 = .ok (.aload_n 0, 1) := by decide +kernel
theorem d_El_pushNumber_52 : decode b_El_pushNumber 52 = .ok (.getfield 13, 3) := by decide +kernel
theorem d_El_pushNumber_55 : decode b_El_pushNumber 55 = .ok (.aload_n 0, 1) := by decide +kernel
theorem d_El_pushNumber_56 : decode b_El_pushNumber 56 = .ok (.getfield 17, 3) := by decide +kernel
theorem d_El_pushNumber_59 : decode b_El_pushNumber 59 = .ok (.iload_n 1, 1) := by decide +kernel
theorem d_El_pushNumber_60 : decode b_El_pushNumber 60 = .ok (.ifCond .ne 7, 3) := by decide +kernel
theorem d_El_pushNumber_63 : decode b_El_pushNumber 63 = .ok (.iconst 0, 1) := by decide +kernel
theorem d_El_pushNumber_64 : decode b_El_pushNumber 64 = .ok (.goto 4, 3) := by decide +kernel
theorem d_El_pushNumber_67 : decode b_El_pushNumber 67 = .ok (.iconst 4, 1) := by decide +kernel
theorem d_El_pushNumber_68 : decode b_El_pushNumber 68 = .ok (.iastore, 1) := by decide +kernel
theorem d_El_pushNumber_69 : decode b_El_pushNumber 69 = .ok (.aload_n 0, 1) := by decide +kernel
theorem d_El_pushNumber_70 : decode b_El_pushNumber 70 = .ok (.dup, 1) := by decide +kernel
theorem d_El_pushNumber_71 : decode b_El_pushNumber 71 = .ok (.getfield 17, 3) := by decide +kernel
theorem d_El_pushNumber_74 : decode b_El_pushNumber 74 = .ok (.iconst 1, 1) := by decide +kernel
theorem d_El_pushNumber_75 : decode b_El_pushNumber 75 = .ok (.iadd, 1) := by decide +kernel
theorem d_El_pushNumber_76 : decode b_El_pushNumber 76 = .ok (.putfield 17, 3) := by decide +kernel
theorem d_El_pushNumber_79 : decode b_El_pushNumber 79 = .ok (.iconst 1, 1) := by decide +kernel
theorem d_El_pushNumber_80 : decode b_El_pushNumber 80 = .ok (.ireturn, 1) := by decide +kernel
theorem d_El_pushCopy_0 : decode b_El_pushCopy 0 = .ok (.aload_n 0, 1) := by decide +kernel
theorem d_El_pushCopy_1 : decode b_El_pushCopy 1 = .ok (.iload_n 1, 1) := by decide +kernel
theorem d_El_pushCopy_2 : decode b_El_pushCopy 2 = .ok (.invokevirtual 31, 3) := by decide +kernel
theorem d_El_pushCopy_5 : decode b_El_pushCopy 5 = .ok (.ifCond .eq 29, 3) := by decide +kernel
theorem d_El_pushCopy_8 : decode b_El_pushCopy 8 = .ok (.aload_n 0, 1) := by decide +kernel
theorem d_El_pushCopy_9 : decode b_El_pushCopy 9 = .ok (.aload_n 0, 1) := by decide +kernel
theorem d_El_pushCopy_10 : decode b_El_pushCopy 10 = .ok (.getfield 9, 3) := by decide +kernel
theorem d_El_pushCopy_13 : decode b_El_pushCopy 13 = .ok (.aload_n 0, 1) := by decide +kernel
theorem d_El_pushCopy_14 : decode b_El_pushCopy 14 = .ok (.iload_n 1, 1) := by decide +kernel
theorem d_El_pushCopy_15 : decode b_El_pushCopy 15 = .ok (.invokevirtual 21, 3) := by decide +kernel
theorem d_El_pushCopy_18 : decode b_El_pushCopy 18 = .ok (.aload_n 0, 1) := by decide +kernel
theorem d_El_pushCopy_19 : decode b_El_pushCopy 19 = .ok (.getfield 13, 3) := by decide +kernel
theorem d_El_pushCopy_22 : decode b_El_pushCopy 22 = .ok (.iload_n 1, 1) := by decide +kernel
theorem d_El_pushCopy_23 : decode b_El_pushCopy 23 = .ok (.iaload, 1) := by decide +kernel
theorem d_El_pushCopy_24 : decode b_El_pushCopy 24 = .ok (.invokevirtual 35, 3) := by decide +kernel
theorem d_El_pushCopy_27 : decode b_El_pushCopy 27 = .ok (.ifCond .eq 7, 3) := by decide +kernel
theorem d_El_pushCopy_30 : decode b_El_pushCopy 30 = .ok (.iconst 1, 1) := by decide +kernel
theorem d_El_pushCopy_31 : decode b_El_pushCopy 31 = .ok (.goto 4, 3) := by decide +kernel
theorem d_El_pushCopy_34 : decode b_El_pushCopy 34 = .ok (.iconst 0, 1) := by decide +kernel
theorem d_El_pushCopy_35 : decode b_El_pushCopy 35 = .ok (.ireturn, 1) := by decide +kernel
theorem d_El_drop_0 : decode b_El_drop 0 = .ok (.iload_n 1, 1) := by decide +kernel
theorem d_El_drop_1 : decode b_El_drop 1 = .ok (.aload_n 0, 1) := by decide +kernel
theorem d_El_drop_2 : decode b_El_drop 2 = .ok (.getfield 17, 3) := by decide +kernel
theorem d_El_drop_5 : decode b_El_drop 5 = .ok (.if_icmp .le 5, 3) := by decide +kernel
theorem d_El_drop_8 : decode b_El_drop 8 = .ok (.iconst 0, 1) := by decide +kernel
theorem d_El_drop_9 : decode b_El_drop 9 = .ok (.ireturn, 1) := by decide +kernel
theorem d_El_drop_10 : decode b_El_drop 10 = .ok (.aload_n 0, 1) := by decide +kernel
theorem d_El_drop_11 : decode b_El_drop 11 = .ok (.dup, 1) := by decide +kernel
theorem d_El_drop_12 : decode b_El_drop 12 = .ok (.getfield 17, 3) := by decide +kernel
theorem d_El_drop_15 : decode b_El_drop 15 = .ok (.iload_n 1, 1) := by decide +kernel
theorem d_El_drop_16 : decode b_El_drop 16 = .ok (.isub, 1) := by decide +kernel
theorem d_El_drop_17 : decode b_El_drop 17 = .ok (.putfield 17, 3) := by decide +kernel
theorem d_El_drop_20 : decode b_El_drop 20 = .ok (.iconst 1, 1) := by decide +kernel
theorem d_El_drop_21 : decode b_El_drop 21 = .ok (.ireturn, 1) := by decide +kernel
theorem d_El_replace_0 : decode b_El_replace 0 = .ok (.aload_n 0, 1) := by decide +kernel
theorem d_El_replace_1 : decode b_El_replace 1 = .ok (.iload_n 1, 1) := by decide +kernel
theorem d_El_replace_2 : decode b_El_replace 2 = .ok (.invokevirtual 39, 3) := by decide +kernel
theorem d_El_replace_5 : decode b_El_replace 5 = .ok (.ifCond .eq 15, 3) := by decide +kernel
theorem d_El_replace_8 : decode b_El_replace 8 = .ok (.aload_n 0, 1) := by decide +kernel
theorem d_El_replace_9 : decode b_El_replace 9 = .ok (.iload_n 2, 1) := by decide +kernel
theorem d_El_replace_10 : decode b_El_replace 10 = .ok (.invokevirtual 42, 3) := by decide +kernel
theorem d_El_replace_13 : decode b_El_replace 13 = .ok (.ifCond .eq 7, 3) := by decide +kernel
theorem d_El_replace_16 : decode b_El_replace 16 = .ok (.iconst 1, 1) := by decide +kernel
theorem d_El_replace_17 : decode b_El_replace 17 = .ok (.goto 4, 3) := by decide +kernel
theorem d_El_replace_20 : decode b_El_replace 20 = .ok (.iconst 0, 1) := by decide +kernel
theorem d_El_replace_21 : decode b_El_replace 21 = .ok (.ireturn, 1) := by decide +kernel
theorem d_El_replaceByTruth_0 : decode b_El_replaceByTruth 0 = .ok (.aload_n 0, 1) := by decide +kernel
theorem d_El_replaceByTruth_1 : decode b_El_replaceByTruth 1 = .ok (.iload_n 1, 1) := by decide +kernel
theorem d_El_replaceByTruth_2 : decode b_El_replaceByTruth 2 = .ok (.iload_n 2, 1) := by decide +kernel
theorem d_El_replaceByTruth_3 : decode b_El_replaceByTruth 3 = .ok (.ifCond .eq 7, 3) := by decide +kernel
theorem d_El_replaceByTruth_6 : decode b_El_replaceByTruth 6 = .ok (.iconst 1, 1) := by decide +kernel
theorem d_El_replaceByTruth_7 : decode b_El_replaceByTruth 7 = .ok (.goto 4, 3) := by decide +kernel
theorem d_El_replaceByTruth_10 : decode b_El_replaceByTruth 10 = .ok (.iconst 0, 1) := by decide +kernel
theorem d_El_replaceByTruth_11 : decode b_El_replaceByTruth 11 = .ok (.invokevirtual 45, 3) := by decide +kernel
theorem d_El_replaceByTruth_14 : decode b_El_replaceByTruth 14 = .ok (.ireturn, 1) := by decide +kernel
theorem d_El_swapLast_0 : decode b_El_swapLast 0 = .ok (.aload_n 0, 1) := by decide +kernel
theorem d_El_swapLast_1 : decode b_El_swapLast 1 = .ok (.getfield 17, 3) := by decide +kernel
theorem d_El_swapLast_4 : decode b_El_swapLast 4 = .ok (.iconst 2, 1) := by decide +kernel
theorem d_El_swapLast_5 : decode b_El_swapLast 5 = .ok (.isub, 1) := by decide +kernel
theorem d_El_swapLast_6 : decode b_El_swapLast 6 = .ok (.istore_n 1, 1) := by decide +kernel
theorem d_El_swapLast_7 : decode b_El_swapLast 7 = .ok (.aload_n 0, 1) := by decide +kernel
theorem d_El_swapLast_8 : decode b_El_swapLast 8 = .ok (.iload_n 1, 1) := by decide +kernel
theorem d_El_swapLast_9 : decode b_El_swapLast 9 = .ok (.invokevirtual 31, 3) := by decide +kernel
theorem d_El_swapLast_12 : decode b_El_swapLast 12 = .ok (.ifCond .ne 5, 3) := by decide +kernel
theorem d_El_swapLast_15 : decode b_El_swapLast 15 = .ok (.iconst 0, 1) := by decide +kernel
theorem d_El_swapLast_16 : decode b_El_swapLast 16 = .ok (.ireturn, 1) := by decide +kernel
theorem d_El_swapLast_17 : decode b_El_swapLast 17 = .ok (.aload_n 0, 1) := by decide +kernel
theorem d_El_swapLast_18 : decode b_El_swapLast 18 = .ok (.getfield 13, 3) := by decide +kernel
theorem d_El_swapLast_21 : decode b_El_swapLast 21 = .ok (.iload_n 1, 1) := by decide +kernel
theorem d_El_swapLast_22 : decode b_El_swapLast 22 = .ok (.iaload, 1) := by decide +kernel
theorem d_El_swapLast_23 : decode b_El_swapLast 23 = .ok (.istore_n 2, 1) := by decide +kernel
theorem d_El_swapLast_24 : decode b_El_swapLast 24 = .ok (.aload_n 0, 1) := by decide +kernel
theorem d_El_swapLast_25 : decode b_El_swapLast 25 = .ok (.getfield 13, 3) := by decide +kernel
theorem d_El_swapLast_28 : decode b_El_swapLast 28 = .ok (.iload_n 1, 1) := by decide +kernel
theorem d_El_swapLast_29 : decode b_El_swapLast 29 = .ok (.aload_n 0, 1) := by decide +kernel
theorem d_El_swapLast_30 : decode b_El_swapLast 30 = .ok (.getfield 13, 3) := by decide +kernel
theorem d_El_swapLast_33 : decode b_El_swapLast 33 = .ok (.iload_n 1, 1) := by decide +kernel
theorem d_El_swapLast_34 : decode b_El_swapLast 34 = .ok (.iconst 1, 1) := by decide +kernel
theorem d_El_swapLast_35 : decode b_El_swapLast 35 = .ok (.iadd, 1) := by decide +kernel
theorem d_El_swapLast_36 : decode b_El_swapLast 36 = .ok (.iaload, 1) := by decide +kernel
theorem d_El_swapLast_37 : decode b_El_swapLast 37 = .ok (.iastore, 1) := by decide +kernel
theorem d_El_swapLast_38 : decode b_El_swapLast 38 = .ok (.aload_n 0, 1) := by decide +kernel
theorem d_El_swapLast_39 : decode b_El_swapLast 39 = .ok (.getfield 13, 3) := by decide +kernel
theorem d_El_swapLast_42 : decode b_El_swapLast 42 = .ok (.iload_n 1, 1) := by decide +kernel
theorem d_El_swapLast_43 : decode b_El_swapLast 43 = .ok (.iconst 1, 1) := by decide +kernel
theorem d_El_swapLast_44 : decode b_El_swapLast 44 = .ok (.iadd, 1) := by decide +kernel
theorem d_El_swapLast_45 : decode b_El_swapLast 45 = .ok (.iload_n 2, 1) := by decide +kernel
theorem d_El_swapLast_46 : decode b_El_swapLast 46 = .ok (.iastore, 1) := by decide +kernel
theorem d_El_swapLast_47 : decode b_El_swapLast 47 = .ok (.aload_n 0, 1) := by decide +kernel
theorem d_El_swapLast_48 : decode b_El_swapLast 48 = .ok (.iload_n 1, 1) := by decide +kernel
theorem d_El_swapLast_49 : decode b_El_swapLast 49 = .ok (.invokevirtual 21, 3) := by decide +kernel
theorem d_El_swapLast_52 : decode b_El_swapLast 52 = .ok (.istore_n 3, 1) := by decide +kernel
theorem d_El_swapLast_53 : decode b_El_swapLast 53 = .ok (.iload_n 3, 1) := by decide +kernel
theorem d_El_swapLast_54 : decode b_El_swapLast 54 = .ok (.istore 4, 2) := by decide +kernel
theorem d_El_swapLast_56 : decode b_El_swapLast 56 = .ok (.iload 4, 2) := by decide +kernel
theorem d_El_swapLast_58 : decode b_El_swapLast 58 = .ok (.iload_n 3, 1) := by decide +kernel
theorem d_El_swapLast_59 : decode b_El_swapLast 59 = .ok (.bipush 80, 2) := by decide +kernel
theorem d_El_swapLast_61 : decode b_El_swapLast 61 = .ok (.iadd, 1) := by decide +kernel
theorem d_El_swapLast_62 : decode b_El_swapLast 62 = .ok (.if_icmp .ge 47, 3) := by decide +kernel
theorem d_El_swapLast_65 : decode b_El_swapLast 65 = .ok (.aload_n 0, 1) := by decide +kernel
theorem d_El_swapLast_66 : decode b_El_swapLast 66 = .ok (.getfield 9, 3) := by decide +kernel
theorem d_El_swapLast_69 : decode b_El_swapLast 69 = .ok (.iload 4, 2) := by decide +kernel
theorem d_El_swapLast_71 : decode b_El_swapLast 71 = .ok (.baload, 1) := by decide +kernel
theorem d_El_swapLast_72 : decode b_El_swapLast 72 = .ok (.istore 5, 2) := by decide +kernel
theorem d_El_swapLast_74 : decode b_El_swapLast 74 = .ok (.aload_n 0, 1) := by decide +kernel
theorem d_El_swapLast_75 : decode b_El_swapLast 75 = .ok (.getfield 9, 3) := by decide +kernel
theorem d_El_swapLast_78 : decode b_El_swapLast 78 = .ok (.iload 4, 2) := by decide +kernel
theorem d_El_swapLast_80 : decode b_El_swapLast 80 = .ok (.aload_n 0, 1) := by decide +kernel
theorem d_El_swapLast_81 : decode b_El_swapLast 81 = .ok (.getfield 9, 3) := by decide +kernel
theorem d_El_swapLast_84 : decode b_El_swapLast 84 = .ok (.iload 4, 2) := by decide +kernel
theorem d_El_swapLast_86 : decode b_El_swapLast 86 = .ok (.bipush 80, 2) := by decide +kernel
theorem d_El_swapLast_88 : decode b_El_swapLast 88 = .ok (.iadd, 1) := by decide +kernel
theorem d_El_swapLast_89 : decode b_El_swapLast 89 = .ok (.baload, 1) := by decide +kernel
theorem d_El_swapLast_90 : decode b_El_swapLast 90 = .ok (.bastore, 1) := by decide +kernel
theorem d_El_swapLast_91 : decode b_El_swapLast 91 = .ok (.aload_n 0, 1) := by decide +kernel
theorem d_El_swapLast_92 : decode b_El_swapLast 92 = .ok (.getfield 9, 3) := by decide +kernel
theorem d_El_swapLast_95 : decode b_El_swapLast 95 = .ok (.iload 4, 2) := by decide +kernel
theorem d_El_swapLast_97 : decode b_El_swapLast 97 = .ok (.bipush 80, 2) := by decide +kernel
theorem d_El_swapLast_99 : decode b_El_swapLast 99 = .ok (.iadd, 1) := by decide +kernel
theorem d_El_swapLast_100 : decode b_El_swapLast 100 = .ok (.iload 5, 2) := by decide +kernel
theorem d_El_swapLast_102 : decode b_El_swapLast 102 = .ok (.bastore, 1) := by decide +kernel
theorem d_El_swapLast_103 : decode b_El_swapLast 103 = .ok (.iinc 4 1, 3) := by decide +kernel
theorem d_El_swapLast_106 : decode b_El_swapLast 106 = .ok (.goto (-50), 3) := by decide +kernel
theorem d_El_swapLast_109 : decode b_El_swapLast 109 = .ok (.iconst 1, 1) := by decide +kernel
theorem d_El_swapLast_110 : decode b_El_swapLast 110 = .ok (.ireturn, 1) := by decide +kernel
theorem d_El_isTrue_0 : decode b_El_isTrue 0 = .ok (.aload_n 0, 1) := by decide +kernel
theorem d_El_isTrue_1 : decode b_El_isTrue 1 = .ok (.iload_n 1, 1) := by decide +kernel
theorem d_El_isTrue_2 : decode b_El_isTrue 2 = .ok (.invokevirtual 31, 3) := by decide +kernel
theorem d_El_isTrue_5 : decode b_El_isTrue 5 = .ok (.ifCond .ne 5, 3) := by decide +kernel
theorem d_El_isTrue_8 : decode b_El_isTrue 8 = .ok (.iconst 0, 1) := by decide +kernel
theorem d_El_isTrue_9 : decode b_El_isTrue 9 = .ok (.ireturn, 1) := by decide +kernel
theorem d_El_isTrue_10 : decode b_El_isTrue 10 = .ok (.aload_n 0, 1) := by decide +kernel
theorem d_El_isTrue_11 : decode b_El_isTrue 11 = .ok (.iload_n 1, 1) := by decide +kernel
theorem d_El_isTrue_12 : decode b_El_isTrue 12 = .ok (.invokevirtual 21, 3) := by decide +kernel
theorem d_El_isTrue_15 : decode b_El_isTrue 15 = .ok (.istore_n 2, 1) := by decide +kernel
theorem d_El_isTrue_16 : decode b_El_isTrue 16 = .ok (.iconst 0, 1) := by decide +kernel
theorem d_El_isTrue_17 : decode b_El_isTrue 17 = .ok (.istore_n 3, 1) := by decide +kernel
theorem d_El_isTrue_18 : decode b_El_isTrue 18 = .ok (.iload_n 3, 1) := by decide +kernel
theorem d_El_isTrue_19 : decode b_El_isTrue 19 = .ok (.aload_n 0, 1) := by decide +kernel
theorem d_El_isTrue_20 : decode b_El_isTrue 20 = .ok (.getfield 13, 3) := by decide +kernel
theorem d_El_isTrue_23 : decode b_El_isTrue 23 = .ok (.iload_n 1, 1) := by decide +kernel
theorem d_El_isTrue_24 : decode b_El_isTrue 24 = .ok (.iaload, 1) := by decide +kernel
theorem d_El_isTrue_25 : decode b_El_isTrue 25 = .ok (.if_icmp .ge 22, 3) := by decide +kernel
theorem d_El_isTrue_28 : decode b_El_isTrue 28 = .ok (.aload_n 0, 1) := by decide +kernel
theorem d_El_isTrue_29 : decode b_El_isTrue 29 = .ok (.getfield 9, 3) := by decide +kernel
theorem d_El_isTrue_32 : decode b_El_isTrue 32 = .ok (.iload_n 2, 1) := by decide +kernel
theorem d_El_isTrue_33 : decode b_El_isTrue 33 = .ok (.iload_n 3, 1) := by decide +kernel
theorem d_El_isTrue_34 : decode b_El_isTrue 34 = .ok (.iadd, 1) := by decide +kernel
theorem d_El_isTrue_35 : decode b_El_isTrue 35 = .ok (.baload, 1) := by decide +kernel
theorem d_El_isTrue_36 : decode b_El_isTrue 36 = .ok (.ifCond .eq 5, 3) := by decide +kernel
theorem d_El_isTrue_39 : decode b_El_isTrue 39 = .ok (.iconst 1, 1) := by decide +kernel
theorem d_El_isTrue_40 : decode b_El_isTrue 40 = .ok (.ireturn, 1) := by decide +kernel
theorem d_El_isTrue_41 : decode b_El_isTrue 41 = .ok (.iinc 3 1, 3) := by decide +kernel
theorem d_El_isTrue_44 : decode b_El_isTrue 44 = .ok (.goto (-26), 3) := by decide +kernel
theorem d_El_isTrue_47 : decode b_El_isTrue 47 = .ok (.iconst 0, 1) := by decide +kernel
theorem d_El_isTrue_48 : decode b_El_isTrue 48 = .ok (.ireturn, 1) := by decide +kernel
theorem d_El_isNumber_0 : decode b_El_isNumber 0 = .ok (.aload_n 0, 1) := by decide +kernel
theorem d_El_isNumber_1 : decode b_El_isNumber 1 = .ok (.iload_n 1, 1) := by decide +kernel
theorem d_El_isNumber_2 : decode b_El_isNumber 2 = .ok (.invokevirtual 31, 3) := by decide +kernel
theorem d_El_isNumber_5 : decode b_El_isNumber 5 = .ok (.ifCond .eq 17, 3) := by decide +kernel
theorem d_El_isNumber_8 : decode b_El_isNumber 8 = .ok (.aload_n 0, 1) := by decide +kernel
theorem d_El_isNumber_9 : decode b_El_isNumber 9 = .ok (.getfield 13, 3) := by decide +kernel
theorem d_El_isNumber_12 : decode b_El_isNumber 12 = .ok (.iload_n 1, 1) := by decide +kernel
theorem d_El_isNumber_13 : decode b_El_isNumber 13 = .ok (.iaload, 1) := by decide +kernel
theorem d_El_isNumber_14 : decode b_El_isNumber 14 = .ok (.iconst 4, 1) := by decide +kernel
theorem d_El_isNumber_15 : decode b_El_isNumber 15 = .ok (.if_icmp .gt 7, 3) := by decide +kernel
theorem d_El_isNumber_18 : decode b_El_isNumber 18 = .ok (.iconst 1, 1) := by decide +kernel
theorem d_El_isNumber_19 : decode b_El_isNumber 19 = .ok (.goto 4, 3) := by decide +kernel
theorem d_El_isNumber_22 : decode b_El_isNumber 22 = .ok (.iconst 0, 1) := by decide +kernel
theorem d_El_isNumber_23 : decode b_El_isNumber 23 = .ok (.ireturn, 1) := by decide +kernel
theorem d_El_number_0 : decode b_El_number 0 = .ok (.aload_n 0, 1) := by decide +kernel
theorem d_El_number_1 : decode b_El_number 1 = .ok (.iload_n 1, 1) := by decide +kernel
theorem d_El_number_2 : decode b_El_number 2 = .ok (.invokevirtual 49, 3) := by decide +kernel
theorem d_El_number_5 : decode b_El_number 5 = .ok (.ifCond .eq 12, 3) := by decide +kernel
theorem d_El_number_8 : decode b_El_number 8 = .ok (.aload_n 0, 1) := by decide +kernel
theorem d_El_number_9 : decode b_El_number 9 = .ok (.getfield 13, 3) := by decide +kernel
theorem d_El_number_12 : decode b_El_number 12 = .ok (.iload_n 1, 1) := by decide +kernel
theorem d_El_number_13 : decode b_El_number 13 = .ok (.iaload, 1) := by decide +kernel
theorem d_El_number_14 : decode b_El_number 14 = .ok (.ifCond .ne 5, 3) := by decide +kernel
theorem d_El_number_17 : decode b_El_number 17 = .ok (.iconst 0, 1) := by decide +kernel
theorem d_El_number_18 : decode b_El_number 18 = .ok (.ireturn, 1) := by decide +kernel
theorem d_El_number_19 : decode b_El_number 19 = .ok (.aload_n 0, 1) := by decide +kernel
theorem d_El_number_20 : decode b_El_number 20 = .ok (.iload_n 1, 1) := by decide +kernel
theorem d_El_number_21 : decode b_El_number 21 = .ok (.invokevirtual 21, 3) := by decide +kernel
theorem d_El_number_24 : decode b_El_number 24 = .ok (.istore_n 2, 1) := by decide +kernel
theorem d_El_number_25 : decode b_El_number 25 = .ok (.aload_n 0, 1) := by decide +kernel
theorem d_El_number_26 : decode b_El_number 26 = .ok (.getfield 9, 3) := by decide +kernel
theorem d_El_number_29 : decode b_El_number 29 = .ok (.iload_n 2, 1) := by decide +kernel
theorem d_El_number_30 : decode b_El_number 30 = .ok (.baload, 1) := by decide +kernel
theorem d_El_number_31 : decode b_El_number 31 = .ok (.istore_n 3, 1) := by decide +kernel
theorem d_El_number_32 : decode b_El_number 32 = .ok (.iconst 1, 1) := by decide +kernel
theorem d_El_number_33 : decode b_El_number 33 = .ok (.istore 4, 2) := by decide +kernel
theorem d_El_number_35 : decode b_El_number 35 = .ok (.iload 4, 2) := by decide +kernel
theorem d_El_number_37 : decode b_El_number 37 = .ok (.aload_n 0, 1) := by decide +kernel
theorem d_El_number_38 : decode b_El_number 38 = .ok (.getfield 13, 3) := by decide +kernel
theorem d_El_number_41 : decode b_El_number 41 = .ok (.iload_n 1, 1) := by decide +kernel
theorem d_El_number_42 : decode b_El_number 42 = .ok (.iaload, 1) := by decide +kernel
theorem d_El_number_43 : decode b_El_number 43 = .ok (.if_icmp .ge 28, 3) := by decide +kernel
theorem d_El_number_46 : decode b_El_number 46 = .ok (.iload_n 3, 1) := by decide +kernel
theorem d_El_number_47 : decode b_El_number 47 = .ok (.bipush 8, 2) := by decide +kernel
theorem d_El_number_49 : decode b_El_number 49 = .ok (.ishl, 1) := by decide +kernel
theorem d_El_number_50 : decode b_El_number 50 = .ok (.aload_n 0, 1) := by decide +kernel
theorem d_El_number_51 : decode b_El_number 51 = .ok (.getfield 9, 3) := by decide +kernel
theorem d_El_number_54 : decode b_El_number 54 = .ok (.iload_n 2, 1) := by decide +kernel
theorem d_El_number_55 : decode b_El_number 55 = .ok (.iload 4, 2) := by decide +kernel
theorem d_El_number_57 : decode b_El_number 57 = .ok (.iadd, 1) := by decide +kernel
theorem d_El_number_58 : decode b_El_number 58 = .ok (.baload, 1) := by decide +kernel
theorem d_El_number_59 : decode b_El_number 59 = .ok (.sipush 255, 3) := by decide +kernel
theorem d_El_number_62 : decode b_El_number 62 = .ok (.iand, 1) := by decide +kernel
theorem d_El_number_63 : decode b_El_number 63 = .ok (.ior, 1) := by decide +kernel
theorem d_El_number_64 : decode b_El_number 64 = .ok (.istore_n 3, 1) := by decide +kernel
theorem d_El_number_65 : decode b_El_number 65 = .ok (.iinc 4 1, 3) := by decide +kernel
theorem d_El_number_68 : decode b_El_number 68 = .ok (.goto (-33), 3) := by decide +kernel
theorem d_El_number_71 : decode b_El_number 71 = .ok (.iload_n 3, 1) := by decide +kernel
theorem d_El_number_72 : decode b_El_number 72 = .ok (.ireturn, 1) := by decide +kernel
theorem d_El_holds_0 : decode b_El_holds 0 = .ok (.aload_n 0, 1) := by decide +kernel
theorem d_El_holds_1 : decode b_El_holds 1 = .ok (.iload_n 1, 1) := by decide +kernel
theorem d_El_holds_2 : decode b_El_holds 2 = .ok (.invokevirtual 31, 3) := by decide +kernel
theorem d_El_holds_5 : decode b_El_holds 5 = .ok (.ifCond .eq 14, 3) := by decide +kernel
theorem d_El_holds_8 : decode b_El_holds 8 = .ok (.aload_n 0, 1) := by decide +kernel
theorem d_El_holds_9 : decode b_El_holds 9 = .ok (.getfield 13, 3) := by decide +kernel
theorem d_El_holds_12 : decode b_El_holds 12 = .ok (.iload_n 1, 1) := by decide +kernel
theorem d_El_holds_13 : decode b_El_holds 13 = .ok (.iaload, 1) := by decide +kernel
theorem d_El_holds_14 : decode b_El_holds 14 = .ok (.iload 4, 2) := by decide +kernel
theorem d_El_holds_16 : decode b_El_holds 16 = .ok (.if_icmp .eq 5, 3) := by decide +kernel
theorem d_El_holds_19 : decode b_El_holds 19 = .ok (.iconst 0, 1) := by decide +kernel
theorem d_El_holds_20 : decode b_El_holds 20 = .ok (.ireturn, 1) := by decide +kernel
theorem d_El_holds_21 : decode b_El_holds 21 = .ok (.aload_n 0, 1) := by decide +kernel
theorem d_El_holds_22 : decode b_El_holds 22 = .ok (.iload_n 1, 1) := by decide +kernel
theorem d_El_holds_23 : decode b_El_holds 23 = .ok (.invokevirtual 21, 3) := by decide +kernel
theorem d_El_holds_26 : decode b_El_holds 26 = .ok (.istore 5, 2) := by decide +kernel
theorem d_El_holds_28 : decode b_El_holds 28 = .ok (.iconst 0, 1) := by decide +kernel
theorem d_El_holds_29 : decode b_El_holds 29 = .ok (.istore 6, 2) := by decide +kernel
theorem d_El_holds_31 : decode b_El_holds 31 = .ok (.iload 6, 2) := by decide +kernel
theorem d_El_holds_33 : decode b_El_holds 33 = .ok (.iload 4, 2) := by decide +kernel
theorem d_El_holds_35 : decode b_El_holds 35 = .ok (.if_icmp .ge 30, 3) := by decide +kernel
theorem d_El_holds_38 : decode b_El_holds 38 = .ok (.aload_n 0, 1) := by decide +kernel
theorem d_El_holds_39 : decode b_El_holds 39 = .ok (.getfield 9, 3) := by decide +kernel
theorem d_El_holds_42 : decode b_El_holds 42 = .ok (.iload 5, 2) := by decide +kernel
theorem d_El_holds_44 : decode b_El_holds 44 = .ok (.iload 6, 2) := by decide +kernel
theorem d_El_holds_46 : decode b_El_holds 46 = .ok (.iadd, 1) := by decide +kernel
theorem d_El_holds_47 : decode b_El_holds 47 = .ok (.baload, 1) := by decide +kernel
theorem d_El_holds_48 : decode b_El_holds 48 = .ok (.aload_n 2, 1) := by decide +kernel
theorem d_El_holds_49 : decode b_El_holds 49 = .ok (.iload_n 3, 1) := by decide +kernel
theorem d_El_holds_50 : decode b_El_holds 50 = .ok (.iload 6, 2) := by decide +kernel
theorem d_El_holds_52 : decode b_El_holds 52 = .ok (.iadd, 1) := by decide +kernel
theorem d_El_holds_53 : decode b_El_holds 53 = .ok (.baload, 1) := by decide +kernel
theorem d_El_holds_54 : decode b_El_holds 54 = .ok (.if_icmp .eq 5, 3) := by decide +kernel
theorem d_El_holds_57 : decode b_El_holds 57 = .ok (.iconst 0, 1) := by decide +kernel
theorem d_El_holds_58 : decode b_El_holds 58 = .ok (.ireturn, 1) := by decide +kernel
theorem d_El_holds_59 : decode b_El_holds 59 = .ok (.iinc 6 1, 3) := by decide +kernel
theorem d_El_holds_62 : decode b_El_holds 62 = .ok (.goto (-31), 3) := by decide +kernel
theorem d_El_holds_65 : decode b_El_holds 65 = .ok (.iconst 1, 1) := by decide +kernel
theorem d_El_holds_66 : decode b_El_holds 66 = .ok (.ireturn, 1) := by decide +kernel
theorem d_Row_init_0 : decode b_Row_init 0 = .ok (.aload_n 0, 1) := by decide +kernel
theorem d_Row_init_1 : decode b_Row_init 1 = .ok (.invokespecial 1, 3) := by decide +kernel
theorem d_Row_init_4 : decode b_Row_init 4 = .ok (.aload_n 0, 1) := by decide +kernel
theorem d_Row_init_5 : decode b_Row_init 5 = .ok (.iload_n 1, 1) := by decide +kernel
theorem d_Row_init_6 : decode b_Row_init 6 = .ok (.newarray .byte, 2) := by decide +kernel
theorem d_Row_init_8 : decode b_Row_init 8 = .ok (.putfield 7, 3) := by decide +kernel
theorem d_Row_init_11 : decode b_Row_init 11 = .ok (.aload_n 0, 1) := by decide +kernel
theorem d_Row_init_12 : decode b_Row_init 12 = .ok (.iconst 0, 1) := by decide +kernel
theorem d_Row_init_13 : decode b_Row_init 13 = .ok (.putfield 13, 3) := by decide +kernel
theorem d_Row_init_16 : decode b_Row_init 16 = .ok (.return_, 1) := by decide +kernel
theorem d_Row_hasRoomFor_0 : decode b_Row_hasRoomFor 0 = .ok (.iload_n 1, 1) := by decide +kernel
theorem d_Row_hasRoomFor_1 : decode b_Row_hasRoomFor 1 = .ok (.aload_n 0, 1) := by decide +kernel
theorem d_Row_hasRoomFor_2 : decode b_Row_hasRoomFor 2 = .ok (.getfield 7, 3) := by decide +kernel
theorem d_Row_hasRoomFor_5 : decode b_Row_hasRoomFor 5 = .ok (.arraylength, 1) := by decide +kernel
theorem d_Row_hasRoomFor_6 : decode b_Row_hasRoomFor 6 = .ok (.aload_n 0, 1) := by decide +kernel
theorem d_Row_hasRoomFor_7 : decode b_Row_hasRoomFor 7 = .ok (.getfield 13, 3) := by decide +kernel
theorem d_Row_hasRoomFor_10 : decode b_Row_hasRoomFor 10 = .ok (.isub, 1) := by decide +kernel
theorem d_Row_hasRoomFor_11 : decode b_Row_hasRoomFor 11 = .ok (.if_icmp .gt 7, 3) := by decide +kernel
theorem d_Row_hasRoomFor_14 : decode b_Row_hasRoomFor 14 = .ok (.iconst 1, 1) := by decide +kernel
theorem d_Row_hasRoomFor_15 : decode b_Row_hasRoomFor 15 = .ok (.goto 4, 3) := by decide +kernel
theorem d_Row_hasRoomFor_18 : decode b_Row_hasRoomFor 18 = .ok (.iconst 0, 1) := by decide +kernel
theorem d_Row_hasRoomFor_19 : decode b_Row_hasRoomFor 19 = .ok (.ireturn, 1) := by decide +kernel
theorem d_Row_addByte_0 : decode b_Row_addByte 0 = .ok (.aload_n 0, 1) := by decide +kernel
theorem d_Row_addByte_1 : decode b_Row_addByte 1 = .ok (.getfield 13, 3) := by decide +kernel
theorem d_Row_addByte_4 : decode b_Row_addByte 4 = .ok (.aload_n 0, 1) := by decide +kernel
theorem d_Row_addByte_5 : decode b_Row_addByte 5 = .ok (.getfield 7, 3) := by decide +kernel
theorem d_Row_addByte_8 : decode b_Row_addByte 8 = .ok (.arraylength, 1) := by decide +kernel
theorem d_Row_addByte_9 : decode b_Row_addByte 9 = .ok (.if_icmp .ge 24, 3) := by decide +kernel
theorem d_Row_addByte_12 : decode b_Row_addByte 12 = .ok (.aload_n 0, 1) := by decide +kernel
theorem d_Row_addByte_13 : decode b_Row_addByte 13 = .ok (.getfield 7, 3) := by decide +kernel
theorem d_Row_addByte_16 : decode b_Row_addByte 16 = .ok (.aload_n 0, 1) := by decide +kernel
theorem d_Row_addByte_17 : decode b_Row_addByte 17 = .ok (.getfield 13, 3) := by decide +kernel
theorem d_Row_addByte_20 : decode b_Row_addByte 20 = .ok (.iload_n 1, 1) := by decide +kernel
theorem d_Row_addByte_21 : decode b_Row_addByte 21 = .ok (.i2b, 1) := by decide +kernel
theorem d_Row_addByte_22 : decode b_Row_addByte 22 = .ok (.bastore, 1) := by decide +kernel
theorem d_Row_addByte_23 : decode b_Row_addByte 23 = .ok (.aload_n 0, 1) := by decide +kernel
theorem d_Row_addByte_24 : decode b_Row_addByte 24 = .ok (.dup, 1) := by decide +kernel
theorem d_Row_addByte_25 : decode b_Row_addByte 25 = .ok (.getfield 13, 3) := by decide +kernel
theorem d_Row_addByte_28 : decode b_Row_addByte 28 = .ok (.iconst 1, 1) := by decide +kernel
theorem d_Row_addByte_29 : decode b_Row_addByte 29 = .ok (.iadd, 1) := by decide +kernel
theorem d_Row_addByte_30 : decode b_Row_addByte 30 = .ok (.putfield 13, 3) := by decide +kernel
theorem d_Row_addByte_33 : decode b_Row_addByte 33 = .ok (.return_, 1) := by decide +kernel
theorem d_Row_addWord_0 : decode b_Row_addWord 0 = .ok (.aload_n 0, 1) := by decide +kernel
theorem d_Row_addWord_1 : decode b_Row_addWord 1 = .ok (.iload_n 1, 1) := by decide +kernel
theorem d_Row_addWord_2 : decode b_Row_addWord 2 = .ok (.bipush 24, 2) := by decide +kernel
theorem d_Row_addWord_4 : decode b_Row_addWord 4 = .ok (.iushr, 1) := by decide +kernel
theorem d_Row_addWord_5 : decode b_Row_addWord 5 = .ok (.invokevirtual 17, 3) := by decide +kernel
theorem d_Row_addWord_8 : decode b_Row_addWord 8 = .ok (.aload_n 0, 1) := by decide +kernel
theorem d_Row_addWord_9 : decode b_Row_addWord 9 = .ok (.iload_n 1, 1) := by decide +kernel
theorem d_Row_addWord_10 : decode b_Row_addWord 10 = .ok (.bipush 16, 2) := by decide +kernel
theorem d_Row_addWord_12 : decode b_Row_addWord 12 = .ok (.iushr, 1) := by decide +kernel
theorem d_Row_addWord_13 : decode b_Row_addWord 13 = .ok (.invokevirtual 17, 3) := by decide +kernel
theorem d_Row_addWord_16 : decode b_Row_addWord 16 = .ok (.aload_n 0, 1) := by decide +kernel
theorem d_Row_addWord_17 : decode b_Row_addWord 17 = .ok (.iload_n 1, 1) := by decide +kernel
theorem d_Row_addWord_18 : decode b_Row_addWord 18 = .ok (.bipush 8, 2) := by decide +kernel
theorem d_Row_addWord_20 : decode b_Row_addWord 20 = .ok (.iushr, 1) := by decide +kernel
theorem d_Row_addWord_21 : decode b_Row_addWord 21 = .ok (.invokevirtual 17, 3) := by decide +kernel
theorem d_Row_addWord_24 : decode b_Row_addWord 24 = .ok (.aload_n 0, 1) := by decide +kernel
theorem d_Row_addWord_25 : decode b_Row_addWord 25 = .ok (.iload_n 1, 1) := by decide +kernel
theorem d_Row_addWord_26 : decode b_Row_addWord 26 = .ok (.invokevirtual 17, 3) := by decide +kernel
theorem d_Row_addWord_29 : decode b_Row_addWord 29 = .ok (.return_, 1) := by decide +kernel
theorem d_Row_become_0 : decode b_Row_become 0 = .ok (.aload_n 0, 1) := by decide +kernel
theorem d_Row_become_1 : decode b_Row_become 1 = .ok (.iload_n 2, 1) := by decide +kernel
theorem d_Row_become_2 : decode b_Row_become 2 = .ok (.aload_n 0, 1) := by decide +kernel
theorem d_Row_become_3 : decode b_Row_become 3 = .ok (.getfield 7, 3) := by decide +kernel
theorem d_Row_become_6 : decode b_Row_become 6 = .ok (.arraylength, 1) := by decide +kernel
theorem d_Row_become_7 : decode b_Row_become 7 = .ok (.invokestatic 21, 3) := by decide +kernel
theorem d_Row_become_10 : decode b_Row_become 10 = .ok (.putfield 13, 3) := by decide +kernel
theorem d_Row_become_13 : decode b_Row_become 13 = .ok (.aload_n 1, 1) := by decide +kernel
theorem d_Row_become_14 : decode b_Row_become 14 = .ok (.iconst 0, 1) := by decide +kernel
theorem d_Row_become_15 : decode b_Row_become 15 = .ok (.aload_n 0, 1) := by decide +kernel
theorem d_Row_become_16 : decode b_Row_become 16 = .ok (.getfield 7, 3) := by decide +kernel
theorem d_Row_become_19 : decode b_Row_become 19 = .ok (.iconst 0, 1) := by decide +kernel
theorem d_Row_become_20 : decode b_Row_become 20 = .ok (.aload_n 0, 1) := by decide +kernel
theorem d_Row_become_21 : decode b_Row_become 21 = .ok (.getfield 13, 3) := by decide +kernel
theorem d_Row_become_24 : decode b_Row_become 24 = .ok (.invokestatic 27, 3) := by decide +kernel
theorem d_Row_become_27 : decode b_Row_become 27 = .ok (.return_, 1) := by decide +kernel
