theorem d_SS_init_0 : decode b_SS_init 0 = .ok (.aload_n 0, 1) := by decide +kernel
theorem d_SS_init_1 : decode b_SS_init 1 = .ok (.invokespecial 1, 3) := by decide +kernel
theorem d_SS_init_4 : decode b_SS_init 4 = .ok (.aload_n 0, 1) := by decide +kernel
theorem d_SS_init_5 : decode b_SS_init 5 = .ok (.new 7, 3) := by decide +kernel
theorem d_SS_init_8 : decode b_SS_init 8 = .ok (.dup, 1) := by decide +kernel
theorem d_SS_init_9 : decode b_SS_init 9 = .ok (.sipush 400, 3) := by decide +kernel
theorem d_SS_init_12 : decode b_SS_init 12 = .ok (.invokespecial 11, 3) := by decide +kernel
theorem d_SS_init_15 : decode b_SS_init 15 = .ok (.putfield 14, 3) := by decide +kernel
theorem d_SS_init_18 : decode b_SS_init 18 = .ok (.aload_n 0, 1) := by decide +kernel
theorem d_SS_init_19 : decode b_SS_init 19 = .ok (.new 7, 3) := by decide +kernel
theorem d_SS_init_22 : decode b_SS_init 22 = .ok (.dup, 1) := by decide +kernel
theorem d_SS_init_23 : decode b_SS_init 23 = .ok (.bipush 32, 2) := by decide +kernel
theorem d_SS_init_25 : decode b_SS_init 25 = .ok (.invokespecial 11, 3) := by decide +kernel
theorem d_SS_init_28 : decode b_SS_init 28 = .ok (.putfield 18, 3) := by decide +kernel
theorem d_SS_init_31 : decode b_SS_init 31 = .ok (.aload_n 0, 1) := by decide +kernel
theorem d_SS_init_32 : decode b_SS_init 32 = .ok (.new 7, 3) := by decide +kernel
theorem d_SS_init_35 : decode b_SS_init 35 = .ok (.dup, 1) := by decide +kernel
theorem d_SS_init_36 : decode b_SS_init 36 = .ok (.bipush 80, 2) := by decide +kernel
theorem d_SS_init_38 : decode b_SS_init 38 = .ok (.invokespecial 11, 3) := by decide +kernel
theorem d_SS_init_41 : decode b_SS_init 41 = .ok (.putfield 21, 3) := by decide +kernel
theorem d_SS_init_44 : decode b_SS_init 44 = .ok (.aload_n 0, 1) := by decide +kernel
theorem d_SS_init_45 : decode b_SS_init 45 = .ok (.new 7, 3) := by decide +kernel
theorem d_SS_init_48 : decode b_SS_init 48 = .ok (.dup, 1) := by decide +kernel
theorem d_SS_init_49 : decode b_SS_init 49 = .ok (.bipush 80, 2) := by decide +kernel
theorem d_SS_init_51 : decode b_SS_init 51 = .ok (.invokespecial 11, 3) := by decide +kernel
theorem d_SS_init_54 : decode b_SS_init 54 = .ok (.putfield 24, 3) := by decide +kernel
theorem d_SS_init_57 : decode b_SS_init 57 = .ok (.aload_n 0, 1) := by decide +kernel
theorem d_SS_init_58 : decode b_SS_init 58 = .ok (.new 27, 3) := by decide +kernel
theorem d_SS_init_61 : decode b_SS_init 61 = .ok (.dup, 1) := by decide +kernel
theorem d_SS_init_62 : decode b_SS_init 62 = .ok (.invokespecial 29, 3) := by decide +kernel
theorem d_SS_init_65 : decode b_SS_init 65 = .ok (.putfield 30, 3) := by decide +kernel
theorem d_SS_init_68 : decode b_SS_init 68 = .ok (.aload_n 0, 1) := by decide +kernel
theorem d_SS_init_69 : decode b_SS_init 69 = .ok (.aload_n 0, 1) := by decide +kernel
theorem d_SS_init_70 : decode b_SS_init 70 = .ok (.getfield 30, 3) := by decide +kernel
theorem d_SS_init_73 : decode b_SS_init 73 = .ok (.getfield 34, 3) := by decide +kernel
theorem d_SS_init_76 : decode b_SS_init 76 = .ok (.putfield 38, 3) := by decide +kernel
theorem d_SS_init_79 : decode b_SS_init 79 = .ok (.aload_n 0, 1) := by decide +kernel
theorem d_SS_init_80 : decode b_SS_init 80 = .ok (.aload_n 0, 1) := by decide +kernel
theorem d_SS_init_81 : decode b_SS_init 81 = .ok (.getfield 30, 3) := by decide +kernel
theorem d_SS_init_84 : decode b_SS_init 84 = .ok (.getfield 39, 3) := by decide +kernel
theorem d_SS_init_87 : decode b_SS_init 87 = .ok (.putfield 43, 3) := by decide +kernel
theorem d_SS_init_90 : decode b_SS_init 90 = .ok (.aload_n 0, 1) := by decide +kernel
theorem d_SS_init_91 : decode b_SS_init 91 = .ok (.aload_n 0, 1) := by decide +kernel
theorem d_SS_init_92 : decode b_SS_init 92 = .ok (.getfield 43, 3) := by decide +kernel
theorem d_SS_init_95 : decode b_SS_init 95 = .ok (.getfield 44, 3) := by decide +kernel
theorem d_SS_init_98 : decode b_SS_init 98 = .ok (.putfield 50, 3) := by decide +kernel
theorem d_SS_init_101 : decode b_SS_init 101 = .ok (.aload_n 0, 1) := by decide +kernel
theorem d_SS_init_102 : decode b_SS_init 102 = .ok (.iconst 0, 1) := by decide +kernel
theorem d_SS_init_103 : decode b_SS_init 103 = .ok (.putfield 51, 3) := by decide +kernel
theorem d_SS_init_106 : decode b_SS_init 106 = .ok (.return_, 1) := by decide +kernel
theorem d_SS_feed_0 : decode b_SS_feed 0 = .ok (.aload_n 0, 1) := by decide +kernel
theorem d_SS_feed_1 : decode b_SS_feed 1 = .ok (.getfield 14, 3) := by decide +kernel
theorem d_SS_feed_4 : decode b_SS_feed 4 = .ok (.bipush 20, 2) := by decide +kernel
theorem d_SS_feed_6 : decode b_SS_feed 6 = .ok (.invokevirtual 55, 3) := by decide +kernel
theorem d_SS_feed_9 : decode b_SS_feed 9 = .ok (.ifCond .ne 6, 3) := by decide +kernel
theorem d_SS_feed_12 : decode b_SS_feed 12 = .ok (.bipush (-3), 2) := by decide +kernel
theorem d_SS_feed_14 : decode b_SS_feed 14 = .ok (.ireturn, 1) := by decide +kernel
theorem d_SS_feed_15 : decode b_SS_feed 15 = .ok (.aload_n 0, 1) := by decide +kernel
theorem d_SS_feed_16 : decode b_SS_feed 16 = .ok (.getfield 14, 3) := by decide +kernel
theorem d_SS_feed_19 : decode b_SS_feed 19 = .ok (.iload_n 1, 1) := by decide +kernel
theorem d_SS_feed_20 : decode b_SS_feed 20 = .ok (.invokevirtual 59, 3) := by decide +kernel
theorem d_SS_feed_23 : decode b_SS_feed 23 = .ok (.aload_n 0, 1) := by decide +kernel
theorem d_SS_feed_24 : decode b_SS_feed 24 = .ok (.getfield 14, 3) := by decide +kernel
theorem d_SS_feed_27 : decode b_SS_feed 27 = .ok (.iload_n 2, 1) := by decide +kernel
theorem d_SS_feed_28 : decode b_SS_feed 28 = .ok (.invokevirtual 59, 3) := by decide +kernel
theorem d_SS_feed_31 : decode b_SS_feed 31 = .ok (.aload_n 0, 1) := by decide +kernel
theorem d_SS_feed_32 : decode b_SS_feed 32 = .ok (.getfield 14, 3) := by decide +kernel
theorem d_SS_feed_35 : decode b_SS_feed 35 = .ok (.iload_n 3, 1) := by decide +kernel
theorem d_SS_feed_36 : decode b_SS_feed 36 = .ok (.invokevirtual 59, 3) := by decide +kernel
theorem d_SS_feed_39 : decode b_SS_feed 39 = .ok (.aload_n 0, 1) := by decide +kernel
theorem d_SS_feed_40 : decode b_SS_feed 40 = .ok (.getfield 14, 3) := by decide +kernel
theorem d_SS_feed_43 : decode b_SS_feed 43 = .ok (.iload 4, 2) := by decide +kernel
theorem d_SS_feed_45 : decode b_SS_feed 45 = .ok (.invokevirtual 59, 3) := by decide +kernel
theorem d_SS_feed_48 : decode b_SS_feed 48 = .ok (.aload_n 0, 1) := by decide +kernel
theorem d_SS_feed_49 : decode b_SS_feed 49 = .ok (.getfield 14, 3) := by decide +kernel
theorem d_SS_feed_52 : decode b_SS_feed 52 = .ok (.iload 5, 2) := by decide +kernel
theorem d_SS_feed_54 : decode b_SS_feed 54 = .ok (.invokevirtual 59, 3) := by decide +kernel
theorem d_SS_feed_57 : decode b_SS_feed 57 = .ok (.aload_n 0, 1) := by decide +kernel
theorem d_SS_feed_58 : decode b_SS_feed 58 = .ok (.getfield 14, 3) := by decide +kernel
theorem d_SS_feed_61 : decode b_SS_feed 61 = .ok (.getfield 62, 3) := by decide +kernel
theorem d_SS_feed_64 : decode b_SS_feed 64 = .ok (.ireturn, 1) := by decide +kernel
theorem d_SS_end_0 : decode b_SS_end 0 = .ok (.iload_n 1, 1) := by decide +kernel
theorem d_SS_end_1 : decode b_SS_end 1 = .ok (.ifCond .lt 14, 3) := by decide +kernel
theorem d_SS_end_4 : decode b_SS_end 4 = .ok (.iload_n 1, 1) := by decide +kernel
theorem d_SS_end_5 : decode b_SS_end 5 = .ok (.aload_n 0, 1) := by decide +kernel
theorem d_SS_end_6 : decode b_SS_end 6 = .ok (.getfield 14, 3) := by decide +kernel
theorem d_SS_end_9 : decode b_SS_end 9 = .ok (.getfield 62, 3) := by decide +kernel
theorem d_SS_end_12 : decode b_SS_end 12 = .ok (.if_icmp .le 5, 3) := by decide +kernel
theorem d_SS_end_15 : decode b_SS_end 15 = .ok (.iconst (-1), 1) := by decide +kernel
theorem d_SS_end_16 : decode b_SS_end 16 = .ok (.ireturn, 1) := by decide +kernel
theorem d_SS_end_17 : decode b_SS_end 17 = .ok (.aload_n 0, 1) := by decide +kernel
theorem d_SS_end_18 : decode b_SS_end 18 = .ok (.getfield 14, 3) := by decide +kernel
theorem d_SS_end_21 : decode b_SS_end 21 = .ok (.iload_n 1, 1) := by decide +kernel
theorem d_SS_end_22 : decode b_SS_end 22 = .ok (.putfield 62, 3) := by decide +kernel
theorem d_SS_end_25 : decode b_SS_end 25 = .ok (.iload_n 1, 1) := by decide +kernel
theorem d_SS_end_26 : decode b_SS_end 26 = .ok (.ireturn, 1) := by decide +kernel
theorem d_SS_script_0 : decode b_SS_script 0 = .ok (.iload_n 1, 1) := by decide +kernel
theorem d_SS_script_1 : decode b_SS_script 1 = .ok (.ifCond .lt 20, 3) := by decide +kernel
theorem d_SS_script_4 : decode b_SS_script 4 = .ok (.iload_n 1, 1) := by decide +kernel
theorem d_SS_script_5 : decode b_SS_script 5 = .ok (.iconst 1, 1) := by decide +kernel
theorem d_SS_script_6 : decode b_SS_script 6 = .ok (.if_icmp .gt 15, 3) := by decide +kernel
theorem d_SS_script_9 : decode b_SS_script 9 = .ok (.aload_n 0, 1) := by decide +kernel
theorem d_SS_script_10 : decode b_SS_script 10 = .ok (.getfield 14, 3) := by decide +kernel
theorem d_SS_script_13 : decode b_SS_script 13 = .ok (.getfield 62, 3) := by decide +kernel
theorem d_SS_script_16 : decode b_SS_script 16 = .ok (.bipush 80, 2) := by decide +kernel
theorem d_SS_script_18 : decode b_SS_script 18 = .ok (.if_icmp .le 5, 3) := by decide +kernel
theorem d_SS_script_21 : decode b_SS_script 21 = .ok (.iconst (-1), 1) := by decide +kernel
theorem d_SS_script_22 : decode b_SS_script 22 = .ok (.ireturn, 1) := by decide +kernel
theorem d_SS_script_23 : decode b_SS_script 23 = .ok (.iload_n 1, 1) := by decide +kernel
theorem d_SS_script_24 : decode b_SS_script 24 = .ok (.ifCond .ne 10, 3) := by decide +kernel
theorem d_SS_script_27 : decode b_SS_script 27 = .ok (.aload_n 0, 1) := by decide +kernel
theorem d_SS_script_28 : decode b_SS_script 28 = .ok (.getfield 21, 3) := by decide +kernel
theorem d_SS_script_31 : decode b_SS_script 31 = .ok (.goto 7, 3) := by decide +kernel
theorem d_SS_script_34 : decode b_SS_script 34 = .ok (.aload_n 0, 1) := by decide +kernel
theorem d_SS_script_35 : decode b_SS_script 35 = .ok (.getfield 24, 3) := by decide +kernel
theorem d_SS_script_38 : decode b_SS_script 38 = .ok (.astore_n 2, 1) := by decide +kernel
theorem d_SS_script_39 : decode b_SS_script 39 = .ok (.aload_n 2, 1) := by decide +kernel
theorem d_SS_script_40 : decode b_SS_script 40 = .ok (.aload_n 0, 1) := by decide +kernel
theorem d_SS_script_41 : decode b_SS_script 41 = .ok (.getfield 14, 3) := by decide +kernel
theorem d_SS_script_44 : decode b_SS_script 44 = .ok (.getfield 66, 3) := by decide +kernel
theorem d_SS_script_47 : decode b_SS_script 47 = .ok (.aload_n 0, 1) := by decide +kernel
theorem d_SS_script_48 : decode b_SS_script 48 = .ok (.getfield 14, 3) := by decide +kernel
theorem d_SS_script_51 : decode b_SS_script 51 = .ok (.getfield 62, 3) := by decide +kernel
theorem d_SS_script_54 : decode b_SS_script 54 = .ok (.invokevirtual 70, 3) := by decide +kernel
theorem d_SS_script_57 : decode b_SS_script 57 = .ok (.aload_n 0, 1) := by decide +kernel
theorem d_SS_script_58 : decode b_SS_script 58 = .ok (.getfield 14, 3) := by decide +kernel
theorem d_SS_script_61 : decode b_SS_script 61 = .ok (.iconst 0, 1) := by decide +kernel
theorem d_SS_script_62 : decode b_SS_script 62 = .ok (.putfield 62, 3) := by decide +kernel
theorem d_SS_script_65 : decode b_SS_script 65 = .ok (.aload_n 2, 1) := by decide +kernel
theorem d_SS_script_66 : decode b_SS_script 66 = .ok (.getfield 62, 3) := by decide +kernel
theorem d_SS_script_69 : decode b_SS_script 69 = .ok (.ireturn, 1) := by decide +kernel
theorem d_SS_message_0 : decode b_SS_message 0 = .ok (.aload_n 0, 1) := by decide +kernel
theorem d_SS_message_1 : decode b_SS_message 1 = .ok (.getfield 14, 3) := by decide +kernel
theorem d_SS_message_4 : decode b_SS_message 4 = .ok (.getfield 62, 3) := by decide +kernel
theorem d_SS_message_7 : decode b_SS_message 7 = .ok (.istore_n 1, 1) := by decide +kernel
theorem d_SS_message_8 : decode b_SS_message 8 = .ok (.aload_n 0, 1) := by decide +kernel
theorem d_SS_message_9 : decode b_SS_message 9 = .ok (.getfield 50, 3) := by decide +kernel
theorem d_SS_message_12 : decode b_SS_message 12 = .ok (.aload_n 0, 1) := by decide +kernel
theorem d_SS_message_13 : decode b_SS_message 13 = .ok (.getfield 14, 3) := by decide +kernel
theorem d_SS_message_16 : decode b_SS_message 16 = .ok (.getfield 66, 3) := by decide +kernel
theorem d_SS_message_19 : decode b_SS_message 19 = .ok (.iconst 0, 1) := by decide +kernel
theorem d_SS_message_20 : decode b_SS_message 20 = .ok (.iload_n 1, 1) := by decide +kernel
theorem d_SS_message_21 : decode b_SS_message 21 = .ok (.aload_n 0, 1) := by decide +kernel
theorem d_SS_message_22 : decode b_SS_message 22 = .ok (.getfield 43, 3) := by decide +kernel
theorem d_SS_message_25 : decode b_SS_message 25 = .ok (.getfield 74, 3) := by decide +kernel
theorem d_SS_message_28 : decode b_SS_message 28 = .ok (.iconst 0, 1) := by decide +kernel
theorem d_SS_message_29 : decode b_SS_message 29 = .ok (.invokevirtual 77, 3) := by decide +kernel
theorem d_SS_message_32 : decode b_SS_message 32 = .ok (.aload_n 0, 1) := by decide +kernel
theorem d_SS_message_33 : decode b_SS_message 33 = .ok (.getfield 14, 3) := by decide +kernel
theorem d_SS_message_36 : decode b_SS_message 36 = .ok (.iconst 0, 1) := by decide +kernel
theorem d_SS_message_37 : decode b_SS_message 37 = .ok (.putfield 62, 3) := by decide +kernel
theorem d_SS_message_40 : decode b_SS_message 40 = .ok (.iload_n 1, 1) := by decide +kernel
theorem d_SS_message_41 : decode b_SS_message 41 = .ok (.ireturn, 1) := by decide +kernel
theorem d_SS_run_0 : decode b_SS_run 0 = .ok (.aload_n 0, 1) := by decide +kernel
theorem d_SS_run_1 : decode b_SS_run 1 = .ok (.getfield 38, 3) := by decide +kernel
theorem d_SS_run_4 : decode b_SS_run 4 = .ok (.iconst 0, 1) := by decide +kernel
theorem d_SS_run_5 : decode b_SS_run 5 = .ok (.putfield 83, 3) := by decide +kernel
theorem d_SS_run_8 : decode b_SS_run 8 = .ok (.aload_n 0, 1) := by decide +kernel
theorem d_SS_run_9 : decode b_SS_run 9 = .ok (.aload_n 0, 1) := by decide +kernel
theorem d_SS_run_10 : decode b_SS_run 10 = .ok (.getfield 30, 3) := by decide +kernel
theorem d_SS_run_13 : decode b_SS_run 13 = .ok (.aload_n 0, 1) := by decide +kernel
theorem d_SS_run_14 : decode b_SS_run 14 = .ok (.getfield 21, 3) := by decide +kernel
theorem d_SS_run_17 : decode b_SS_run 17 = .ok (.iload_n 1, 1) := by decide +kernel
theorem d_SS_run_18 : decode b_SS_run 18 = .ok (.invokevirtual 88, 3) := by decide +kernel
theorem d_SS_run_21 : decode b_SS_run 21 = .ok (.ifCond .eq 22, 3) := by decide +kernel
theorem d_SS_run_24 : decode b_SS_run 24 = .ok (.aload_n 0, 1) := by decide +kernel
theorem d_SS_run_25 : decode b_SS_run 25 = .ok (.getfield 30, 3) := by decide +kernel
theorem d_SS_run_28 : decode b_SS_run 28 = .ok (.aload_n 0, 1) := by decide +kernel
theorem d_SS_run_29 : decode b_SS_run 29 = .ok (.getfield 24, 3) := by decide +kernel
theorem d_SS_run_32 : decode b_SS_run 32 = .ok (.iload_n 1, 1) := by decide +kernel
theorem d_SS_run_33 : decode b_SS_run 33 = .ok (.invokevirtual 88, 3) := by decide +kernel
theorem d_SS_run_36 : decode b_SS_run 36 = .ok (.ifCond .eq 7, 3) := by decide +kernel
theorem d_SS_run_39 : decode b_SS_run 39 = .ok (.iconst 1, 1) := by decide +kernel
theorem d_SS_run_40 : decode b_SS_run 40 = .ok (.goto 4, 3) := by decide +kernel
theorem d_SS_run_43 : decode b_SS_run 43 = .ok (.iconst 0, 1) := by decide +kernel
theorem d_SS_run_44 : decode b_SS_run 44 = .ok (.putfield 51, 3) := by decide +kernel
theorem d_SS_run_47 : decode b_SS_run 47 = .ok (.aload_n 0, 1) := by decide +kernel
theorem d_SS_run_48 : decode b_SS_run 48 = .ok (.getfield 51, 3) := by decide +kernel
theorem d_SS_run_51 : decode b_SS_run 51 = .ok (.ifCond .eq 26, 3) := by decide +kernel
theorem d_SS_run_54 : decode b_SS_run 54 = .ok (.aload_n 0, 1) := by decide +kernel
theorem d_SS_run_55 : decode b_SS_run 55 = .ok (.getfield 38, 3) := by decide +kernel
theorem d_SS_run_58 : decode b_SS_run 58 = .ok (.aload_n 0, 1) := by decide +kernel
theorem d_SS_run_59 : decode b_SS_run 59 = .ok (.getfield 38, 3) := by decide +kernel
theorem d_SS_run_62 : decode b_SS_run 62 = .ok (.getfield 83, 3) := by decide +kernel
theorem d_SS_run_65 : decode b_SS_run 65 = .ok (.iconst 1, 1) := by decide +kernel
theorem d_SS_run_66 : decode b_SS_run 66 = .ok (.isub, 1) := by decide +kernel
theorem d_SS_run_67 : decode b_SS_run 67 = .ok (.invokevirtual 92, 3) := by decide +kernel
theorem d_SS_run_70 : decode b_SS_run 70 = .ok (.ifCond .eq 7, 3) := by decide +kernel
theorem d_SS_run_73 : decode b_SS_run 73 = .ok (.iconst 1, 1) := by decide +kernel
theorem d_SS_run_74 : decode b_SS_run 74 = .ok (.goto 4, 3) := by decide +kernel
theorem d_SS_run_77 : decode b_SS_run 77 = .ok (.iconst 0, 1) := by decide +kernel
theorem d_SS_run_78 : decode b_SS_run 78 = .ok (.ireturn, 1) := by decide +kernel
theorem d_SS_depth_0 : decode b_SS_depth 0 = .ok (.aload_n 0, 1) := by decide +kernel
theorem d_SS_depth_1 : decode b_SS_depth 1 = .ok (.getfield 51, 3) := by decide +kernel
theorem d_SS_depth_4 : decode b_SS_depth 4 = .ok (.ifCond .eq 13, 3) := by decide +kernel
theorem d_SS_depth_7 : decode b_SS_depth 7 = .ok (.aload_n 0, 1) := by decide +kernel
theorem d_SS_depth_8 : decode b_SS_depth 8 = .ok (.getfield 38, 3) := by decide +kernel
theorem d_SS_depth_11 : decode b_SS_depth 11 = .ok (.getfield 83, 3) := by decide +kernel
theorem d_SS_depth_14 : decode b_SS_depth 14 = .ok (.goto 5, 3) := by decide +kernel
theorem d_SS_depth_17 : decode b_SS_depth 17 = .ok (.bipush (-2), 2) := by decide +kernel
theorem d_SS_depth_19 : decode b_SS_depth 19 = .ok (.ireturn, 1) := by decide +kernel
theorem d_SS_element_0 : decode b_SS_element 0 = .ok (.aload_n 0, 1) := by decide +kernel
theorem d_SS_element_1 : decode b_SS_element 1 = .ok (.getfield 51, 3) := by decide +kernel
theorem d_SS_element_4 : decode b_SS_element 4 = .ok (.ifCond .eq 14, 3) := by decide +kernel
theorem d_SS_element_7 : decode b_SS_element 7 = .ok (.aload_n 0, 1) := by decide +kernel
theorem d_SS_element_8 : decode b_SS_element 8 = .ok (.getfield 38, 3) := by decide +kernel
theorem d_SS_element_11 : decode b_SS_element 11 = .ok (.iload_n 1, 1) := by decide +kernel
theorem d_SS_element_12 : decode b_SS_element 12 = .ok (.invokevirtual 95, 3) := by decide +kernel
theorem d_SS_element_15 : decode b_SS_element 15 = .ok (.ifCond .ne 6, 3) := by decide +kernel
theorem d_SS_element_18 : decode b_SS_element 18 = .ok (.bipush (-2), 2) := by decide +kernel
theorem d_SS_element_20 : decode b_SS_element 20 = .ok (.ireturn, 1) := by decide +kernel
theorem d_SS_element_21 : decode b_SS_element 21 = .ok (.iload_n 2, 1) := by decide +kernel
theorem d_SS_element_22 : decode b_SS_element 22 = .ok (.iconst (-1), 1) := by decide +kernel
theorem d_SS_element_23 : decode b_SS_element 23 = .ok (.if_icmp .ne 13, 3) := by decide +kernel
theorem d_SS_element_26 : decode b_SS_element 26 = .ok (.aload_n 0, 1) := by decide +kernel
theorem d_SS_element_27 : decode b_SS_element 27 = .ok (.getfield 38, 3) := by decide +kernel
theorem d_SS_element_30 : decode b_SS_element 30 = .ok (.getfield 98, 3) := by decide +kernel
theorem d_SS_element_33 : decode b_SS_element 33 = .ok (.iload_n 1, 1) := by decide +kernel
theorem d_SS_element_34 : decode b_SS_element 34 = .ok (.iaload, 1) := by decide +kernel
theorem d_SS_element_35 : decode b_SS_element 35 = .ok (.ireturn, 1) := by decide +kernel
theorem d_SS_element_36 : decode b_SS_element 36 = .ok (.iload_n 2, 1) := by decide +kernel
theorem d_SS_element_37 : decode b_SS_element 37 = .ok (.ifCond .lt 16, 3) := by decide +kernel
theorem d_SS_element_40 : decode b_SS_element 40 = .ok (.iload_n 2, 1) := by decide +kernel
theorem d_SS_element_41 : decode b_SS_element 41 = .ok (.aload_n 0, 1) := by decide +kernel
theorem d_SS_element_42 : decode b_SS_element 42 = .ok (.getfield 38, 3) := by decide +kernel
theorem d_SS_element_45 : decode b_SS_element 45 = .ok (.getfield 98, 3) := by decide +kernel
theorem d_SS_element_48 : decode b_SS_element 48 = .ok (.iload_n 1, 1) := by decide +kernel
theorem d_SS_element_49 : decode b_SS_element 49 = .ok (.iaload, 1) := by decide +kernel
theorem d_SS_element_50 : decode b_SS_element 50 = .ok (.if_icmp .lt 6, 3) := by decide +kernel
theorem d_SS_element_53 : decode b_SS_element 53 = .ok (.bipush (-2), 2) := by decide +kernel
theorem d_SS_element_55 : decode b_SS_element 55 = .ok (.ireturn, 1) := by decide +kernel
theorem d_SS_element_56 : decode b_SS_element 56 = .ok (.aload_n 0, 1) := by decide +kernel
theorem d_SS_element_57 : decode b_SS_element 57 = .ok (.getfield 38, 3) := by decide +kernel
theorem d_SS_element_60 : decode b_SS_element 60 = .ok (.getfield 102, 3) := by decide +kernel
theorem d_SS_element_63 : decode b_SS_element 63 = .ok (.aload_n 0, 1) := by decide +kernel
theorem d_SS_element_64 : decode b_SS_element 64 = .ok (.getfield 38, 3) := by decide +kernel
theorem d_SS_element_67 : decode b_SS_element 67 = .ok (.iload_n 1, 1) := by decide +kernel
theorem d_SS_element_68 : decode b_SS_element 68 = .ok (.invokevirtual 103, 3) := by decide +kernel
theorem d_SS_element_71 : decode b_SS_element 71 = .ok (.iload_n 2, 1) := by decide +kernel
theorem d_SS_element_72 : decode b_SS_element 72 = .ok (.iadd, 1) := by decide +kernel
theorem d_SS_element_73 : decode b_SS_element 73 = .ok (.baload, 1) := by decide +kernel
theorem d_SS_element_74 : decode b_SS_element 74 = .ok (.sipush 255, 3) := by decide +kernel
theorem d_SS_element_77 : decode b_SS_element 77 = .ok (.iand, 1) := by decide +kernel
theorem d_SS_element_78 : decode b_SS_element 78 = .ok (.ireturn, 1) := by decide +kernel
theorem d_SS_sha_0 : decode b_SS_sha 0 = .ok (.aload_n 0, 1) := by decide +kernel
theorem d_SS_sha_1 : decode b_SS_sha 1 = .ok (.getfield 50, 3) := by decide +kernel
theorem d_SS_sha_4 : decode b_SS_sha 4 = .ok (.aload_n 0, 1) := by decide +kernel
theorem d_SS_sha_5 : decode b_SS_sha 5 = .ok (.getfield 14, 3) := by decide +kernel
theorem d_SS_sha_8 : decode b_SS_sha 8 = .ok (.getfield 66, 3) := by decide +kernel
theorem d_SS_sha_11 : decode b_SS_sha 11 = .ok (.iconst 0, 1) := by decide +kernel
theorem d_SS_sha_12 : decode b_SS_sha 12 = .ok (.aload_n 0, 1) := by decide +kernel
theorem d_SS_sha_13 : decode b_SS_sha 13 = .ok (.getfield 14, 3) := by decide +kernel
theorem d_SS_sha_16 : decode b_SS_sha 16 = .ok (.getfield 62, 3) := by decide +kernel
theorem d_SS_sha_19 : decode b_SS_sha 19 = .ok (.aload_n 0, 1) := by decide +kernel
theorem d_SS_sha_20 : decode b_SS_sha 20 = .ok (.getfield 18, 3) := by decide +kernel
theorem d_SS_sha_23 : decode b_SS_sha 23 = .ok (.getfield 66, 3) := by decide +kernel
theorem d_SS_sha_26 : decode b_SS_sha 26 = .ok (.iconst 0, 1) := by decide +kernel
theorem d_SS_sha_27 : decode b_SS_sha 27 = .ok (.invokevirtual 107, 3) := by decide +kernel
theorem d_SS_sha_30 : decode b_SS_sha 30 = .ok (.aload_n 0, 1) := by decide +kernel
theorem d_SS_sha_31 : decode b_SS_sha 31 = .ok (.getfield 18, 3) := by decide +kernel
theorem d_SS_sha_34 : decode b_SS_sha 34 = .ok (.bipush 32, 2) := by decide +kernel
theorem d_SS_sha_36 : decode b_SS_sha 36 = .ok (.putfield 62, 3) := by decide +kernel
theorem d_SS_sha_39 : decode b_SS_sha 39 = .ok (.aload_n 0, 1) := by decide +kernel
theorem d_SS_sha_40 : decode b_SS_sha 40 = .ok (.getfield 14, 3) := by decide +kernel
theorem d_SS_sha_43 : decode b_SS_sha 43 = .ok (.iconst 0, 1) := by decide +kernel
theorem d_SS_sha_44 : decode b_SS_sha 44 = .ok (.putfield 62, 3) := by decide +kernel
theorem d_SS_sha_47 : decode b_SS_sha 47 = .ok (.aload_n 0, 1) := by decide +kernel
theorem d_SS_sha_48 : decode b_SS_sha 48 = .ok (.getfield 18, 3) := by decide +kernel
theorem d_SS_sha_51 : decode b_SS_sha 51 = .ok (.getfield 62, 3) := by decide +kernel
theorem d_SS_sha_54 : decode b_SS_sha 54 = .ok (.ireturn, 1) := by decide +kernel
theorem d_SS_sign_0 : decode b_SS_sign 0 = .ok (.aload_n 0, 1) := by decide +kernel
theorem d_SS_sign_1 : decode b_SS_sign 1 = .ok (.getfield 14, 3) := by decide +kernel
theorem d_SS_sign_4 : decode b_SS_sign 4 = .ok (.getfield 62, 3) := by decide +kernel
theorem d_SS_sign_7 : decode b_SS_sign 7 = .ok (.bipush 80, 2) := by decide +kernel
theorem d_SS_sign_9 : decode b_SS_sign 9 = .ok (.if_icmp .le 5, 3) := by decide +kernel
theorem d_SS_sign_12 : decode b_SS_sign 12 = .ok (.iconst (-1), 1) := by decide +kernel
theorem d_SS_sign_13 : decode b_SS_sign 13 = .ok (.ireturn, 1) := by decide +kernel
theorem d_SS_sign_14 : decode b_SS_sign 14 = .ok (.aload_n 0, 1) := by decide +kernel
theorem d_SS_sign_15 : decode b_SS_sign 15 = .ok (.getfield 43, 3) := by decide +kernel
theorem d_SS_sign_18 : decode b_SS_sign 18 = .ok (.aload_n 0, 1) := by decide +kernel
theorem d_SS_sign_19 : decode b_SS_sign 19 = .ok (.getfield 14, 3) := by decide +kernel
theorem d_SS_sign_22 : decode b_SS_sign 22 = .ok (.getfield 66, 3) := by decide +kernel
theorem d_SS_sign_25 : decode b_SS_sign 25 = .ok (.iconst 0, 1) := by decide +kernel
theorem d_SS_sign_26 : decode b_SS_sign 26 = .ok (.aload_n 0, 1) := by decide +kernel
theorem d_SS_sign_27 : decode b_SS_sign 27 = .ok (.getfield 14, 3) := by decide +kernel
theorem d_SS_sign_30 : decode b_SS_sign 30 = .ok (.getfield 62, 3) := by decide +kernel
theorem d_SS_sign_33 : decode b_SS_sign 33 = .ok (.invokevirtual 110, 3) := by decide +kernel
theorem d_SS_sign_36 : decode b_SS_sign 36 = .ok (.aload_n 0, 1) := by decide +kernel
theorem d_SS_sign_37 : decode b_SS_sign 37 = .ok (.getfield 18, 3) := by decide +kernel
theorem d_SS_sign_40 : decode b_SS_sign 40 = .ok (.aload_n 0, 1) := by decide +kernel
theorem d_SS_sign_41 : decode b_SS_sign 41 = .ok (.getfield 43, 3) := by decide +kernel
theorem d_SS_sign_44 : decode b_SS_sign 44 = .ok (.getfield 114, 3) := by decide +kernel
theorem d_SS_sign_47 : decode b_SS_sign 47 = .ok (.bipush 8, 2) := by decide +kernel
theorem d_SS_sign_49 : decode b_SS_sign 49 = .ok (.invokevirtual 70, 3) := by decide +kernel
theorem d_SS_sign_52 : decode b_SS_sign 52 = .ok (.aload_n 0, 1) := by decide +kernel
theorem d_SS_sign_53 : decode b_SS_sign 53 = .ok (.getfield 14, 3) := by decide +kernel
theorem d_SS_sign_56 : decode b_SS_sign 56 = .ok (.iconst 0, 1) := by decide +kernel
theorem d_SS_sign_57 : decode b_SS_sign 57 = .ok (.putfield 62, 3) := by decide +kernel
theorem d_SS_sign_60 : decode b_SS_sign 60 = .ok (.aload_n 0, 1) := by decide +kernel
theorem d_SS_sign_61 : decode b_SS_sign 61 = .ok (.getfield 18, 3) := by decide +kernel
theorem d_SS_sign_64 : decode b_SS_sign 64 = .ok (.getfield 62, 3) := by decide +kernel
theorem d_SS_sign_67 : decode b_SS_sign 67 = .ok (.ireturn, 1) := by decide +kernel
theorem d_SS_back_0 : decode b_SS_back 0 = .ok (.aload_n 0, 1) := by decide +kernel
theorem d_SS_back_1 : decode b_SS_back 1 = .ok (.getfield 14, 3) := by decide +kernel
theorem d_SS_back_4 : decode b_SS_back 4 = .ok (.iconst 1, 1) := by decide +kernel
theorem d_SS_back_5 : decode b_SS_back 5 = .ok (.aload_n 0, 1) := by decide +kernel
theorem d_SS_back_6 : decode b_SS_back 6 = .ok (.getfield 18, 3) := by decide +kernel
theorem d_SS_back_9 : decode b_SS_back 9 = .ok (.getfield 62, 3) := by decide +kernel
theorem d_SS_back_12 : decode b_SS_back 12 = .ok (.iadd, 1) := by decide +kernel
theorem d_SS_back_13 : decode b_SS_back 13 = .ok (.invokevirtual 55, 3) := by decide +kernel
theorem d_SS_back_16 : decode b_SS_back 16 = .ok (.ifCond .ne 6, 3) := by decide +kernel
theorem d_SS_back_19 : decode b_SS_back 19 = .ok (.bipush (-3), 2) := by decide +kernel
theorem d_SS_back_21 : decode b_SS_back 21 = .ok (.ireturn, 1) := by decide +kernel
theorem d_SS_back_22 : decode b_SS_back 22 = .ok (.aload_n 0, 1) := by decide +kernel
theorem d_SS_back_23 : decode b_SS_back 23 = .ok (.getfield 14, 3) := by decide +kernel
theorem d_SS_back_26 : decode b_SS_back 26 = .ok (.aload_n 0, 1) := by decide +kernel
theorem d_SS_back_27 : decode b_SS_back 27 = .ok (.getfield 18, 3) := by decide +kernel
theorem d_SS_back_30 : decode b_SS_back 30 = .ok (.getfield 62, 3) := by decide +kernel
theorem d_SS_back_33 : decode b_SS_back 33 = .ok (.invokevirtual 117, 3) := by decide +kernel
theorem d_SS_back_36 : decode b_SS_back 36 = .ok (.iconst 0, 1) := by decide +kernel
theorem d_SS_back_37 : decode b_SS_back 37 = .ok (.istore_n 1, 1) := by decide +kernel
theorem d_SS_back_38 : decode b_SS_back 38 = .ok (.iload_n 1, 1) := by decide +kernel
theorem d_SS_back_39 : decode b_SS_back 39 = .ok (.aload_n 0, 1) := by decide +kernel
theorem d_SS_back_40 : decode b_SS_back 40 = .ok (.getfield 18, 3) := by decide +kernel
theorem d_SS_back_43 : decode b_SS_back 43 = .ok (.getfield 62, 3) := by decide +kernel
theorem d_SS_back_46 : decode b_SS_back 46 = .ok (.if_icmp .ge 25, 3) := by decide +kernel
theorem d_SS_back_49 : decode b_SS_back 49 = .ok (.aload_n 0, 1) := by decide +kernel
theorem d_SS_back_50 : decode b_SS_back 50 = .ok (.getfield 14, 3) := by decide +kernel
theorem d_SS_back_53 : decode b_SS_back 53 = .ok (.aload_n 0, 1) := by decide +kernel
theorem d_SS_back_54 : decode b_SS_back 54 = .ok (.getfield 18, 3) := by decide +kernel
theorem d_SS_back_57 : decode b_SS_back 57 = .ok (.getfield 66, 3) := by decide +kernel
theorem d_SS_back_60 : decode b_SS_back 60 = .ok (.iload_n 1, 1) := by decide +kernel
theorem d_SS_back_61 : decode b_SS_back 61 = .ok (.baload, 1) := by decide +kernel
theorem d_SS_back_62 : decode b_SS_back 62 = .ok (.invokevirtual 117, 3) := by decide +kernel
theorem d_SS_back_65 : decode b_SS_back 65 = .ok (.iinc 1 1, 3) := by decide +kernel
theorem d_SS_back_68 : decode b_SS_back 68 = .ok (.goto (-30), 3) := by decide +kernel
theorem d_SS_back_71 : decode b_SS_back 71 = .ok (.aload_n 0, 1) := by decide +kernel
theorem d_SS_back_72 : decode b_SS_back 72 = .ok (.getfield 14, 3) := by decide +kernel
theorem d_SS_back_75 : decode b_SS_back 75 = .ok (.getfield 62, 3) := by decide +kernel
theorem d_SS_back_78 : decode b_SS_back 78 = .ok (.ireturn, 1) := by decide +kernel
theorem d_SS_octet_0 : decode b_SS_octet 0 = .ok (.iload_n 1, 1) := by decide +kernel
theorem d_SS_octet_1 : decode b_SS_octet 1 = .ok (.ifCond .lt 14, 3) := by decide +kernel
theorem d_SS_octet_4 : decode b_SS_octet 4 = .ok (.iload_n 1, 1) := by decide +kernel
theorem d_SS_octet_5 : decode b_SS_octet 5 = .ok (.aload_n 0, 1) := by decide +kernel
theorem d_SS_octet_6 : decode b_SS_octet 6 = .ok (.getfield 18, 3) := by decide +kernel
theorem d_SS_octet_9 : decode b_SS_octet 9 = .ok (.getfield 62, 3) := by decide +kernel
theorem d_SS_octet_12 : decode b_SS_octet 12 = .ok (.if_icmp .lt 8, 3) := by decide +kernel
theorem d_SS_octet_15 : decode b_SS_octet 15 = .ok (.bipush (-2), 2) := by decide +kernel
theorem d_SS_octet_17 : decode b_SS_octet 17 = .ok (.goto 16, 3) := by decide +kernel
theorem d_SS_octet_20 : decode b_SS_octet 20 = .ok (.aload_n 0, 1) := by decide +kernel
theorem d_SS_octet_21 : decode b_SS_octet 21 = .ok (.getfield 18, 3) := by decide +kernel
theorem d_SS_octet_24 : decode b_SS_octet 24 = .ok (.getfield 66, 3) := by decide +kernel
theorem d_SS_octet_27 : decode b_SS_octet 27 = .ok (.iload_n 1, 1) := by decide +kernel
theorem d_SS_octet_28 : decode b_SS_octet 28 = .ok (.baload, 1) := by decide +kernel
theorem d_SS_octet_29 : decode b_SS_octet 29 = .ok (.sipush 255, 3) := by decide +kernel
theorem d_SS_octet_32 : decode b_SS_octet 32 = .ok (.iand, 1) := by decide +kernel
theorem d_SS_octet_33 : decode b_SS_octet 33 = .ok (.ireturn, 1) := by decide +kernel
theorem d_Run_init_0 : decode b_Run_init 0 = .ok (.aload_n 0, 1) := by decide +kernel
theorem d_Run_init_1 : decode b_Run_init 1 = .ok (.invokespecial 3, 3) := by decide +kernel
theorem d_Run_init_4 : decode b_Run_init 4 = .ok (.aload_n 0, 1) := by decide +kernel
theorem d_Run_init_5 : decode b_Run_init 5 = .ok (.new 9, 3) := by decide +kernel
theorem d_Run_init_8 : decode b_Run_init 8 = .ok (.dup, 1) := by decide +kernel
theorem d_Run_init_9 : decode b_Run_init 9 = .ok (.invokespecial 11, 3) := by decide +kernel
theorem d_Run_init_12 : decode b_Run_init 12 = .ok (.putfield 12, 3) := by decide +kernel
theorem d_Run_init_15 : decode b_Run_init 15 = .ok (.aload_n 0, 1) := by decide +kernel
theorem d_Run_init_16 : decode b_Run_init 16 = .ok (.new 18, 3) := by decide +kernel
theorem d_Run_init_19 : decode b_Run_init 19 = .ok (.dup, 1) := by decide +kernel
theorem d_Run_init_20 : decode b_Run_init 20 = .ok (.invokespecial 20, 3) := by decide +kernel
theorem d_Run_init_23 : decode b_Run_init 23 = .ok (.putfield 21, 3) := by decide +kernel
theorem d_Run_init_26 : decode b_Run_init 26 = .ok (.aload_n 0, 1) := by decide +kernel
theorem d_Run_init_27 : decode b_Run_init 27 = .ok (.aload_n 0, 1) := by decide +kernel
theorem d_Run_init_28 : decode b_Run_init 28 = .ok (.getfield 21, 3) := by decide +kernel
theorem d_Run_init_31 : decode b_Run_init 31 = .ok (.getfield 25, 3) := by decide +kernel
theorem d_Run_init_34 : decode b_Run_init 34 = .ok (.putfield 29, 3) := by decide +kernel
theorem d_Run_init_37 : decode b_Run_init 37 = .ok (.aload_n 0, 1) := by decide +kernel
theorem d_Run_init_38 : decode b_Run_init 38 = .ok (.new 30, 3) := by decide +kernel
theorem d_Run_init_41 : decode b_Run_init 41 = .ok (.dup, 1) := by decide +kernel
theorem d_Run_init_42 : decode b_Run_init 42 = .ok (.invokespecial 32, 3) := by decide +kernel
theorem d_Run_init_45 : decode b_Run_init 45 = .ok (.putfield 33, 3) := by decide +kernel
theorem d_Run_init_48 : decode b_Run_init 48 = .ok (.return_, 1) := by decide +kernel
theorem d_Run_runScript_0 : decode b_Run_runScript 0 = .ok (.aload_n 0, 1) := by decide +kernel
theorem d_Run_runScript_1 : decode b_Run_runScript 1 = .ok (.getfield 33, 3) := by decide +kernel
theorem d_Run_runScript_4 : decode b_Run_runScript 4 = .ok (.invokevirtual 37, 3) := by decide +kernel
theorem d_Run_runScript_7 : decode b_Run_runScript 7 = .ok (.iconst 1, 1) := by decide +kernel
theorem d_Run_runScript_8 : decode b_Run_runScript 8 = .ok (.istore_n 3, 1) := by decide +kernel
theorem d_Run_runScript_9 : decode b_Run_runScript 9 = .ok (.iconst 0, 1) := by decide +kernel
theorem d_Run_runScript_10 : decode b_Run_runScript 10 = .ok (.istore 4, 2) := by decide +kernel
theorem d_Run_runScript_12 : decode b_Run_runScript 12 = .ok (.iload_n 3, 1) := by decide +kernel
theorem d_Run_runScript_13 : decode b_Run_runScript 13 = .ok (.ifCond .eq 136, 3) := by decide +kernel
theorem d_Run_runScript_16 : decode b_Run_runScript 16 = .ok (.iload 4, 2) := by decide +kernel
theorem d_Run_runScript_18 : decode b_Run_runScript 18 = .ok (.aload_n 1, 1) := by decide +kernel
theorem d_Run_runScript_19 : decode b_Run_runScript 19 = .ok (.getfield 40, 3) := by decide +kernel
theorem d_Run_runScript_22 : decode b_Run_runScript 22 = .ok (.if_icmp .ge 127, 3) := by decide +kernel
theorem d_Run_runScript_25 : decode b_Run_runScript 25 = .ok (.aload_n 1, 1) := by decide +kernel
theorem d_Run_runScript_26 : decode b_Run_runScript 26 = .ok (.getfield 46, 3) := by decide +kernel
theorem d_Run_runScript_29 : decode b_Run_runScript 29 = .ok (.iload 4, 2) := by decide +kernel
theorem d_Run_runScript_31 : decode b_Run_runScript 31 = .ok (.baload, 1) := by decide +kernel
theorem d_Run_runScript_32 : decode b_Run_runScript 32 = .ok (.sipush 255, 3) := by decide +kernel
theorem d_Run_runScript_35 : decode b_Run_runScript 35 = .ok (.iand, 1) := by decide +kernel
theorem d_Run_runScript_36 : decode b_Run_runScript 36 = .ok (.istore 5, 2) := by decide +kernel
theorem d_Run_runScript_38 : decode b_Run_runScript 38 = .ok (.iinc 4 1, 3) := by decide +kernel
theorem d_Run_runScript_41 : decode b_Run_runScript 41 = .ok (.iload 5, 2) := by decide +kernel
theorem d_Run_runScript_43 : decode b_Run_runScript 43 = .ok (.bipush 75, 2) := by decide +kernel
theorem d_Run_runScript_45 : decode b_Run_runScript 45 = .ok (.if_icmp .gt 59, 3) := by decide +kernel
theorem d_Run_runScript_48 : decode b_Run_runScript 48 = .ok (.iload 5, 2) := by decide +kernel
theorem d_Run_runScript_50 : decode b_Run_runScript 50 = .ok (.aload_n 1, 1) := by decide +kernel
theorem d_Run_runScript_51 : decode b_Run_runScript 51 = .ok (.getfield 40, 3) := by decide +kernel
theorem d_Run_runScript_54 : decode b_Run_runScript 54 = .ok (.iload 4, 2) := by decide +kernel
theorem d_Run_runScript_56 : decode b_Run_runScript 56 = .ok (.isub, 1) := by decide +kernel
theorem d_Run_runScript_57 : decode b_Run_runScript 57 = .ok (.if_icmp .gt 35, 3) := by decide +kernel
theorem d_Run_runScript_60 : decode b_Run_runScript 60 = .ok (.aload_n 0, 1) := by decide +kernel
theorem d_Run_runScript_61 : decode b_Run_runScript 61 = .ok (.getfield 33, 3) := by decide +kernel
theorem d_Run_runScript_64 : decode b_Run_runScript 64 = .ok (.invokevirtual 50, 3) := by decide +kernel
theorem d_Run_runScript_67 : decode b_Run_runScript 67 = .ok (.ifCond .eq 21, 3) := by decide +kernel
theorem d_Run_runScript_70 : decode b_Run_runScript 70 = .ok (.aload_n 0, 1) := by decide +kernel
theorem d_Run_runScript_71 : decode b_Run_runScript 71 = .ok (.getfield 12, 3) := by decide +kernel
theorem d_Run_runScript_74 : decode b_Run_runScript 74 = .ok (.aload_n 1, 1) := by decide +kernel
theorem d_Run_runScript_75 : decode b_Run_runScript 75 = .ok (.getfield 46, 3) := by decide +kernel
theorem d_Run_runScript_78 : decode b_Run_runScript 78 = .ok (.iload 4, 2) := by decide +kernel
theorem d_Run_runScript_80 : decode b_Run_runScript 80 = .ok (.iload 5, 2) := by decide +kernel
theorem d_Run_runScript_82 : decode b_Run_runScript 82 = .ok (.invokevirtual 54, 3) := by decide +kernel
theorem d_Run_runScript_85 : decode b_Run_runScript 85 = .ok (.ifCond .eq 7, 3) := by decide +kernel
theorem d_Run_runScript_88 : decode b_Run_runScript 88 = .ok (.iconst 1, 1) := by decide +kernel
theorem d_Run_runScript_89 : decode b_Run_runScript 89 = .ok (.goto 4, 3) := by decide +kernel
theorem d_Run_runScript_92 : decode b_Run_runScript 92 = .ok (.iconst 0, 1) := by decide +kernel
theorem d_Run_runScript_93 : decode b_Run_runScript 93 = .ok (.istore_n 3, 1) := by decide +kernel
theorem d_Run_runScript_94 : decode b_Run_runScript 94 = .ok (.iload 4, 2) := by decide +kernel
theorem d_Run_runScript_96 : decode b_Run_runScript 96 = .ok (.iload 5, 2) := by decide +kernel
theorem d_Run_runScript_98 : decode b_Run_runScript 98 = .ok (.iadd, 1) := by decide +kernel
theorem d_Run_runScript_99 : decode b_Run_runScript 99 = .ok (.istore 4, 2) := by decide +kernel
theorem d_Run_runScript_101 : decode b_Run_runScript 101 = .ok (.goto 45, 3) := by decide +kernel
theorem d_Run_runScript_104 : decode b_Run_runScript 104 = .ok (.iload 5, 2) := by decide +kernel
theorem d_Run_runScript_106 : decode b_Run_runScript 106 = .ok (.bipush 97, 2) := by decide +kernel
theorem d_Run_runScript_108 : decode b_Run_runScript 108 = .ok (.if_icmp .lt 20, 3) := by decide +kernel
theorem d_Run_runScript_111 : decode b_Run_runScript 111 = .ok (.iload 5, 2) := by decide +kernel
theorem d_Run_runScript_113 : decode b_Run_runScript 113 = .ok (.bipush 100, 2) := by decide +kernel
theorem d_Run_runScript_115 : decode b_Run_runScript 115 = .ok (.if_icmp .gt 13, 3) := by decide +kernel
theorem d_Run_runScript_118 : decode b_Run_runScript 118 = .ok (.aload_n 0, 1) := by decide +kernel
theorem d_Run_runScript_119 : decode b_Run_runScript 119 = .ok (.iload 5, 2) := by decide +kernel
theorem d_Run_runScript_121 : decode b_Run_runScript 121 = .ok (.invokevirtual 58, 3) := by decide +kernel
theorem d_Run_runScript_124 : decode b_Run_runScript 124 = .ok (.istore_n 3, 1) := by decide +kernel
theorem d_Run_runScript_125 : decode b_Run_runScript 125 = .ok (.goto 21, 3) := by decide +kernel
theorem d_Run_runScript_128 : decode b_Run_runScript 128 = .ok (.aload_n 0, 1) := by decide +kernel
theorem d_Run_runScript_129 : decode b_Run_runScript 129 = .ok (.getfield 33, 3) := by decide +kernel
theorem d_Run_runScript_132 : decode b_Run_runScript 132 = .ok (.invokevirtual 50, 3) := by decide +kernel
theorem d_Run_runScript_135 : decode b_Run_runScript 135 = .ok (.ifCond .eq 11, 3) := by decide +kernel
theorem d_Run_runScript_138 : decode b_Run_runScript 138 = .ok (.aload_n 0, 1) := by decide +kernel
theorem d_Run_runScript_139 : decode b_Run_runScript 139 = .ok (.iload 5, 2) := by decide +kernel
theorem d_Run_runScript_141 : decode b_Run_runScript 141 = .ok (.iload_n 2, 1) := by decide +kernel
theorem d_Run_runScript_142 : decode b_Run_runScript 142 = .ok (.invokevirtual 62, 3) := by decide +kernel
theorem d_Run_runScript_145 : decode b_Run_runScript 145 = .ok (.istore_n 3, 1) := by decide +kernel
theorem d_Run_runScript_146 : decode b_Run_runScript 146 = .ok (.goto (-134), 3) := by decide +kernel
theorem d_Run_runScript_149 : decode b_Run_runScript 149 = .ok (.iload_n 3, 1) := by decide +kernel
theorem d_Run_runScript_150 : decode b_Run_runScript 150 = .ok (.ifCond .eq 17, 3) := by decide +kernel
theorem d_Run_runScript_153 : decode b_Run_runScript 153 = .ok (.aload_n 0, 1) := by decide +kernel
theorem d_Run_runScript_154 : decode b_Run_runScript 154 = .ok (.getfield 33, 3) := by decide +kernel
theorem d_Run_runScript_157 : decode b_Run_runScript 157 = .ok (.invokevirtual 66, 3) := by decide +kernel
theorem d_Run_runScript_160 : decode b_Run_runScript 160 = .ok (.ifCond .eq 7, 3) := by decide +kernel
theorem d_Run_runScript_163 : decode b_Run_runScript 163 = .ok (.iconst 1, 1) := by decide +kernel
theorem d_Run_runScript_164 : decode b_Run_runScript 164 = .ok (.goto 4, 3) := by decide +kernel
theorem d_Run_runScript_167 : decode b_Run_runScript 167 = .ok (.iconst 0, 1) := by decide +kernel
theorem d_Run_runScript_168 : decode b_Run_runScript 168 = .ok (.ireturn, 1) := by decide +kernel
theorem d_Run_branch_0 : decode b_Run_branch 0 = .ok (.iload_n 1, 1) := by decide +kernel
theorem d_Run_branch_1 : decode b_Run_branch 1 = .ok (.bipush 99, 2) := by decide +kernel
theorem d_Run_branch_3 : decode b_Run_branch 3 = .ok (.if_icmp .ne 11, 3) := by decide +kernel
theorem d_Run_branch_6 : decode b_Run_branch 6 = .ok (.aload_n 0, 1) := by decide +kernel
theorem d_Run_branch_7 : decode b_Run_branch 7 = .ok (.getfield 33, 3) := by decide +kernel
theorem d_Run_branch_10 : decode b_Run_branch 10 = .ok (.invokevirtual 69, 3) := by decide +kernel
theorem d_Run_branch_13 : decode b_Run_branch 13 = .ok (.ireturn, 1) := by decide +kernel
theorem d_Run_branch_14 : decode b_Run_branch 14 = .ok (.iload_n 1, 1) := by decide +kernel
theorem d_Run_branch_15 : decode b_Run_branch 15 = .ok (.bipush 100, 2) := by decide +kernel
theorem d_Run_branch_17 : decode b_Run_branch 17 = .ok (.if_icmp .ne 11, 3) := by decide +kernel
theorem d_Run_branch_20 : decode b_Run_branch 20 = .ok (.aload_n 0, 1) := by decide +kernel
theorem d_Run_branch_21 : decode b_Run_branch 21 = .ok (.getfield 33, 3) := by decide +kernel
theorem d_Run_branch_24 : decode b_Run_branch 24 = .ok (.invokevirtual 72, 3) := by decide +kernel
theorem d_Run_branch_27 : decode b_Run_branch 27 = .ok (.ireturn, 1) := by decide +kernel
theorem d_Run_branch_28 : decode b_Run_branch 28 = .ok (.aload_n 0, 1) := by decide +kernel
theorem d_Run_branch_29 : decode b_Run_branch 29 = .ok (.getfield 33, 3) := by decide +kernel
theorem d_Run_branch_32 : decode b_Run_branch 32 = .ok (.invokevirtual 50, 3) := by decide +kernel
theorem d_Run_branch_35 : decode b_Run_branch 35 = .ok (.ifCond .ne 13, 3) := by decide +kernel
theorem d_Run_branch_38 : decode b_Run_branch 38 = .ok (.aload_n 0, 1) := by decide +kernel
theorem d_Run_branch_39 : decode b_Run_branch 39 = .ok (.getfield 33, 3) := by decide +kernel
theorem d_Run_branch_42 : decode b_Run_branch 42 = .ok (.iconst 0, 1) := by decide +kernel
theorem d_Run_branch_43 : decode b_Run_branch 43 = .ok (.invokevirtual 75, 3) := by decide +kernel
theorem d_Run_branch_46 : decode b_Run_branch 46 = .ok (.iconst 1, 1) := by decide +kernel
theorem d_Run_branch_47 : decode b_Run_branch 47 = .ok (.ireturn, 1) := by decide +kernel
theorem d_Run_branch_48 : decode b_Run_branch 48 = .ok (.aload_n 0, 1) := by decide +kernel
theorem d_Run_branch_49 : decode b_Run_branch 49 = .ok (.getfield 33, 3) := by decide +kernel
theorem d_Run_branch_52 : decode b_Run_branch 52 = .ok (.aload_n 0, 1) := by decide +kernel
theorem d_Run_branch_53 : decode b_Run_branch 53 = .ok (.getfield 12, 3) := by decide +kernel
theorem d_Run_branch_56 : decode b_Run_branch 56 = .ok (.aload_n 0, 1) := by decide +kernel
theorem d_Run_branch_57 : decode b_Run_branch 57 = .ok (.getfield 12, 3) := by decide +kernel
theorem d_Run_branch_60 : decode b_Run_branch 60 = .ok (.getfield 79, 3) := by decide +kernel
theorem d_Run_branch_63 : decode b_Run_branch 63 = .ok (.iconst 1, 1) := by decide +kernel
theorem d_Run_branch_64 : decode b_Run_branch 64 = .ok (.isub, 1) := by decide +kernel
theorem d_Run_branch_65 : decode b_Run_branch 65 = .ok (.invokevirtual 82, 3) := by decide +kernel
theorem d_Run_branch_68 : decode b_Run_branch 68 = .ok (.iload_n 1, 1) := by decide +kernel
theorem d_Run_branch_69 : decode b_Run_branch 69 = .ok (.bipush 98, 2) := by decide +kernel
theorem d_Run_branch_71 : decode b_Run_branch 71 = .ok (.if_icmp .ne 7, 3) := by decide +kernel
theorem d_Run_branch_74 : decode b_Run_branch 74 = .ok (.iconst 1, 1) := by decide +kernel
theorem d_Run_branch_75 : decode b_Run_branch 75 = .ok (.goto 4, 3) := by decide +kernel
theorem d_Run_branch_78 : decode b_Run_branch 78 = .ok (.iconst 0, 1) := by decide +kernel
theorem d_Run_branch_79 : decode b_Run_branch 79 = .ok (.if_icmp .eq 7, 3) := by decide +kernel
theorem d_Run_branch_82 : decode b_Run_branch 82 = .ok (.iconst 1, 1) := by decide +kernel
theorem d_Run_branch_83 : decode b_Run_branch 83 = .ok (.goto 4, 3) := by decide +kernel
theorem d_Run_branch_86 : decode b_Run_branch 86 = .ok (.iconst 0, 1) := by decide +kernel
theorem d_Run_branch_87 : decode b_Run_branch 87 = .ok (.invokevirtual 75, 3) := by decide +kernel
theorem d_Run_branch_90 : decode b_Run_branch 90 = .ok (.aload_n 0, 1) := by decide +kernel
theorem d_Run_branch_91 : decode b_Run_branch 91 = .ok (.getfield 12, 3) := by decide +kernel
theorem d_Run_branch_94 : decode b_Run_branch 94 = .ok (.iconst 1, 1) := by decide +kernel
theorem d_Run_branch_95 : decode b_Run_branch 95 = .ok (.invokevirtual 85, 3) := by decide +kernel
theorem d_Run_branch_98 : decode b_Run_branch 98 = .ok (.ireturn, 1) := by decide +kernel
theorem d_Run_perform_0 : decode b_Run_perform 0 = .ok (.aload_n 0, 1) := by decide +kernel
theorem d_Run_perform_1 : decode b_Run_perform 1 = .ok (.getfield 12, 3) := by decide +kernel
theorem d_Run_perform_4 : decode b_Run_perform 4 = .ok (.getfield 79, 3) := by decide +kernel
theorem d_Run_perform_7 : decode b_Run_perform 7 = .ok (.iconst 1, 1) := by decide +kernel
theorem d_Run_perform_8 : decode b_Run_perform 8 = .ok (.isub, 1) := by decide +kernel
theorem d_Run_perform_9 : decode b_Run_perform 9 = .ok (.istore_n 3, 1) := by decide +kernel
theorem d_Run_perform_10 : decode b_Run_perform 10 = .ok (.iload_n 1, 1) := by decide +kernel
theorem d_Run_perform_11 : decode b_Run_perform 11 = .ok (.tableswitch 378 80 103 #[109, 118, 127, 135, 378, 146, 260, 182, 210, 254, 254, 254, 265, 303, 303, 319, 324, 378, 378, 378, 378, 378, 364, 373], 109) := by decide +kernel
theorem d_Run_perform_120 : decode b_Run_perform 120 = .ok (.aload_n 0, 1) := by decide +kernel
theorem d_Run_perform_121 : decode b_Run_perform 121 = .ok (.getfield 12, 3) := by decide +kernel
theorem d_Run_perform_124 : decode b_Run_perform 124 = .ok (.iload_n 3, 1) := by decide +kernel
theorem d_Run_perform_125 : decode b_Run_perform 125 = .ok (.invokevirtual 88, 3) := by decide +kernel
theorem d_Run_perform_128 : decode b_Run_perform 128 = .ok (.ireturn, 1) := by decide +kernel
theorem d_Run_perform_129 : decode b_Run_perform 129 = .ok (.aload_n 0, 1) := by decide +kernel
theorem d_Run_perform_130 : decode b_Run_perform 130 = .ok (.getfield 12, 3) := by decide +kernel
theorem d_Run_perform_133 : decode b_Run_perform 133 = .ok (.iconst 1, 1) := by decide +kernel
theorem d_Run_perform_134 : decode b_Run_perform 134 = .ok (.invokevirtual 85, 3) := by decide +kernel
theorem d_Run_perform_137 : decode b_Run_perform 137 = .ok (.ireturn, 1) := by decide +kernel
theorem d_Run_perform_138 : decode b_Run_perform 138 = .ok (.aload_n 0, 1) := by decide +kernel
theorem d_Run_perform_139 : decode b_Run_perform 139 = .ok (.getfield 12, 3) := by decide +kernel
theorem d_Run_perform_142 : decode b_Run_perform 142 = .ok (.invokevirtual 91, 3) := by decide +kernel
theorem d_Run_perform_145 : decode b_Run_perform 145 = .ok (.ireturn, 1) := by decide +kernel
theorem d_Run_perform_146 : decode b_Run_perform 146 = .ok (.aload_n 0, 1) := by decide +kernel
theorem d_Run_perform_147 : decode b_Run_perform 147 = .ok (.getfield 12, 3) := by decide +kernel
theorem d_Run_perform_150 : decode b_Run_perform 150 = .ok (.iload_n 3, 1) := by decide +kernel
theorem d_Run_perform_151 : decode b_Run_perform 151 = .ok (.iconst 1, 1) := by decide +kernel
theorem d_Run_perform_152 : decode b_Run_perform 152 = .ok (.isub, 1) := by decide +kernel
theorem d_Run_perform_153 : decode b_Run_perform 153 = .ok (.invokevirtual 88, 3) := by decide +kernel
theorem d_Run_perform_156 : decode b_Run_perform 156 = .ok (.ireturn, 1) := by decide +kernel
theorem d_Run_perform_157 : decode b_Run_perform 157 = .ok (.aload_n 0, 1) := by decide +kernel
theorem d_Run_perform_158 : decode b_Run_perform 158 = .ok (.getfield 12, 3) := by decide +kernel
theorem d_Run_perform_161 : decode b_Run_perform 161 = .ok (.iload_n 3, 1) := by decide +kernel
theorem d_Run_perform_162 : decode b_Run_perform 162 = .ok (.invokevirtual 94, 3) := by decide +kernel
theorem d_Run_perform_165 : decode b_Run_perform 165 = .ok (.ifCond .eq 26, 3) := by decide +kernel
theorem d_Run_perform_168 : decode b_Run_perform 168 = .ok (.aload_n 0, 1) := by decide +kernel
theorem d_Run_perform_169 : decode b_Run_perform 169 = .ok (.getfield 12, 3) := by decide +kernel
theorem d_Run_perform_172 : decode b_Run_perform 172 = .ok (.aload_n 0, 1) := by decide +kernel
theorem d_Run_perform_173 : decode b_Run_perform 173 = .ok (.getfield 12, 3) := by decide +kernel
theorem d_Run_perform_176 : decode b_Run_perform 176 = .ok (.getfield 97, 3) := by decide +kernel
theorem d_Run_perform_179 : decode b_Run_perform 179 = .ok (.iload_n 3, 1) := by decide +kernel
theorem d_Run_perform_180 : decode b_Run_perform 180 = .ok (.iaload, 1) := by decide +kernel
theorem d_Run_perform_181 : decode b_Run_perform 181 = .ok (.invokevirtual 101, 3) := by decide +kernel
theorem d_Run_perform_184 : decode b_Run_perform 184 = .ok (.ifCond .eq 7, 3) := by decide +kernel
theorem d_Run_perform_187 : decode b_Run_perform 187 = .ok (.iconst 1, 1) := by decide +kernel
theorem d_Run_perform_188 : decode b_Run_perform 188 = .ok (.goto 4, 3) := by decide +kernel
theorem d_Run_perform_191 : decode b_Run_perform 191 = .ok (.iconst 0, 1) := by decide +kernel
theorem d_Run_perform_192 : decode b_Run_perform 192 = .ok (.ireturn, 1) := by decide +kernel
theorem d_Run_perform_193 : decode b_Run_perform 193 = .ok (.aload_n 0, 1) := by decide +kernel
theorem d_Run_perform_194 : decode b_Run_perform 194 = .ok (.getfield 12, 3) := by decide +kernel
theorem d_Run_perform_197 : decode b_Run_perform 197 = .ok (.iload_n 3, 1) := by decide +kernel
theorem d_Run_perform_198 : decode b_Run_perform 198 = .ok (.invokevirtual 82, 3) := by decide +kernel
theorem d_Run_perform_201 : decode b_Run_perform 201 = .ok (.ifCond .eq 18, 3) := by decide +kernel
theorem d_Run_perform_204 : decode b_Run_perform 204 = .ok (.aload_n 0, 1) := by decide +kernel
theorem d_Run_perform_205 : decode b_Run_perform 205 = .ok (.getfield 12, 3) := by decide +kernel
theorem d_Run_perform_208 : decode b_Run_perform 208 = .ok (.iconst 1, 1) := by decide +kernel
theorem d_Run_perform_209 : decode b_Run_perform 209 = .ok (.invokevirtual 85, 3) := by decide +kernel
theorem d_Run_perform_212 : decode b_Run_perform 212 = .ok (.ifCond .eq 7, 3) := by decide +kernel
theorem d_Run_perform_215 : decode b_Run_perform 215 = .ok (.iconst 1, 1) := by decide +kernel
theorem d_Run_perform_216 : decode b_Run_perform 216 = .ok (.goto 4, 3) := by decide +kernel
theorem d_Run_perform_219 : decode b_Run_perform 219 = .ok (.iconst 0, 1) := by decide +kernel
theorem d_Run_perform_220 : decode b_Run_perform 220 = .ok (.ireturn, 1) := by decide +kernel
theorem d_Run_perform_221 : decode b_Run_perform 221 = .ok (.aload_n 0, 1) := by decide +kernel
theorem d_Run_perform_222 : decode b_Run_perform 222 = .ok (.getfield 12, 3) := by decide +kernel
theorem d_Run_perform_225 : decode b_Run_perform 225 = .ok (.iload_n 3, 1) := by decide +kernel
theorem d_Run_perform_226 : decode b_Run_perform 226 = .ok (.invokevirtual 104, 3) := by decide +kernel
theorem d_Run_perform_229 : decode b_Run_perform 229 = .ok (.ifCond .eq 34, 3) := by decide +kernel
theorem d_Run_perform_232 : decode b_Run_perform 232 = .ok (.aload_n 0, 1) := by decide +kernel
theorem d_Run_perform_233 : decode b_Run_perform 233 = .ok (.getfield 12, 3) := by decide +kernel
theorem d_Run_perform_236 : decode b_Run_perform 236 = .ok (.iconst 1, 1) := by decide +kernel
theorem d_Run_perform_237 : decode b_Run_perform 237 = .ok (.aload_n 0, 1) := by decide +kernel
theorem d_Run_perform_238 : decode b_Run_perform 238 = .ok (.getfield 12, 3) := by decide +kernel
theorem d_Run_perform_241 : decode b_Run_perform 241 = .ok (.iload_n 3, 1) := by decide +kernel
theorem d_Run_perform_242 : decode b_Run_perform 242 = .ok (.invokevirtual 107, 3) := by decide +kernel
theorem d_Run_perform_245 : decode b_Run_perform 245 = .ok (.ifCond .ne 7, 3) := by decide +kernel
theorem d_Run_perform_248 : decode b_Run_perform 248 = .ok (.iconst 1, 1) := by decide +kernel
theorem d_Run_perform_249 : decode b_Run_perform 249 = .ok (.goto 4, 3) := by decide +kernel
theorem d_Run_perform_252 : decode b_Run_perform 252 = .ok (.iconst 0, 1) := by decide +kernel
theorem d_Run_perform_253 : decode b_Run_perform 253 = .ok (.invokevirtual 111, 3) := by decide +kernel
theorem d_Run_perform_256 : decode b_Run_perform 256 = .ok (.ifCond .eq 7, 3) := by decide +kernel
theorem d_Run_perform_259 : decode b_Run_perform 259 = .ok (.iconst 1, 1) := by decide +kernel
theorem d_Run_perform_260 : decode b_Run_perform 260 = .ok (.goto 4, 3) := by decide +kernel
theorem d_Run_perform_263 : decode b_Run_perform 263 = .ok (.iconst 0, 1) := by decide +kernel
theorem d_Run_perform_264 : decode b_Run_perform 264 = .ok (.ireturn, 1) := by decide +kernel
theorem d_Run_perform_265 : decode b_Run_perform 265 = .ok (.aload_n 0, 1) := by decide +kernel
theorem d_Run_perform_266 : decode b_Run_perform 266 = .ok (.iload_n 1, 1) := by decide +kernel
theorem d_Run_perform_267 : decode b_Run_perform 267 = .ok (.invokevirtual 115, 3) := by decide +kernel
theorem d_Run_perform_270 : decode b_Run_perform 270 = .ok (.ireturn, 1) := by decide +kernel
theorem d_Run_perform_271 : decode b_Run_perform 271 = .ok (.aload_n 0, 1) := by decide +kernel
theorem d_Run_perform_272 : decode b_Run_perform 272 = .ok (.invokevirtual 118, 3) := by decide +kernel
theorem d_Run_perform_275 : decode b_Run_perform 275 = .ok (.ireturn, 1) := by decide +kernel
theorem d_Run_perform_276 : decode b_Run_perform 276 = .ok (.aload_n 0, 1) := by decide +kernel
theorem d_Run_perform_277 : decode b_Run_perform 277 = .ok (.getfield 12, 3) := by decide +kernel
theorem d_Run_perform_280 : decode b_Run_perform 280 = .ok (.iconst 2, 1) := by decide +kernel
theorem d_Run_perform_281 : decode b_Run_perform 281 = .ok (.aload_n 0, 1) := by decide +kernel
theorem d_Run_perform_282 : decode b_Run_perform 282 = .ok (.getfield 12, 3) := by decide +kernel
theorem d_Run_perform_285 : decode b_Run_perform 285 = .ok (.iload_n 3, 1) := by decide +kernel
theorem d_Run_perform_286 : decode b_Run_perform 286 = .ok (.iconst 1, 1) := by decide +kernel
theorem d_Run_perform_287 : decode b_Run_perform 287 = .ok (.isub, 1) := by decide +kernel
theorem d_Run_perform_288 : decode b_Run_perform 288 = .ok (.invokevirtual 82, 3) := by decide +kernel
theorem d_Run_perform_291 : decode b_Run_perform 291 = .ok (.ifCond .eq 18, 3) := by decide +kernel
theorem d_Run_perform_294 : decode b_Run_perform 294 = .ok (.aload_n 0, 1) := by decide +kernel
theorem d_Run_perform_295 : decode b_Run_perform 295 = .ok (.getfield 12, 3) := by decide +kernel
theorem d_Run_perform_298 : decode b_Run_perform 298 = .ok (.iload_n 3, 1) := by decide +kernel
theorem d_Run_perform_299 : decode b_Run_perform 299 = .ok (.invokevirtual 82, 3) := by decide +kernel
theorem d_Run_perform_302 : decode b_Run_perform 302 = .ok (.ifCond .eq 7, 3) := by decide +kernel
theorem d_Run_perform_305 : decode b_Run_perform 305 = .ok (.iconst 1, 1) := by decide +kernel
theorem d_Run_perform_306 : decode b_Run_perform 306 = .ok (.goto 4, 3) := by decide +kernel
theorem d_Run_perform_309 : decode b_Run_perform 309 = .ok (.iconst 0, 1) := by decide +kernel
theorem d_Run_perform_310 : decode b_Run_perform 310 = .ok (.invokevirtual 111, 3) := by decide +kernel
theorem d_Run_perform_313 : decode b_Run_perform 313 = .ok (.ireturn, 1) := by decide +kernel
theorem d_Run_perform_314 : decode b_Run_perform 314 = .ok (.aload_n 0, 1) := by decide +kernel
theorem d_Run_perform_315 : decode b_Run_perform 315 = .ok (.iload_n 1, 1) := by decide +kernel
theorem d_Run_perform_316 : decode b_Run_perform 316 = .ok (.bipush 94, 2) := by decide +kernel
theorem d_Run_perform_318 : decode b_Run_perform 318 = .ok (.if_icmp .ne 7, 3) := by decide +kernel
theorem d_Run_perform_321 : decode b_Run_perform 321 = .ok (.iconst 1, 1) := by decide +kernel
theorem d_Run_perform_322 : decode b_Run_perform 322 = .ok (.goto 4, 3) := by decide +kernel
theorem d_Run_perform_325 : decode b_Run_perform 325 = .ok (.iconst 0, 1) := by decide +kernel
theorem d_Run_perform_326 : decode b_Run_perform 326 = .ok (.invokevirtual 121, 3) := by decide +kernel
theorem d_Run_perform_329 : decode b_Run_perform 329 = .ok (.ireturn, 1) := by decide +kernel
theorem d_Run_perform_330 : decode b_Run_perform 330 = .ok (.aload_n 0, 1) := by decide +kernel
theorem d_Run_perform_331 : decode b_Run_perform 331 = .ok (.invokevirtual 125, 3) := by decide +kernel
theorem d_Run_perform_334 : decode b_Run_perform 334 = .ok (.ireturn, 1) := by decide +kernel
theorem d_Run_perform_335 : decode b_Run_perform 335 = .ok (.aload_n 0, 1) := by decide +kernel
theorem d_Run_perform_336 : decode b_Run_perform 336 = .ok (.getfield 12, 3) := by decide +kernel
theorem d_Run_perform_339 : decode b_Run_perform 339 = .ok (.iload_n 3, 1) := by decide +kernel
theorem d_Run_perform_340 : decode b_Run_perform 340 = .ok (.invokevirtual 104, 3) := by decide +kernel
theorem d_Run_perform_343 : decode b_Run_perform 343 = .ok (.ifCond .eq 30, 3) := by decide +kernel
theorem d_Run_perform_346 : decode b_Run_perform 346 = .ok (.iload_n 2, 1) := by decide +kernel
theorem d_Run_perform_347 : decode b_Run_perform 347 = .ok (.aload_n 0, 1) := by decide +kernel
theorem d_Run_perform_348 : decode b_Run_perform 348 = .ok (.getfield 12, 3) := by decide +kernel
theorem d_Run_perform_351 : decode b_Run_perform 351 = .ok (.iload_n 3, 1) := by decide +kernel
theorem d_Run_perform_352 : decode b_Run_perform 352 = .ok (.invokevirtual 107, 3) := by decide +kernel
theorem d_Run_perform_355 : decode b_Run_perform 355 = .ok (.if_icmp .lt 18, 3) := by decide +kernel
theorem d_Run_perform_358 : decode b_Run_perform 358 = .ok (.aload_n 0, 1) := by decide +kernel
theorem d_Run_perform_359 : decode b_Run_perform 359 = .ok (.getfield 12, 3) := by decide +kernel
theorem d_Run_perform_362 : decode b_Run_perform 362 = .ok (.iconst 1, 1) := by decide +kernel
theorem d_Run_perform_363 : decode b_Run_perform 363 = .ok (.invokevirtual 85, 3) := by decide +kernel
theorem d_Run_perform_366 : decode b_Run_perform 366 = .ok (.ifCond .eq 7, 3) := by decide +kernel
theorem d_Run_perform_369 : decode b_Run_perform 369 = .ok (.iconst 1, 1) := by decide +kernel
theorem d_Run_perform_370 : decode b_Run_perform 370 = .ok (.goto 4, 3) := by decide +kernel
theorem d_Run_perform_373 : decode b_Run_perform 373 = .ok (.iconst 0, 1) := by decide +kernel
theorem d_Run_perform_374 : decode b_Run_perform 374 = .ok (.ireturn, 1) := by decide +kernel
theorem d_Run_perform_375 : decode b_Run_perform 375 = .ok (.aload_n 0, 1) := by decide +kernel
theorem d_Run_perform_376 : decode b_Run_perform 376 = .ok (.getfield 12, 3) := by decide +kernel
theorem d_Run_perform_379 : decode b_Run_perform 379 = .ok (.iconst 1, 1) := by decide +kernel
theorem d_Run_perform_380 : decode b_Run_perform 380 = .ok (.invokevirtual 101, 3) := by decide +kernel
theorem d_Run_perform_383 : decode b_Run_perform 383 = .ok (.ireturn, 1) := by decide +kernel
theorem d_Run_perform_384 : decode b_Run_perform 384 = .ok (.aload_n 0, 1) := by decide +kernel
theorem d_Run_perform_385 : decode b_Run_perform 385 = .ok (.invokevirtual 128, 3) := by decide +kernel
theorem d_Run_perform_388 : decode b_Run_perform 388 = .ok (.ireturn, 1) := by decide +kernel
theorem d_Run_perform_389 : decode b_Run_perform 389 = .ok (.iconst 0, 1) := by decide +kernel
theorem d_Run_perform_390 : decode b_Run_perform 390 = .ok (.ireturn, 1) := by decide +kernel
theorem d_Run_reckon_0 : decode b_Run_reckon 0 = .ok (.aload_n 0, 1) := by decide +kernel
theorem d_Run_reckon_1 : decode b_Run_reckon 1 = .ok (.getfield 12, 3) := by decide +kernel
theorem d_Run_reckon_4 : decode b_Run_reckon 4 = .ok (.getfield 79, 3) := by decide +kernel
theorem d_Run_reckon_7 : decode b_Run_reckon 7 = .ok (.iconst 1, 1) := by decide +kernel
theorem d_Run_reckon_8 : decode b_Run_reckon 8 = .ok (.isub, 1) := by decide +kernel
theorem d_Run_reckon_9 : decode b_Run_reckon 9 = .ok (.istore_n 2, 1) := by decide +kernel
theorem d_Run_reckon_10 : decode b_Run_reckon 10 = .ok (.aload_n 0, 1) := by decide +kernel
theorem d_Run_reckon_11 : decode b_Run_reckon 11 = .ok (.getfield 12, 3) := by decide +kernel
theorem d_Run_reckon_14 : decode b_Run_reckon 14 = .ok (.iload_n 2, 1) := by decide +kernel
theorem d_Run_reckon_15 : decode b_Run_reckon 15 = .ok (.iconst 1, 1) := by decide +kernel
theorem d_Run_reckon_16 : decode b_Run_reckon 16 = .ok (.isub, 1) := by decide +kernel
theorem d_Run_reckon_17 : decode b_Run_reckon 17 = .ok (.invokevirtual 104, 3) := by decide +kernel
theorem d_Run_reckon_20 : decode b_Run_reckon 20 = .ok (.ifCond .eq 14, 3) := by decide +kernel
theorem d_Run_reckon_23 : decode b_Run_reckon 23 = .ok (.aload_n 0, 1) := by decide +kernel
theorem d_Run_reckon_24 : decode b_Run_reckon 24 = .ok (.getfield 12, 3) := by decide +kernel
theorem d_Run_reckon_27 : decode b_Run_reckon 27 = .ok (.iload_n 2, 1) := by decide +kernel
theorem d_Run_reckon_28 : decode b_Run_reckon 28 = .ok (.invokevirtual 104, 3) := by decide +kernel
theorem d_Run_reckon_31 : decode b_Run_reckon 31 = .ok (.ifCond .ne 5, 3) := by decide +kernel
theorem d_Run_reckon_34 : decode b_Run_reckon 34 = .ok (.iconst 0, 1) := by decide +kernel
theorem d_Run_reckon_35 : decode b_Run_reckon 35 = .ok (.ireturn, 1) := by decide +kernel
theorem d_Run_reckon_36 : decode b_Run_reckon 36 = .ok (.aload_n 0, 1) := by decide +kernel
theorem d_Run_reckon_37 : decode b_Run_reckon 37 = .ok (.getfield 12, 3) := by decide +kernel
theorem d_Run_reckon_40 : decode b_Run_reckon 40 = .ok (.iload_n 2, 1) := by decide +kernel
theorem d_Run_reckon_41 : decode b_Run_reckon 41 = .ok (.iconst 1, 1) := by decide +kernel
theorem d_Run_reckon_42 : decode b_Run_reckon 42 = .ok (.isub, 1) := by decide +kernel
theorem d_Run_reckon_43 : decode b_Run_reckon 43 = .ok (.invokevirtual 107, 3) := by decide +kernel
theorem d_Run_reckon_46 : decode b_Run_reckon 46 = .ok (.istore_n 3, 1) := by decide +kernel
theorem d_Run_reckon_47 : decode b_Run_reckon 47 = .ok (.aload_n 0, 1) := by decide +kernel
theorem d_Run_reckon_48 : decode b_Run_reckon 48 = .ok (.getfield 12, 3) := by decide +kernel
theorem d_Run_reckon_51 : decode b_Run_reckon 51 = .ok (.iload_n 2, 1) := by decide +kernel
theorem d_Run_reckon_52 : decode b_Run_reckon 52 = .ok (.invokevirtual 107, 3) := by decide +kernel
theorem d_Run_reckon_55 : decode b_Run_reckon 55 = .ok (.istore 4, 2) := by decide +kernel
theorem d_Run_reckon_57 : decode b_Run_reckon 57 = .ok (.iload_n 1, 1) := by decide +kernel
theorem d_Run_reckon_58 : decode b_Run_reckon 58 = .ok (.bipush 91, 2) := by decide +kernel
theorem d_Run_reckon_60 : decode b_Run_reckon 60 = .ok (.if_icmp .ne 23, 3) := by decide +kernel
theorem d_Run_reckon_63 : decode b_Run_reckon 63 = .ok (.aload_n 0, 1) := by decide +kernel
theorem d_Run_reckon_64 : decode b_Run_reckon 64 = .ok (.getfield 12, 3) := by decide +kernel
theorem d_Run_reckon_67 : decode b_Run_reckon 67 = .ok (.iconst 2, 1) := by decide +kernel
theorem d_Run_reckon_68 : decode b_Run_reckon 68 = .ok (.iload_n 3, 1) := by decide +kernel
theorem d_Run_reckon_69 : decode b_Run_reckon 69 = .ok (.iload 4, 2) := by decide +kernel
theorem d_Run_reckon_71 : decode b_Run_reckon 71 = .ok (.if_icmp .ge 7, 3) := by decide +kernel
theorem d_Run_reckon_74 : decode b_Run_reckon 74 = .ok (.iconst 1, 1) := by decide +kernel
theorem d_Run_reckon_75 : decode b_Run_reckon 75 = .ok (.goto 4, 3) := by decide +kernel
theorem d_Run_reckon_78 : decode b_Run_reckon 78 = .ok (.iconst 0, 1) := by decide +kernel
theorem d_Run_reckon_79 : decode b_Run_reckon 79 = .ok (.invokevirtual 111, 3) := by decide +kernel
theorem d_Run_reckon_82 : decode b_Run_reckon 82 = .ok (.ireturn, 1) := by decide +kernel
theorem d_Run_reckon_83 : decode b_Run_reckon 83 = .ok (.aload_n 0, 1) := by decide +kernel
theorem d_Run_reckon_84 : decode b_Run_reckon 84 = .ok (.getfield 12, 3) := by decide +kernel
theorem d_Run_reckon_87 : decode b_Run_reckon 87 = .ok (.iconst 2, 1) := by decide +kernel
theorem d_Run_reckon_88 : decode b_Run_reckon 88 = .ok (.iload_n 1, 1) := by decide +kernel
theorem d_Run_reckon_89 : decode b_Run_reckon 89 = .ok (.bipush 89, 2) := by decide +kernel
theorem d_Run_reckon_91 : decode b_Run_reckon 91 = .ok (.if_icmp .ne 10, 3) := by decide +kernel
theorem d_Run_reckon_94 : decode b_Run_reckon 94 = .ok (.iload_n 3, 1) := by decide +kernel
theorem d_Run_reckon_95 : decode b_Run_reckon 95 = .ok (.iload 4, 2) := by decide +kernel
theorem d_Run_reckon_97 : decode b_Run_reckon 97 = .ok (.iadd, 1) := by decide +kernel
theorem d_Run_reckon_98 : decode b_Run_reckon 98 = .ok (.goto 7, 3) := by decide +kernel
theorem d_Run_reckon_101 : decode b_Run_reckon 101 = .ok (.iload_n 3, 1) := by decide +kernel
theorem d_Run_reckon_102 : decode b_Run_reckon 102 = .ok (.iload 4, 2) := by decide +kernel
theorem d_Run_reckon_104 : decode b_Run_reckon 104 = .ok (.isub, 1) := by decide +kernel
theorem d_Run_reckon_105 : decode b_Run_reckon 105 = .ok (.invokevirtual 131, 3) := by decide +kernel
theorem d_Run_reckon_108 : decode b_Run_reckon 108 = .ok (.ireturn, 1) := by decide +kernel
theorem d_Run_equal_0 : decode b_Run_equal 0 = .ok (.aload_n 0, 1) := by decide +kernel
theorem d_Run_equal_1 : decode b_Run_equal 1 = .ok (.getfield 12, 3) := by decide +kernel
theorem d_Run_equal_4 : decode b_Run_equal 4 = .ok (.getfield 79, 3) := by decide +kernel
theorem d_Run_equal_7 : decode b_Run_equal 7 = .ok (.iconst 1, 1) := by decide +kernel
theorem d_Run_equal_8 : decode b_Run_equal 8 = .ok (.isub, 1) := by decide +kernel
theorem d_Run_equal_9 : decode b_Run_equal 9 = .ok (.istore_n 1, 1) := by decide +kernel
theorem d_Run_equal_10 : decode b_Run_equal 10 = .ok (.aload_n 0, 1) := by decide +kernel
theorem d_Run_equal_11 : decode b_Run_equal 11 = .ok (.getfield 12, 3) := by decide +kernel
theorem d_Run_equal_14 : decode b_Run_equal 14 = .ok (.iload_n 1, 1) := by decide +kernel
theorem d_Run_equal_15 : decode b_Run_equal 15 = .ok (.iconst 1, 1) := by decide +kernel
theorem d_Run_equal_16 : decode b_Run_equal 16 = .ok (.isub, 1) := by decide +kernel
theorem d_Run_equal_17 : decode b_Run_equal 17 = .ok (.invokevirtual 94, 3) := by decide +kernel
theorem d_Run_equal_20 : decode b_Run_equal 20 = .ok (.ifCond .ne 5, 3) := by decide +kernel
theorem d_Run_equal_23 : decode b_Run_equal 23 = .ok (.iconst 0, 1) := by decide +kernel
theorem d_Run_equal_24 : decode b_Run_equal 24 = .ok (.ireturn, 1) := by decide +kernel
theorem d_Run_equal_25 : decode b_Run_equal 25 = .ok (.aload_n 0, 1) := by decide +kernel
theorem d_Run_equal_26 : decode b_Run_equal 26 = .ok (.getfield 12, 3) := by decide +kernel
theorem d_Run_equal_29 : decode b_Run_equal 29 = .ok (.iload_n 1, 1) := by decide +kernel
theorem d_Run_equal_30 : decode b_Run_equal 30 = .ok (.iconst 1, 1) := by decide +kernel
theorem d_Run_equal_31 : decode b_Run_equal 31 = .ok (.isub, 1) := by decide +kernel
theorem d_Run_equal_32 : decode b_Run_equal 32 = .ok (.aload_n 0, 1) := by decide +kernel
theorem d_Run_equal_33 : decode b_Run_equal 33 = .ok (.getfield 12, 3) := by decide +kernel
theorem d_Run_equal_36 : decode b_Run_equal 36 = .ok (.getfield 134, 3) := by decide +kernel
theorem d_Run_equal_39 : decode b_Run_equal 39 = .ok (.aload_n 0, 1) := by decide +kernel
theorem d_Run_equal_40 : decode b_Run_equal 40 = .ok (.getfield 12, 3) := by decide +kernel
theorem d_Run_equal_43 : decode b_Run_equal 43 = .ok (.iload_n 1, 1) := by decide +kernel
theorem d_Run_equal_44 : decode b_Run_equal 44 = .ok (.invokevirtual 135, 3) := by decide +kernel
theorem d_Run_equal_47 : decode b_Run_equal 47 = .ok (.aload_n 0, 1) := by decide +kernel
theorem d_Run_equal_48 : decode b_Run_equal 48 = .ok (.getfield 12, 3) := by decide +kernel
theorem d_Run_equal_51 : decode b_Run_equal 51 = .ok (.getfield 97, 3) := by decide +kernel
theorem d_Run_equal_54 : decode b_Run_equal 54 = .ok (.iload_n 1, 1) := by decide +kernel
theorem d_Run_equal_55 : decode b_Run_equal 55 = .ok (.iaload, 1) := by decide +kernel
theorem d_Run_equal_56 : decode b_Run_equal 56 = .ok (.invokevirtual 138, 3) := by decide +kernel
theorem d_Run_equal_59 : decode b_Run_equal 59 = .ok (.istore_n 2, 1) := by decide +kernel
theorem d_Run_equal_60 : decode b_Run_equal 60 = .ok (.aload_n 0, 1) := by decide +kernel
theorem d_Run_equal_61 : decode b_Run_equal 61 = .ok (.getfield 12, 3) := by decide +kernel
theorem d_Run_equal_64 : decode b_Run_equal 64 = .ok (.iconst 2, 1) := by decide +kernel
theorem d_Run_equal_65 : decode b_Run_equal 65 = .ok (.iload_n 2, 1) := by decide +kernel
theorem d_Run_equal_66 : decode b_Run_equal 66 = .ok (.invokevirtual 111, 3) := by decide +kernel
theorem d_Run_equal_69 : decode b_Run_equal 69 = .ok (.ireturn, 1) := by decide +kernel
theorem d_Run_digestLast_0 : decode b_Run_digestLast 0 = .ok (.aload_n 0, 1) := by decide +kernel
theorem d_Run_digestLast_1 : decode b_Run_digestLast 1 = .ok (.getfield 12, 3) := by decide +kernel
theorem d_Run_digestLast_4 : decode b_Run_digestLast 4 = .ok (.getfield 79, 3) := by decide +kernel
theorem d_Run_digestLast_7 : decode b_Run_digestLast 7 = .ok (.iconst 1, 1) := by decide +kernel
theorem d_Run_digestLast_8 : decode b_Run_digestLast 8 = .ok (.isub, 1) := by decide +kernel
theorem d_Run_digestLast_9 : decode b_Run_digestLast 9 = .ok (.istore_n 2, 1) := by decide +kernel
theorem d_Run_digestLast_10 : decode b_Run_digestLast 10 = .ok (.aload_n 0, 1) := by decide +kernel
theorem d_Run_digestLast_11 : decode b_Run_digestLast 11 = .ok (.getfield 12, 3) := by decide +kernel
theorem d_Run_digestLast_14 : decode b_Run_digestLast 14 = .ok (.iload_n 2, 1) := by decide +kernel
theorem d_Run_digestLast_15 : decode b_Run_digestLast 15 = .ok (.invokevirtual 94, 3) := by decide +kernel
theorem d_Run_digestLast_18 : decode b_Run_digestLast 18 = .ok (.ifCond .ne 5, 3) := by decide +kernel
theorem d_Run_digestLast_21 : decode b_Run_digestLast 21 = .ok (.iconst 0, 1) := by decide +kernel
theorem d_Run_digestLast_22 : decode b_Run_digestLast 22 = .ok (.ireturn, 1) := by decide +kernel
theorem d_Run_digestLast_23 : decode b_Run_digestLast 23 = .ok (.aload_n 0, 1) := by decide +kernel
theorem d_Run_digestLast_24 : decode b_Run_digestLast 24 = .ok (.getfield 12, 3) := by decide +kernel
theorem d_Run_digestLast_27 : decode b_Run_digestLast 27 = .ok (.iload_n 2, 1) := by decide +kernel
theorem d_Run_digestLast_28 : decode b_Run_digestLast 28 = .ok (.invokevirtual 135, 3) := by decide +kernel
theorem d_Run_digestLast_31 : decode b_Run_digestLast 31 = .ok (.istore_n 3, 1) := by decide +kernel
theorem d_Run_digestLast_32 : decode b_Run_digestLast 32 = .ok (.iload_n 1, 1) := by decide +kernel
theorem d_Run_digestLast_33 : decode b_Run_digestLast 33 = .ok (.ifCond .eq 38, 3) := by decide +kernel
theorem d_Run_digestLast_36 : decode b_Run_digestLast 36 = .ok (.aload_n 0, 1) := by decide +kernel
theorem d_Run_digestLast_37 : decode b_Run_digestLast 37 = .ok (.getfield 29, 3) := by decide +kernel
theorem d_Run_digestLast_40 : decode b_Run_digestLast 40 = .ok (.aload_n 0, 1) := by decide +kernel
theorem d_Run_digestLast_41 : decode b_Run_digestLast 41 = .ok (.getfield 12, 3) := by decide +kernel
theorem d_Run_digestLast_44 : decode b_Run_digestLast 44 = .ok (.getfield 134, 3) := by decide +kernel
theorem d_Run_digestLast_47 : decode b_Run_digestLast 47 = .ok (.iload_n 3, 1) := by decide +kernel
theorem d_Run_digestLast_48 : decode b_Run_digestLast 48 = .ok (.aload_n 0, 1) := by decide +kernel
theorem d_Run_digestLast_49 : decode b_Run_digestLast 49 = .ok (.getfield 12, 3) := by decide +kernel
theorem d_Run_digestLast_52 : decode b_Run_digestLast 52 = .ok (.getfield 97, 3) := by decide +kernel
theorem d_Run_digestLast_55 : decode b_Run_digestLast 55 = .ok (.iload_n 2, 1) := by decide +kernel
theorem d_Run_digestLast_56 : decode b_Run_digestLast 56 = .ok (.iaload, 1) := by decide +kernel
theorem d_Run_digestLast_57 : decode b_Run_digestLast 57 = .ok (.aload_n 0, 1) := by decide +kernel
theorem d_Run_digestLast_58 : decode b_Run_digestLast 58 = .ok (.getfield 12, 3) := by decide +kernel
theorem d_Run_digestLast_61 : decode b_Run_digestLast 61 = .ok (.getfield 134, 3) := by decide +kernel
theorem d_Run_digestLast_64 : decode b_Run_digestLast 64 = .ok (.iload_n 3, 1) := by decide +kernel
theorem d_Run_digestLast_65 : decode b_Run_digestLast 65 = .ok (.invokevirtual 142, 3) := by decide +kernel
theorem d_Run_digestLast_68 : decode b_Run_digestLast 68 = .ok (.goto 35, 3) := by decide +kernel
theorem d_Run_digestLast_71 : decode b_Run_digestLast 71 = .ok (.aload_n 0, 1) := by decide +kernel
theorem d_Run_digestLast_72 : decode b_Run_digestLast 72 = .ok (.getfield 29, 3) := by decide +kernel
theorem d_Run_digestLast_75 : decode b_Run_digestLast 75 = .ok (.aload_n 0, 1) := by decide +kernel
theorem d_Run_digestLast_76 : decode b_Run_digestLast 76 = .ok (.getfield 12, 3) := by decide +kernel
theorem d_Run_digestLast_79 : decode b_Run_digestLast 79 = .ok (.getfield 134, 3) := by decide +kernel
theorem d_Run_digestLast_82 : decode b_Run_digestLast 82 = .ok (.iload_n 3, 1) := by decide +kernel
theorem d_Run_digestLast_83 : decode b_Run_digestLast 83 = .ok (.aload_n 0, 1) := by decide +kernel
theorem d_Run_digestLast_84 : decode b_Run_digestLast 84 = .ok (.getfield 12, 3) := by decide +kernel
theorem d_Run_digestLast_87 : decode b_Run_digestLast 87 = .ok (.getfield 97, 3) := by decide +kernel
theorem d_Run_digestLast_90 : decode b_Run_digestLast 90 = .ok (.iload_n 2, 1) := by decide +kernel
theorem d_Run_digestLast_91 : decode b_Run_digestLast 91 = .ok (.iaload, 1) := by decide +kernel
theorem d_Run_digestLast_92 : decode b_Run_digestLast 92 = .ok (.aload_n 0, 1) := by decide +kernel
theorem d_Run_digestLast_93 : decode b_Run_digestLast 93 = .ok (.getfield 12, 3) := by decide +kernel
theorem d_Run_digestLast_96 : decode b_Run_digestLast 96 = .ok (.getfield 134, 3) := by decide +kernel
theorem d_Run_digestLast_99 : decode b_Run_digestLast 99 = .ok (.iload_n 3, 1) := by decide +kernel
theorem d_Run_digestLast_100 : decode b_Run_digestLast 100 = .ok (.invokevirtual 148, 3) := by decide +kernel
theorem d_Run_digestLast_103 : decode b_Run_digestLast 103 = .ok (.aload_n 0, 1) := by decide +kernel
theorem d_Run_digestLast_104 : decode b_Run_digestLast 104 = .ok (.getfield 12, 3) := by decide +kernel
theorem d_Run_digestLast_107 : decode b_Run_digestLast 107 = .ok (.getfield 97, 3) := by decide +kernel
theorem d_Run_digestLast_110 : decode b_Run_digestLast 110 = .ok (.iload_n 2, 1) := by decide +kernel
theorem d_Run_digestLast_111 : decode b_Run_digestLast 111 = .ok (.bipush 32, 2) := by decide +kernel
theorem d_Run_digestLast_113 : decode b_Run_digestLast 113 = .ok (.iastore, 1) := by decide +kernel
theorem d_Run_digestLast_114 : decode b_Run_digestLast 114 = .ok (.iconst 1, 1) := by decide +kernel
theorem d_Run_digestLast_115 : decode b_Run_digestLast 115 = .ok (.ireturn, 1) := by decide +kernel
theorem d_Run_signed_0 : decode b_Run_signed 0 = .ok (.aload_n 0, 1) := by decide +kernel
theorem d_Run_signed_1 : decode b_Run_signed 1 = .ok (.getfield 12, 3) := by decide +kernel
theorem d_Run_signed_4 : decode b_Run_signed 4 = .ok (.getfield 79, 3) := by decide +kernel
theorem d_Run_signed_7 : decode b_Run_signed 7 = .ok (.iconst 1, 1) := by decide +kernel
theorem d_Run_signed_8 : decode b_Run_signed 8 = .ok (.isub, 1) := by decide +kernel
theorem d_Run_signed_9 : decode b_Run_signed 9 = .ok (.istore_n 1, 1) := by decide +kernel
theorem d_Run_signed_10 : decode b_Run_signed 10 = .ok (.aload_n 0, 1) := by decide +kernel
theorem d_Run_signed_11 : decode b_Run_signed 11 = .ok (.getfield 12, 3) := by decide +kernel
theorem d_Run_signed_14 : decode b_Run_signed 14 = .ok (.iload_n 1, 1) := by decide +kernel
theorem d_Run_signed_15 : decode b_Run_signed 15 = .ok (.iconst 1, 1) := by decide +kernel
theorem d_Run_signed_16 : decode b_Run_signed 16 = .ok (.isub, 1) := by decide +kernel
theorem d_Run_signed_17 : decode b_Run_signed 17 = .ok (.invokevirtual 94, 3) := by decide +kernel
theorem d_Run_signed_20 : decode b_Run_signed 20 = .ok (.ifCond .ne 5, 3) := by decide +kernel
theorem d_Run_signed_23 : decode b_Run_signed 23 = .ok (.iconst 0, 1) := by decide +kernel
theorem d_Run_signed_24 : decode b_Run_signed 24 = .ok (.ireturn, 1) := by decide +kernel
theorem d_Run_signed_25 : decode b_Run_signed 25 = .ok (.aload_n 0, 1) := by decide +kernel
theorem d_Run_signed_26 : decode b_Run_signed 26 = .ok (.getfield 21, 3) := by decide +kernel
theorem d_Run_signed_29 : decode b_Run_signed 29 = .ok (.aload_n 0, 1) := by decide +kernel
theorem d_Run_signed_30 : decode b_Run_signed 30 = .ok (.getfield 12, 3) := by decide +kernel
theorem d_Run_signed_33 : decode b_Run_signed 33 = .ok (.getfield 134, 3) := by decide +kernel
theorem d_Run_signed_36 : decode b_Run_signed 36 = .ok (.aload_n 0, 1) := by decide +kernel
theorem d_Run_signed_37 : decode b_Run_signed 37 = .ok (.getfield 12, 3) := by decide +kernel
theorem d_Run_signed_40 : decode b_Run_signed 40 = .ok (.iload_n 1, 1) := by decide +kernel
theorem d_Run_signed_41 : decode b_Run_signed 41 = .ok (.invokevirtual 135, 3) := by decide +kernel
theorem d_Run_signed_44 : decode b_Run_signed 44 = .ok (.aload_n 0, 1) := by decide +kernel
theorem d_Run_signed_45 : decode b_Run_signed 45 = .ok (.getfield 12, 3) := by decide +kernel
theorem d_Run_signed_48 : decode b_Run_signed 48 = .ok (.getfield 97, 3) := by decide +kernel
theorem d_Run_signed_51 : decode b_Run_signed 51 = .ok (.iload_n 1, 1) := by decide +kernel
theorem d_Run_signed_52 : decode b_Run_signed 52 = .ok (.iaload, 1) := by decide +kernel
theorem d_Run_signed_53 : decode b_Run_signed 53 = .ok (.invokevirtual 151, 3) := by decide +kernel
theorem d_Run_signed_56 : decode b_Run_signed 56 = .ok (.aload_n 0, 1) := by decide +kernel
theorem d_Run_signed_57 : decode b_Run_signed 57 = .ok (.getfield 12, 3) := by decide +kernel
theorem d_Run_signed_60 : decode b_Run_signed 60 = .ok (.iload_n 1, 1) := by decide +kernel
theorem d_Run_signed_61 : decode b_Run_signed 61 = .ok (.iconst 1, 1) := by decide +kernel
theorem d_Run_signed_62 : decode b_Run_signed 62 = .ok (.isub, 1) := by decide +kernel
theorem d_Run_signed_63 : decode b_Run_signed 63 = .ok (.aload_n 0, 1) := by decide +kernel
theorem d_Run_signed_64 : decode b_Run_signed 64 = .ok (.getfield 21, 3) := by decide +kernel
theorem d_Run_signed_67 : decode b_Run_signed 67 = .ok (.getfield 155, 3) := by decide +kernel
theorem d_Run_signed_70 : decode b_Run_signed 70 = .ok (.iconst 0, 1) := by decide +kernel
theorem d_Run_signed_71 : decode b_Run_signed 71 = .ok (.bipush 8, 2) := by decide +kernel
theorem d_Run_signed_73 : decode b_Run_signed 73 = .ok (.invokevirtual 138, 3) := by decide +kernel
theorem d_Run_signed_76 : decode b_Run_signed 76 = .ok (.istore_n 2, 1) := by decide +kernel
theorem d_Run_signed_77 : decode b_Run_signed 77 = .ok (.aload_n 0, 1) := by decide +kernel
theorem d_Run_signed_78 : decode b_Run_signed 78 = .ok (.getfield 12, 3) := by decide +kernel
theorem d_Run_signed_81 : decode b_Run_signed 81 = .ok (.iconst 2, 1) := by decide +kernel
theorem d_Run_signed_82 : decode b_Run_signed 82 = .ok (.iload_n 2, 1) := by decide +kernel
theorem d_Run_signed_83 : decode b_Run_signed 83 = .ok (.invokevirtual 111, 3) := by decide +kernel
theorem d_Run_signed_86 : decode b_Run_signed 86 = .ok (.ireturn, 1) := by decide +kernel
theorem d_Run_many_0 : decode b_Run_many 0 = .ok (.aload_n 0, 1) := by decide +kernel
theorem d_Run_many_1 : decode b_Run_many 1 = .ok (.getfield 12, 3) := by decide +kernel
theorem d_Run_many_4 : decode b_Run_many 4 = .ok (.getfield 79, 3) := by decide +kernel
theorem d_Run_many_7 : decode b_Run_many 7 = .ok (.iconst 1, 1) := by decide +kernel
theorem d_Run_many_8 : decode b_Run_many 8 = .ok (.isub, 1) := by decide +kernel
theorem d_Run_many_9 : decode b_Run_many 9 = .ok (.istore_n 1, 1) := by decide +kernel
theorem d_Run_many_10 : decode b_Run_many 10 = .ok (.aload_n 0, 1) := by decide +kernel
theorem d_Run_many_11 : decode b_Run_many 11 = .ok (.getfield 12, 3) := by decide +kernel
theorem d_Run_many_14 : decode b_Run_many 14 = .ok (.iload_n 1, 1) := by decide +kernel
theorem d_Run_many_15 : decode b_Run_many 15 = .ok (.invokevirtual 107, 3) := by decide +kernel
theorem d_Run_many_18 : decode b_Run_many 18 = .ok (.istore_n 2, 1) := by decide +kernel
theorem d_Run_many_19 : decode b_Run_many 19 = .ok (.aload_n 0, 1) := by decide +kernel
theorem d_Run_many_20 : decode b_Run_many 20 = .ok (.getfield 12, 3) := by decide +kernel
theorem d_Run_many_23 : decode b_Run_many 23 = .ok (.iload_n 1, 1) := by decide +kernel
theorem d_Run_many_24 : decode b_Run_many 24 = .ok (.invokevirtual 104, 3) := by decide +kernel
theorem d_Run_many_27 : decode b_Run_many 27 = .ok (.ifCond .eq 13, 3) := by decide +kernel
theorem d_Run_many_30 : decode b_Run_many 30 = .ok (.iload_n 2, 1) := by decide +kernel
theorem d_Run_many_31 : decode b_Run_many 31 = .ok (.ifCond .lt 9, 3) := by decide +kernel
theorem d_Run_many_34 : decode b_Run_many 34 = .ok (.iload_n 2, 1) := by decide +kernel
theorem d_Run_many_35 : decode b_Run_many 35 = .ok (.bipush 8, 2) := by decide +kernel
theorem d_Run_many_37 : decode b_Run_many 37 = .ok (.if_icmp .le 5, 3) := by decide +kernel
theorem d_Run_many_40 : decode b_Run_many 40 = .ok (.iconst 0, 1) := by decide +kernel
theorem d_Run_many_41 : decode b_Run_many 41 = .ok (.ireturn, 1) := by decide +kernel
theorem d_Run_many_42 : decode b_Run_many 42 = .ok (.iload_n 1, 1) := by decide +kernel
theorem d_Run_many_43 : decode b_Run_many 43 = .ok (.iload_n 2, 1) := by decide +kernel
theorem d_Run_many_44 : decode b_Run_many 44 = .ok (.isub, 1) := by decide +kernel
theorem d_Run_many_45 : decode b_Run_many 45 = .ok (.istore_n 3, 1) := by decide +kernel
theorem d_Run_many_46 : decode b_Run_many 46 = .ok (.aload_n 0, 1) := by decide +kernel
theorem d_Run_many_47 : decode b_Run_many 47 = .ok (.getfield 12, 3) := by decide +kernel
theorem d_Run_many_50 : decode b_Run_many 50 = .ok (.iload_n 3, 1) := by decide +kernel
theorem d_Run_many_51 : decode b_Run_many 51 = .ok (.iconst 1, 1) := by decide +kernel
theorem d_Run_many_52 : decode b_Run_many 52 = .ok (.isub, 1) := by decide +kernel
theorem d_Run_many_53 : decode b_Run_many 53 = .ok (.invokevirtual 107, 3) := by decide +kernel
theorem d_Run_many_56 : decode b_Run_many 56 = .ok (.istore 4, 2) := by decide +kernel
theorem d_Run_many_58 : decode b_Run_many 58 = .ok (.aload_n 0, 1) := by decide +kernel
theorem d_Run_many_59 : decode b_Run_many 59 = .ok (.getfield 12, 3) := by decide +kernel
theorem d_Run_many_62 : decode b_Run_many 62 = .ok (.iload_n 3, 1) := by decide +kernel
theorem d_Run_many_63 : decode b_Run_many 63 = .ok (.iconst 1, 1) := by decide +kernel
theorem d_Run_many_64 : decode b_Run_many 64 = .ok (.isub, 1) := by decide +kernel
theorem d_Run_many_65 : decode b_Run_many 65 = .ok (.invokevirtual 104, 3) := by decide +kernel
theorem d_Run_many_68 : decode b_Run_many 68 = .ok (.ifCond .eq 14, 3) := by decide +kernel
theorem d_Run_many_71 : decode b_Run_many 71 = .ok (.iload 4, 2) := by decide +kernel
theorem d_Run_many_73 : decode b_Run_many 73 = .ok (.ifCond .lt 9, 3) := by decide +kernel
theorem d_Run_many_76 : decode b_Run_many 76 = .ok (.iload 4, 2) := by decide +kernel
theorem d_Run_many_78 : decode b_Run_many 78 = .ok (.iload_n 2, 1) := by decide +kernel
theorem d_Run_many_79 : decode b_Run_many 79 = .ok (.if_icmp .le 5, 3) := by decide +kernel
theorem d_Run_many_82 : decode b_Run_many 82 = .ok (.iconst 0, 1) := by decide +kernel
theorem d_Run_many_83 : decode b_Run_many 83 = .ok (.ireturn, 1) := by decide +kernel
theorem d_Run_many_84 : decode b_Run_many 84 = .ok (.iload_n 3, 1) := by decide +kernel
theorem d_Run_many_85 : decode b_Run_many 85 = .ok (.iconst 1, 1) := by decide +kernel
theorem d_Run_many_86 : decode b_Run_many 86 = .ok (.isub, 1) := by decide +kernel
theorem d_Run_many_87 : decode b_Run_many 87 = .ok (.iload 4, 2) := by decide +kernel
theorem d_Run_many_89 : decode b_Run_many 89 = .ok (.isub, 1) := by decide +kernel
theorem d_Run_many_90 : decode b_Run_many 90 = .ok (.istore 5, 2) := by decide +kernel
theorem d_Run_many_92 : decode b_Run_many 92 = .ok (.iload 5, 2) := by decide +kernel
theorem d_Run_many_94 : decode b_Run_many 94 = .ok (.ifCond .ge 5, 3) := by decide +kernel
theorem d_Run_many_97 : decode b_Run_many 97 = .ok (.iconst 0, 1) := by decide +kernel
theorem d_Run_many_98 : decode b_Run_many 98 = .ok (.ireturn, 1) := by decide +kernel
theorem d_Run_many_99 : decode b_Run_many 99 = .ok (.iconst 0, 1) := by decide +kernel
theorem d_Run_many_100 : decode b_Run_many 100 = .ok (.istore 6, 2) := by decide +kernel
theorem d_Run_many_102 : decode b_Run_many 102 = .ok (.iload_n 3, 1) := by decide +kernel
theorem d_Run_many_103 : decode b_Run_many 103 = .ok (.istore 7, 2) := by decide +kernel
theorem d_Run_many_105 : decode b_Run_many 105 = .ok (.iload 7, 2) := by decide +kernel
theorem d_Run_many_107 : decode b_Run_many 107 = .ok (.iload_n 1, 1) := by decide +kernel
theorem d_Run_many_108 : decode b_Run_many 108 = .ok (.if_icmp .ge 77, 3) := by decide +kernel
theorem d_Run_many_111 : decode b_Run_many 111 = .ok (.iload 6, 2) := by decide +kernel
theorem d_Run_many_113 : decode b_Run_many 113 = .ok (.iload 4, 2) := by decide +kernel
theorem d_Run_many_115 : decode b_Run_many 115 = .ok (.if_icmp .ge 70, 3) := by decide +kernel
theorem d_Run_many_118 : decode b_Run_many 118 = .ok (.aload_n 0, 1) := by decide +kernel
theorem d_Run_many_119 : decode b_Run_many 119 = .ok (.getfield 21, 3) := by decide +kernel
theorem d_Run_many_122 : decode b_Run_many 122 = .ok (.aload_n 0, 1) := by decide +kernel
theorem d_Run_many_123 : decode b_Run_many 123 = .ok (.getfield 12, 3) := by decide +kernel
theorem d_Run_many_126 : decode b_Run_many 126 = .ok (.getfield 134, 3) := by decide +kernel
theorem d_Run_many_129 : decode b_Run_many 129 = .ok (.aload_n 0, 1) := by decide +kernel
theorem d_Run_many_130 : decode b_Run_many 130 = .ok (.getfield 12, 3) := by decide +kernel
theorem d_Run_many_133 : decode b_Run_many 133 = .ok (.iload 7, 2) := by decide +kernel
theorem d_Run_many_135 : decode b_Run_many 135 = .ok (.invokevirtual 135, 3) := by decide +kernel
theorem d_Run_many_138 : decode b_Run_many 138 = .ok (.aload_n 0, 1) := by decide +kernel
theorem d_Run_many_139 : decode b_Run_many 139 = .ok (.getfield 12, 3) := by decide +kernel
theorem d_Run_many_142 : decode b_Run_many 142 = .ok (.getfield 97, 3) := by decide +kernel
theorem d_Run_many_145 : decode b_Run_many 145 = .ok (.iload 7, 2) := by decide +kernel
theorem d_Run_many_147 : decode b_Run_many 147 = .ok (.iaload, 1) := by decide +kernel
theorem d_Run_many_148 : decode b_Run_many 148 = .ok (.invokevirtual 151, 3) := by decide +kernel
theorem d_Run_many_151 : decode b_Run_many 151 = .ok (.aload_n 0, 1) := by decide +kernel
theorem d_Run_many_152 : decode b_Run_many 152 = .ok (.getfield 12, 3) := by decide +kernel
theorem d_Run_many_155 : decode b_Run_many 155 = .ok (.iload 5, 2) := by decide +kernel
theorem d_Run_many_157 : decode b_Run_many 157 = .ok (.iload 6, 2) := by decide +kernel
theorem d_Run_many_159 : decode b_Run_many 159 = .ok (.iadd, 1) := by decide +kernel
theorem d_Run_many_160 : decode b_Run_many 160 = .ok (.aload_n 0, 1) := by decide +kernel
theorem d_Run_many_161 : decode b_Run_many 161 = .ok (.getfield 21, 3) := by decide +kernel
theorem d_Run_many_164 : decode b_Run_many 164 = .ok (.getfield 155, 3) := by decide +kernel
theorem d_Run_many_167 : decode b_Run_many 167 = .ok (.iconst 0, 1) := by decide +kernel
theorem d_Run_many_168 : decode b_Run_many 168 = .ok (.bipush 8, 2) := by decide +kernel
theorem d_Run_many_170 : decode b_Run_many 170 = .ok (.invokevirtual 138, 3) := by decide +kernel
theorem d_Run_many_173 : decode b_Run_many 173 = .ok (.ifCond .eq 6, 3) := by decide +kernel
theorem d_Run_many_176 : decode b_Run_many 176 = .ok (.iinc 6 1, 3) := by decide +kernel
theorem d_Run_many_179 : decode b_Run_many 179 = .ok (.iinc 7 1, 3) := by decide +kernel
theorem d_Run_many_182 : decode b_Run_many 182 = .ok (.goto (-77), 3) := by decide +kernel
theorem d_Run_many_185 : decode b_Run_many 185 = .ok (.aload_n 0, 1) := by decide +kernel
theorem d_Run_many_186 : decode b_Run_many 186 = .ok (.getfield 12, 3) := by decide +kernel
theorem d_Run_many_189 : decode b_Run_many 189 = .ok (.aload_n 0, 1) := by decide +kernel
theorem d_Run_many_190 : decode b_Run_many 190 = .ok (.getfield 12, 3) := by decide +kernel
theorem d_Run_many_193 : decode b_Run_many 193 = .ok (.getfield 79, 3) := by decide +kernel
theorem d_Run_many_196 : decode b_Run_many 196 = .ok (.iload 5, 2) := by decide +kernel
theorem d_Run_many_198 : decode b_Run_many 198 = .ok (.isub, 1) := by decide +kernel
theorem d_Run_many_199 : decode b_Run_many 199 = .ok (.iload 6, 2) := by decide +kernel
theorem d_Run_many_201 : decode b_Run_many 201 = .ok (.iload 4, 2) := by decide +kernel
theorem d_Run_many_203 : decode b_Run_many 203 = .ok (.if_icmp .ne 7, 3) := by decide +kernel
theorem d_Run_many_206 : decode b_Run_many 206 = .ok (.iconst 1, 1) := by decide +kernel
theorem d_Run_many_207 : decode b_Run_many 207 = .ok (.goto 4, 3) := by decide +kernel
theorem d_Run_many_210 : decode b_Run_many 210 = .ok (.iconst 0, 1) := by decide +kernel
theorem d_Run_many_211 : decode b_Run_many 211 = .ok (.invokevirtual 111, 3) := by decide +kernel
theorem d_Run_many_214 : decode b_Run_many 214 = .ok (.ireturn, 1) := by decide +kernel
