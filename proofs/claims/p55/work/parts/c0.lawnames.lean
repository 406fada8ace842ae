theorem dX6_init_0 : decode cX6_init 0 = .ok (.aload_n 0, 1) := by decide +kernel
theorem dX6_init_1 : decode cX6_init 1 = .ok (.invokespecial 1, 3) := by decide +kernel
theorem dX6_init_4 : decode cX6_init 4 = .ok (.aload_n 0, 1) := by decide +kernel
theorem dX6_init_5 : decode cX6_init 5 = .ok (.iload_n 1, 1) := by decide +kernel
theorem dX6_init_6 : decode cX6_init 6 = .ok (.putfield 7, 3) := by decide +kernel
theorem dX6_init_9 : decode cX6_init 9 = .ok (.return_, 1) := by decide +kernel
theorem dX6_next_0 : decode cX6_next 0 = .ok (.aload_n 0, 1) := by decide +kernel
theorem dX6_next_1 : decode cX6_next 1 = .ok (.aload_n 0, 1) := by decide +kernel
theorem dX6_next_2 : decode cX6_next 2 = .ok (.getfield 7, 3) := by decide +kernel
theorem dX6_next_5 : decode cX6_next 5 = .ok (.ldc 13, 2) := by decide +kernel
theorem dX6_next_7 : decode cX6_next 7 = .ok (.imul, 1) := by decide +kernel
theorem dX6_next_8 : decode cX6_next 8 = .ok (.sipush 12345, 3) := by decide +kernel
theorem dX6_next_11 : decode cX6_next 11 = .ok (.iadd, 1) := by decide +kernel
theorem dX6_next_12 : decode cX6_next 12 = .ok (.putfield 7, 3) := by decide +kernel
theorem dX6_next_15 : decode cX6_next 15 = .ok (.aload_n 0, 1) := by decide +kernel
theorem dX6_next_16 : decode cX6_next 16 = .ok (.getfield 7, 3) := by decide +kernel
theorem dX6_next_19 : decode cX6_next 19 = .ok (.bipush 16, 2) := by decide +kernel
theorem dX6_next_21 : decode cX6_next 21 = .ok (.iushr, 1) := by decide +kernel
theorem dX6_next_22 : decode cX6_next 22 = .ok (.iload_n 1, 1) := by decide +kernel
theorem dX6_next_23 : decode cX6_next 23 = .ok (.irem, 1) := by decide +kernel
theorem dX6_next_24 : decode cX6_next 24 = .ok (.ireturn, 1) := by decide +kernel
theorem dL_cell_0 : decode cL_cell 0 = .ok (.aload_n 0, 1) := by decide +kernel
theorem dL_cell_1 : decode cL_cell 1 = .ok (.arraylength, 1) := by decide +kernel
theorem dL_cell_2 : decode cL_cell 2 = .ok (.ifCond .ne 13, 3) := by decide +kernel
theorem dL_cell_5 : decode cL_cell 5 = .ok (.bipush 71, 2) := by decide +kernel
theorem dL_cell_7 : decode cL_cell 7 = .ok (.iload_n 1, 1) := by decide +kernel
theorem dL_cell_8 : decode cL_cell 8 = .ok (.imul, 1) := by decide +kernel
theorem dL_cell_9 : decode cL_cell 9 = .ok (.bipush 13, 2) := by decide +kernel
theorem dL_cell_11 : decode cL_cell 11 = .ok (.iadd, 1) := by decide +kernel
theorem dL_cell_12 : decode cL_cell 12 = .ok (.goto 19, 3) := by decide +kernel
theorem dL_cell_15 : decode cL_cell 15 = .ok (.aload_n 0, 1) := by decide +kernel
theorem dL_cell_16 : decode cL_cell 16 = .ok (.iload_n 1, 1) := by decide +kernel
theorem dL_cell_17 : decode cL_cell 17 = .ok (.aload_n 0, 1) := by decide +kernel
theorem dL_cell_18 : decode cL_cell 18 = .ok (.arraylength, 1) := by decide +kernel
theorem dL_cell_19 : decode cL_cell 19 = .ok (.irem, 1) := by decide +kernel
theorem dL_cell_20 : decode cL_cell 20 = .ok (.iaload, 1) := by decide +kernel
theorem dL_cell_21 : decode cL_cell 21 = .ok (.iconst 5, 1) := by decide +kernel
theorem dL_cell_22 : decode cL_cell 22 = .ok (.iload_n 1, 1) := by decide +kernel
theorem dL_cell_23 : decode cL_cell 23 = .ok (.aload_n 0, 1) := by decide +kernel
theorem dL_cell_24 : decode cL_cell 24 = .ok (.arraylength, 1) := by decide +kernel
theorem dL_cell_25 : decode cL_cell 25 = .ok (.idiv, 1) := by decide +kernel
theorem dL_cell_26 : decode cL_cell 26 = .ok (.imul, 1) := by decide +kernel
theorem dL_cell_27 : decode cL_cell 27 = .ok (.bipush 17, 2) := by decide +kernel
theorem dL_cell_29 : decode cL_cell 29 = .ok (.irem, 1) := by decide +kernel
theorem dL_cell_30 : decode cL_cell 30 = .ok (.iushr, 1) := by decide +kernel
theorem dL_cell_31 : decode cL_cell 31 = .ok (.ireturn, 1) := by decide +kernel
theorem dL_addListener_0 : decode cL_addListener 0 = .ok (.aload_n 0, 1) := by decide +kernel
theorem dL_addListener_1 : decode cL_addListener 1 = .ok (.iload_n 1, 1) := by decide +kernel
theorem dL_addListener_2 : decode cL_addListener 2 = .ok (.iload_n 2, 1) := by decide +kernel
theorem dL_addListener_3 : decode cL_addListener 3 = .ok (.invokevirtual 7, 3) := by decide +kernel
theorem dL_addListener_6 : decode cL_addListener 6 = .ok (.ireturn, 1) := by decide +kernel
theorem dL_addListener_7 : decode cL_addListener 7 = .ok (.astore_n 3, 1) := by decide +kernel
theorem dL_addListener_8 : decode cL_addListener 8 = .ok (.iconst (-1), 1) := by decide +kernel
theorem dL_addListener_9 : decode cL_addListener 9 = .ok (.ireturn, 1) := by decide +kernel
theorem dL_addListener_10 : decode cL_addListener 10 = .ok (.astore_n 3, 1) := by decide +kernel
theorem dL_addListener_11 : decode cL_addListener 11 = .ok (.bipush (-2), 2) := by decide +kernel
theorem dL_addListener_13 : decode cL_addListener 13 = .ok (.ireturn, 1) := by decide +kernel
theorem dL_link_0 : decode cL_link 0 = .ok (.aload_n 0, 1) := by decide +kernel
theorem dL_link_1 : decode cL_link 1 = .ok (.iload_n 1, 1) := by decide +kernel
theorem dL_link_2 : decode cL_link 2 = .ok (.iload_n 2, 1) := by decide +kernel
theorem dL_link_3 : decode cL_link 3 = .ok (.invokevirtual 17, 3) := by decide +kernel
theorem dL_link_6 : decode cL_link 6 = .ok (.ireturn, 1) := by decide +kernel
theorem dL_link_7 : decode cL_link 7 = .ok (.astore_n 3, 1) := by decide +kernel
theorem dL_link_8 : decode cL_link 8 = .ok (.iconst (-1), 1) := by decide +kernel
theorem dL_link_9 : decode cL_link 9 = .ok (.ireturn, 1) := by decide +kernel
theorem dL_link_10 : decode cL_link 10 = .ok (.astore_n 3, 1) := by decide +kernel
theorem dL_link_11 : decode cL_link 11 = .ok (.bipush (-2), 2) := by decide +kernel
theorem dL_link_13 : decode cL_link 13 = .ok (.ireturn, 1) := by decide +kernel
theorem dL_link_14 : decode cL_link 14 = .ok (.astore_n 3, 1) := by decide +kernel
theorem dL_link_15 : decode cL_link 15 = .ok (.bipush (-3), 2) := by decide +kernel
theorem dL_link_17 : decode cL_link 17 = .ok (.ireturn, 1) := by decide +kernel
theorem dL_unlink_0 : decode cL_unlink 0 = .ok (.aload_n 0, 1) := by decide +kernel
theorem dL_unlink_1 : decode cL_unlink 1 = .ok (.iload_n 1, 1) := by decide +kernel
theorem dL_unlink_2 : decode cL_unlink 2 = .ok (.iload_n 2, 1) := by decide +kernel
theorem dL_unlink_3 : decode cL_unlink 3 = .ok (.invokevirtual 22, 3) := by decide +kernel
theorem dL_unlink_6 : decode cL_unlink 6 = .ok (.ireturn, 1) := by decide +kernel
theorem dL_unlink_7 : decode cL_unlink 7 = .ok (.astore_n 3, 1) := by decide +kernel
theorem dL_unlink_8 : decode cL_unlink 8 = .ok (.iconst (-1), 1) := by decide +kernel
theorem dL_unlink_9 : decode cL_unlink 9 = .ok (.ireturn, 1) := by decide +kernel
theorem dL_unlink_10 : decode cL_unlink 10 = .ok (.astore_n 3, 1) := by decide +kernel
theorem dL_unlink_11 : decode cL_unlink 11 = .ok (.bipush (-2), 2) := by decide +kernel
theorem dL_unlink_13 : decode cL_unlink 13 = .ok (.ireturn, 1) := by decide +kernel
theorem dL_moveListener_0 : decode cL_moveListener 0 = .ok (.aload_n 0, 1) := by decide +kernel
theorem dL_moveListener_1 : decode cL_moveListener 1 = .ok (.iload_n 1, 1) := by decide +kernel
theorem dL_moveListener_2 : decode cL_moveListener 2 = .ok (.iload_n 2, 1) := by decide +kernel
theorem dL_moveListener_3 : decode cL_moveListener 3 = .ok (.invokevirtual 27, 3) := by decide +kernel
theorem dL_moveListener_6 : decode cL_moveListener 6 = .ok (.ireturn, 1) := by decide +kernel
theorem dL_moveListener_7 : decode cL_moveListener 7 = .ok (.astore_n 3, 1) := by decide +kernel
theorem dL_moveListener_8 : decode cL_moveListener 8 = .ok (.iconst (-1), 1) := by decide +kernel
theorem dL_moveListener_9 : decode cL_moveListener 9 = .ok (.ireturn, 1) := by decide +kernel
theorem dL_moveListener_10 : decode cL_moveListener 10 = .ok (.astore_n 3, 1) := by decide +kernel
theorem dL_moveListener_11 : decode cL_moveListener 11 = .ok (.bipush (-2), 2) := by decide +kernel
theorem dL_moveListener_13 : decode cL_moveListener 13 = .ok (.ireturn, 1) := by decide +kernel
theorem dL_moveListener_14 : decode cL_moveListener 14 = .ok (.astore_n 3, 1) := by decide +kernel
theorem dL_moveListener_15 : decode cL_moveListener 15 = .ok (.bipush (-3), 2) := by decide +kernel
theorem dL_moveListener_17 : decode cL_moveListener 17 = .ok (.ireturn, 1) := by decide +kernel
theorem dL_startRumour_0 : decode cL_startRumour 0 = .ok (.aload_n 0, 1) := by decide +kernel
theorem dL_startRumour_1 : decode cL_startRumour 1 = .ok (.iload_n 1, 1) := by decide +kernel
theorem dL_startRumour_2 : decode cL_startRumour 2 = .ok (.iload_n 2, 1) := by decide +kernel
theorem dL_startRumour_3 : decode cL_startRumour 3 = .ok (.invokevirtual 30, 3) := by decide +kernel
theorem dL_startRumour_6 : decode cL_startRumour 6 = .ok (.ireturn, 1) := by decide +kernel
theorem dL_startRumour_7 : decode cL_startRumour 7 = .ok (.astore_n 3, 1) := by decide +kernel
theorem dL_startRumour_8 : decode cL_startRumour 8 = .ok (.iconst (-1), 1) := by decide +kernel
theorem dL_startRumour_9 : decode cL_startRumour 9 = .ok (.ireturn, 1) := by decide +kernel
theorem dL_startRumour_10 : decode cL_startRumour 10 = .ok (.astore_n 3, 1) := by decide +kernel
theorem dL_startRumour_11 : decode cL_startRumour 11 = .ok (.bipush (-2), 2) := by decide +kernel
theorem dL_startRumour_13 : decode cL_startRumour 13 = .ok (.ireturn, 1) := by decide +kernel
theorem dL_startRumour_14 : decode cL_startRumour 14 = .ok (.astore_n 3, 1) := by decide +kernel
theorem dL_startRumour_15 : decode cL_startRumour 15 = .ok (.bipush (-3), 2) := by decide +kernel
theorem dL_startRumour_17 : decode cL_startRumour 17 = .ok (.ireturn, 1) := by decide +kernel
theorem dL_check_0 : decode cL_check 0 = .ok (.aload_n 0, 1) := by decide +kernel
theorem dL_check_1 : decode cL_check 1 = .ok (.iload_n 1, 1) := by decide +kernel
theorem dL_check_2 : decode cL_check 2 = .ok (.iload_n 2, 1) := by decide +kernel
theorem dL_check_3 : decode cL_check 3 = .ok (.invokevirtual 33, 3) := by decide +kernel
theorem dL_check_6 : decode cL_check 6 = .ok (.ifCond .eq 7, 3) := by decide +kernel
theorem dL_check_9 : decode cL_check 9 = .ok (.iconst 1, 1) := by decide +kernel
theorem dL_check_10 : decode cL_check 10 = .ok (.goto 4, 3) := by decide +kernel
theorem dL_check_13 : decode cL_check 13 = .ok (.iconst 0, 1) := by decide +kernel
theorem dL_check_14 : decode cL_check 14 = .ok (.ireturn, 1) := by decide +kernel
theorem dL_check_15 : decode cL_check 15 = .ok (.astore_n 3, 1) := by decide +kernel
theorem dL_check_16 : decode cL_check 16 = .ok (.iconst (-1), 1) := by decide +kernel
theorem dL_check_17 : decode cL_check 17 = .ok (.ireturn, 1) := by decide +kernel
theorem dL_check_18 : decode cL_check 18 = .ok (.astore_n 3, 1) := by decide +kernel
theorem dL_check_19 : decode cL_check 19 = .ok (.bipush (-2), 2) := by decide +kernel
theorem dL_check_21 : decode cL_check 21 = .ok (.ireturn, 1) := by decide +kernel
theorem dL_deny_0 : decode cL_deny 0 = .ok (.aload_n 0, 1) := by decide +kernel
theorem dL_deny_1 : decode cL_deny 1 = .ok (.iload_n 1, 1) := by decide +kernel
theorem dL_deny_2 : decode cL_deny 2 = .ok (.invokevirtual 37, 3) := by decide +kernel
theorem dL_deny_5 : decode cL_deny 5 = .ok (.ireturn, 1) := by decide +kernel
theorem dL_deny_6 : decode cL_deny 6 = .ok (.astore_n 2, 1) := by decide +kernel
theorem dL_deny_7 : decode cL_deny 7 = .ok (.iconst (-1), 1) := by decide +kernel
theorem dL_deny_8 : decode cL_deny 8 = .ok (.ireturn, 1) := by decide +kernel
theorem dL_deny_9 : decode cL_deny 9 = .ok (.astore_n 2, 1) := by decide +kernel
theorem dL_deny_10 : decode cL_deny 10 = .ok (.bipush (-2), 2) := by decide +kernel
theorem dL_deny_12 : decode cL_deny 12 = .ok (.ireturn, 1) := by decide +kernel
theorem dL_answer_0 : decode cL_answer 0 = .ok (.aload_n 0, 1) := by decide +kernel
theorem dL_answer_1 : decode cL_answer 1 = .ok (.iload_n 1, 1) := by decide +kernel
theorem dL_answer_2 : decode cL_answer 2 = .ok (.iload_n 2, 1) := by decide +kernel
theorem dL_answer_3 : decode cL_answer 3 = .ok (.invokevirtual 41, 3) := by decide +kernel
theorem dL_answer_6 : decode cL_answer 6 = .ok (.ireturn, 1) := by decide +kernel
theorem dL_answer_7 : decode cL_answer 7 = .ok (.astore_n 3, 1) := by decide +kernel
theorem dL_answer_8 : decode cL_answer 8 = .ok (.iconst (-1), 1) := by decide +kernel
theorem dL_answer_9 : decode cL_answer 9 = .ok (.ireturn, 1) := by decide +kernel
theorem dL_answer_10 : decode cL_answer 10 = .ok (.astore_n 3, 1) := by decide +kernel
theorem dL_answer_11 : decode cL_answer 11 = .ok (.bipush (-2), 2) := by decide +kernel
theorem dL_answer_13 : decode cL_answer 13 = .ok (.ireturn, 1) := by decide +kernel
theorem dL_answer_14 : decode cL_answer 14 = .ok (.astore_n 3, 1) := by decide +kernel
theorem dL_answer_15 : decode cL_answer 15 = .ok (.bipush (-3), 2) := by decide +kernel
theorem dL_answer_17 : decode cL_answer 17 = .ok (.ireturn, 1) := by decide +kernel
theorem dL_advance_0 : decode cL_advance 0 = .ok (.aload_n 0, 1) := by decide +kernel
theorem dL_advance_1 : decode cL_advance 1 = .ok (.iload_n 1, 1) := by decide +kernel
theorem dL_advance_2 : decode cL_advance 2 = .ok (.invokevirtual 44, 3) := by decide +kernel
theorem dL_advance_5 : decode cL_advance 5 = .ok (.ireturn, 1) := by decide +kernel
theorem dL_advance_6 : decode cL_advance 6 = .ok (.astore_n 2, 1) := by decide +kernel
theorem dL_advance_7 : decode cL_advance 7 = .ok (.iconst (-1), 1) := by decide +kernel
theorem dL_advance_8 : decode cL_advance 8 = .ok (.ireturn, 1) := by decide +kernel
theorem dL_hive_0 : decode cL_hive 0 = .ok (.aload_n 0, 1) := by decide +kernel
theorem dL_hive_1 : decode cL_hive 1 = .ok (.iload_n 1, 1) := by decide +kernel
theorem dL_hive_2 : decode cL_hive 2 = .ok (.invokevirtual 47, 3) := by decide +kernel
theorem dL_hive_5 : decode cL_hive 5 = .ok (.ireturn, 1) := by decide +kernel
theorem dL_hive_6 : decode cL_hive 6 = .ok (.astore_n 2, 1) := by decide +kernel
theorem dL_hive_7 : decode cL_hive 7 = .ok (.iconst (-1), 1) := by decide +kernel
theorem dL_hive_8 : decode cL_hive 8 = .ok (.ireturn, 1) := by decide +kernel
theorem dL_doubt_0 : decode cL_doubt 0 = .ok (.aload_n 0, 1) := by decide +kernel
theorem dL_doubt_1 : decode cL_doubt 1 = .ok (.iload_n 1, 1) := by decide +kernel
theorem dL_doubt_2 : decode cL_doubt 2 = .ok (.invokevirtual 50, 3) := by decide +kernel
theorem dL_doubt_5 : decode cL_doubt 5 = .ok (.ireturn, 1) := by decide +kernel
theorem dL_doubt_6 : decode cL_doubt 6 = .ok (.astore_n 2, 1) := by decide +kernel
theorem dL_doubt_7 : decode cL_doubt 7 = .ok (.iconst (-1), 1) := by decide +kernel
theorem dL_doubt_8 : decode cL_doubt 8 = .ok (.ireturn, 1) := by decide +kernel
theorem dL_isLinked_0 : decode cL_isLinked 0 = .ok (.aload_n 0, 1) := by decide +kernel
theorem dL_isLinked_1 : decode cL_isLinked 1 = .ok (.iload_n 1, 1) := by decide +kernel
theorem dL_isLinked_2 : decode cL_isLinked 2 = .ok (.iload_n 2, 1) := by decide +kernel
theorem dL_isLinked_3 : decode cL_isLinked 3 = .ok (.invokevirtual 53, 3) := by decide +kernel
theorem dL_isLinked_6 : decode cL_isLinked 6 = .ok (.ifCond .eq 7, 3) := by decide +kernel
theorem dL_isLinked_9 : decode cL_isLinked 9 = .ok (.iconst 1, 1) := by decide +kernel
theorem dL_isLinked_10 : decode cL_isLinked 10 = .ok (.goto 4, 3) := by decide +kernel
theorem dL_isLinked_13 : decode cL_isLinked 13 = .ok (.iconst 0, 1) := by decide +kernel
theorem dL_isLinked_14 : decode cL_isLinked 14 = .ok (.ireturn, 1) := by decide +kernel
theorem dL_isLinked_15 : decode cL_isLinked 15 = .ok (.astore_n 3, 1) := by decide +kernel
theorem dL_isLinked_16 : decode cL_isLinked 16 = .ok (.iconst (-1), 1) := by decide +kernel
theorem dL_isLinked_17 : decode cL_isLinked 17 = .ok (.ireturn, 1) := by decide +kernel
theorem dL_neighbourCount_0 : decode cL_neighbourCount 0 = .ok (.aload_n 0, 1) := by decide +kernel
theorem dL_neighbourCount_1 : decode cL_neighbourCount 1 = .ok (.iload_n 1, 1) := by decide +kernel
theorem dL_neighbourCount_2 : decode cL_neighbourCount 2 = .ok (.invokevirtual 56, 3) := by decide +kernel
theorem dL_neighbourCount_5 : decode cL_neighbourCount 5 = .ok (.ireturn, 1) := by decide +kernel
theorem dL_neighbourCount_6 : decode cL_neighbourCount 6 = .ok (.astore_n 2, 1) := by decide +kernel
theorem dL_neighbourCount_7 : decode cL_neighbourCount 7 = .ok (.iconst (-1), 1) := by decide +kernel
theorem dL_neighbourCount_8 : decode cL_neighbourCount 8 = .ok (.ireturn, 1) := by decide +kernel
theorem dL_hiveSize_0 : decode cL_hiveSize 0 = .ok (.aload_n 0, 1) := by decide +kernel
theorem dL_hiveSize_1 : decode cL_hiveSize 1 = .ok (.iload_n 1, 1) := by decide +kernel
theorem dL_hiveSize_2 : decode cL_hiveSize 2 = .ok (.invokevirtual 59, 3) := by decide +kernel
theorem dL_hiveSize_5 : decode cL_hiveSize 5 = .ok (.ireturn, 1) := by decide +kernel
theorem dL_hiveSize_6 : decode cL_hiveSize 6 = .ok (.astore_n 2, 1) := by decide +kernel
theorem dL_hiveSize_7 : decode cL_hiveSize 7 = .ok (.iconst (-1), 1) := by decide +kernel
theorem dL_hiveSize_8 : decode cL_hiveSize 8 = .ok (.ireturn, 1) := by decide +kernel
theorem dL_strength_0 : decode cL_strength 0 = .ok (.aload_n 0, 1) := by decide +kernel
theorem dL_strength_1 : decode cL_strength 1 = .ok (.iload_n 1, 1) := by decide +kernel
theorem dL_strength_2 : decode cL_strength 2 = .ok (.invokevirtual 62, 3) := by decide +kernel
theorem dL_strength_5 : decode cL_strength 5 = .ok (.ireturn, 1) := by decide +kernel
theorem dL_strength_6 : decode cL_strength 6 = .ok (.astore_n 2, 1) := by decide +kernel
theorem dL_strength_7 : decode cL_strength 7 = .ok (.iconst (-1), 1) := by decide +kernel
theorem dL_strength_8 : decode cL_strength 8 = .ok (.ireturn, 1) := by decide +kernel
theorem dL_isAlive_0 : decode cL_isAlive 0 = .ok (.aload_n 0, 1) := by decide +kernel
theorem dL_isAlive_1 : decode cL_isAlive 1 = .ok (.iload_n 1, 1) := by decide +kernel
theorem dL_isAlive_2 : decode cL_isAlive 2 = .ok (.invokevirtual 65, 3) := by decide +kernel
theorem dL_isAlive_5 : decode cL_isAlive 5 = .ok (.ifCond .eq 7, 3) := by decide +kernel
theorem dL_isAlive_8 : decode cL_isAlive 8 = .ok (.iconst 1, 1) := by decide +kernel
theorem dL_isAlive_9 : decode cL_isAlive 9 = .ok (.goto 4, 3) := by decide +kernel
theorem dL_isAlive_12 : decode cL_isAlive 12 = .ok (.iconst 0, 1) := by decide +kernel
theorem dL_isAlive_13 : decode cL_isAlive 13 = .ok (.ireturn, 1) := by decide +kernel
theorem dL_isAlive_14 : decode cL_isAlive 14 = .ok (.astore_n 2, 1) := by decide +kernel
theorem dL_isAlive_15 : decode cL_isAlive 15 = .ok (.iconst (-1), 1) := by decide +kernel
theorem dL_isAlive_16 : decode cL_isAlive 16 = .ok (.ireturn, 1) := by decide +kernel
theorem dL_starter_0 : decode cL_starter 0 = .ok (.aload_n 0, 1) := by decide +kernel
theorem dL_starter_1 : decode cL_starter 1 = .ok (.iload_n 1, 1) := by decide +kernel
theorem dL_starter_2 : decode cL_starter 2 = .ok (.invokevirtual 69, 3) := by decide +kernel
theorem dL_starter_5 : decode cL_starter 5 = .ok (.ireturn, 1) := by decide +kernel
theorem dL_starter_6 : decode cL_starter 6 = .ok (.astore_n 2, 1) := by decide +kernel
theorem dL_starter_7 : decode cL_starter 7 = .ok (.iconst (-1), 1) := by decide +kernel
theorem dL_starter_8 : decode cL_starter 8 = .ok (.ireturn, 1) := by decide +kernel
theorem dL_isSpreader_0 : decode cL_isSpreader 0 = .ok (.aload_n 0, 1) := by decide +kernel
theorem dL_isSpreader_1 : decode cL_isSpreader 1 = .ok (.iload_n 1, 1) := by decide +kernel
theorem dL_isSpreader_2 : decode cL_isSpreader 2 = .ok (.iload_n 2, 1) := by decide +kernel
theorem dL_isSpreader_3 : decode cL_isSpreader 3 = .ok (.invokevirtual 72, 3) := by decide +kernel
theorem dL_isSpreader_6 : decode cL_isSpreader 6 = .ok (.ifCond .eq 7, 3) := by decide +kernel
theorem dL_isSpreader_9 : decode cL_isSpreader 9 = .ok (.iconst 1, 1) := by decide +kernel
theorem dL_isSpreader_10 : decode cL_isSpreader 10 = .ok (.goto 4, 3) := by decide +kernel
theorem dL_isSpreader_13 : decode cL_isSpreader 13 = .ok (.iconst 0, 1) := by decide +kernel
theorem dL_isSpreader_14 : decode cL_isSpreader 14 = .ok (.ireturn, 1) := by decide +kernel
theorem dL_isSpreader_15 : decode cL_isSpreader 15 = .ok (.astore_n 3, 1) := by decide +kernel
theorem dL_isSpreader_16 : decode cL_isSpreader 16 = .ok (.iconst (-1), 1) := by decide +kernel
theorem dL_isSpreader_17 : decode cL_isSpreader 17 = .ok (.ireturn, 1) := by decide +kernel
theorem dL_isSceptic_0 : decode cL_isSceptic 0 = .ok (.aload_n 0, 1) := by decide +kernel
theorem dL_isSceptic_1 : decode cL_isSceptic 1 = .ok (.iload_n 1, 1) := by decide +kernel
theorem dL_isSceptic_2 : decode cL_isSceptic 2 = .ok (.iload_n 2, 1) := by decide +kernel
theorem dL_isSceptic_3 : decode cL_isSceptic 3 = .ok (.invokevirtual 75, 3) := by decide +kernel
theorem dL_isSceptic_6 : decode cL_isSceptic 6 = .ok (.ifCond .eq 7, 3) := by decide +kernel
theorem dL_isSceptic_9 : decode cL_isSceptic 9 = .ok (.iconst 1, 1) := by decide +kernel
theorem dL_isSceptic_10 : decode cL_isSceptic 10 = .ok (.goto 4, 3) := by decide +kernel
theorem dL_isSceptic_13 : decode cL_isSceptic 13 = .ok (.iconst 0, 1) := by decide +kernel
theorem dL_isSceptic_14 : decode cL_isSceptic 14 = .ok (.ireturn, 1) := by decide +kernel
theorem dL_isSceptic_15 : decode cL_isSceptic 15 = .ok (.astore_n 3, 1) := by decide +kernel
theorem dL_isSceptic_16 : decode cL_isSceptic 16 = .ok (.iconst (-1), 1) := by decide +kernel
theorem dL_isSceptic_17 : decode cL_isSceptic 17 = .ok (.ireturn, 1) := by decide +kernel
theorem dL_heardRound_0 : decode cL_heardRound 0 = .ok (.aload_n 0, 1) := by decide +kernel
theorem dL_heardRound_1 : decode cL_heardRound 1 = .ok (.iload_n 1, 1) := by decide +kernel
theorem dL_heardRound_2 : decode cL_heardRound 2 = .ok (.iload_n 2, 1) := by decide +kernel
theorem dL_heardRound_3 : decode cL_heardRound 3 = .ok (.invokevirtual 78, 3) := by decide +kernel
theorem dL_heardRound_6 : decode cL_heardRound 6 = .ok (.ireturn, 1) := by decide +kernel
theorem dL_heardRound_7 : decode cL_heardRound 7 = .ok (.astore_n 3, 1) := by decide +kernel
theorem dL_heardRound_8 : decode cL_heardRound 8 = .ok (.iconst (-1), 1) := by decide +kernel
theorem dL_heardRound_9 : decode cL_heardRound 9 = .ok (.ireturn, 1) := by decide +kernel
theorem dL_heardRound_10 : decode cL_heardRound 10 = .ok (.astore_n 3, 1) := by decide +kernel
theorem dL_heardRound_11 : decode cL_heardRound 11 = .ok (.bipush (-2), 2) := by decide +kernel
theorem dL_heardRound_13 : decode cL_heardRound 13 = .ok (.ireturn, 1) := by decide +kernel
theorem dL_spreaderCount_0 : decode cL_spreaderCount 0 = .ok (.aload_n 0, 1) := by decide +kernel
theorem dL_spreaderCount_1 : decode cL_spreaderCount 1 = .ok (.iload_n 1, 1) := by decide +kernel
theorem dL_spreaderCount_2 : decode cL_spreaderCount 2 = .ok (.invokevirtual 81, 3) := by decide +kernel
theorem dL_spreaderCount_5 : decode cL_spreaderCount 5 = .ok (.ireturn, 1) := by decide +kernel
theorem dL_spreaderCount_6 : decode cL_spreaderCount 6 = .ok (.astore_n 2, 1) := by decide +kernel
theorem dL_spreaderCount_7 : decode cL_spreaderCount 7 = .ok (.iconst (-1), 1) := by decide +kernel
theorem dL_spreaderCount_8 : decode cL_spreaderCount 8 = .ok (.ireturn, 1) := by decide +kernel
theorem dL_scepticCount_0 : decode cL_scepticCount 0 = .ok (.aload_n 0, 1) := by decide +kernel
theorem dL_scepticCount_1 : decode cL_scepticCount 1 = .ok (.iload_n 1, 1) := by decide +kernel
theorem dL_scepticCount_2 : decode cL_scepticCount 2 = .ok (.invokevirtual 84, 3) := by decide +kernel
theorem dL_scepticCount_5 : decode cL_scepticCount 5 = .ok (.ireturn, 1) := by decide +kernel
theorem dL_scepticCount_6 : decode cL_scepticCount 6 = .ok (.astore_n 2, 1) := by decide +kernel
theorem dL_scepticCount_7 : decode cL_scepticCount 7 = .ok (.iconst (-1), 1) := by decide +kernel
theorem dL_scepticCount_8 : decode cL_scepticCount 8 = .ok (.ireturn, 1) := by decide +kernel
theorem dL_countedHive_0 : decode cL_countedHive 0 = .ok (.aload_n 0, 1) := by decide +kernel
theorem dL_countedHive_1 : decode cL_countedHive 1 = .ok (.iload_n 1, 1) := by decide +kernel
theorem dL_countedHive_2 : decode cL_countedHive 2 = .ok (.invokevirtual 87, 3) := by decide +kernel
theorem dL_countedHive_5 : decode cL_countedHive 5 = .ok (.ireturn, 1) := by decide +kernel
theorem dL_countedHive_6 : decode cL_countedHive 6 = .ok (.astore_n 2, 1) := by decide +kernel
theorem dL_countedHive_7 : decode cL_countedHive 7 = .ok (.iconst (-1), 1) := by decide +kernel
theorem dL_countedHive_8 : decode cL_countedHive 8 = .ok (.ireturn, 1) := by decide +kernel
theorem dL_countedHive_9 : decode cL_countedHive 9 = .ok (.astore_n 2, 1) := by decide +kernel
theorem dL_countedHive_10 : decode cL_countedHive 10 = .ok (.bipush (-2), 2) := by decide +kernel
theorem dL_countedHive_12 : decode cL_countedHive 12 = .ok (.ireturn, 1) := by decide +kernel
theorem dL_spreadersInHive_0 : decode cL_spreadersInHive 0 = .ok (.aload_n 0, 1) := by decide +kernel
theorem dL_spreadersInHive_1 : decode cL_spreadersInHive 1 = .ok (.iload_n 1, 1) := by decide +kernel
theorem dL_spreadersInHive_2 : decode cL_spreadersInHive 2 = .ok (.iload_n 2, 1) := by decide +kernel
theorem dL_spreadersInHive_3 : decode cL_spreadersInHive 3 = .ok (.invokevirtual 90, 3) := by decide +kernel
theorem dL_spreadersInHive_6 : decode cL_spreadersInHive 6 = .ok (.ireturn, 1) := by decide +kernel
theorem dL_spreadersInHive_7 : decode cL_spreadersInHive 7 = .ok (.astore_n 3, 1) := by decide +kernel
theorem dL_spreadersInHive_8 : decode cL_spreadersInHive 8 = .ok (.iconst (-1), 1) := by decide +kernel
theorem dL_spreadersInHive_9 : decode cL_spreadersInHive 9 = .ok (.ireturn, 1) := by decide +kernel
theorem dL_distance_0 : decode cL_distance 0 = .ok (.aload_n 0, 1) := by decide +kernel
theorem dL_distance_1 : decode cL_distance 1 = .ok (.iload_n 1, 1) := by decide +kernel
theorem dL_distance_2 : decode cL_distance 2 = .ok (.iload_n 2, 1) := by decide +kernel
theorem dL_distance_3 : decode cL_distance 3 = .ok (.invokevirtual 93, 3) := by decide +kernel
theorem dL_distance_6 : decode cL_distance 6 = .ok (.ireturn, 1) := by decide +kernel
theorem dL_distance_7 : decode cL_distance 7 = .ok (.astore_n 3, 1) := by decide +kernel
theorem dL_distance_8 : decode cL_distance 8 = .ok (.iconst (-1), 1) := by decide +kernel
theorem dL_distance_9 : decode cL_distance 9 = .ok (.ireturn, 1) := by decide +kernel
theorem dL_distance_10 : decode cL_distance 10 = .ok (.astore_n 3, 1) := by decide +kernel
theorem dL_distance_11 : decode cL_distance 11 = .ok (.bipush (-2), 2) := by decide +kernel
theorem dL_distance_13 : decode cL_distance 13 = .ok (.ireturn, 1) := by decide +kernel
theorem dL_distanceByRelaxation_0 : decode cL_distanceByRelaxation 0 = .ok (.aload_n 0, 1) := by decide +kernel
theorem dL_distanceByRelaxation_1 : decode cL_distanceByRelaxation 1 = .ok (.iload_n 1, 1) := by decide +kernel
theorem dL_distanceByRelaxation_2 : decode cL_distanceByRelaxation 2 = .ok (.iload_n 2, 1) := by decide +kernel
theorem dL_distanceByRelaxation_3 : decode cL_distanceByRelaxation 3 = .ok (.invokevirtual 96, 3) := by decide +kernel
theorem dL_distanceByRelaxation_6 : decode cL_distanceByRelaxation 6 = .ok (.ireturn, 1) := by decide +kernel
theorem dL_distanceByRelaxation_7 : decode cL_distanceByRelaxation 7 = .ok (.astore_n 3, 1) := by decide +kernel
theorem dL_distanceByRelaxation_8 : decode cL_distanceByRelaxation 8 = .ok (.iconst (-1), 1) := by decide +kernel
theorem dL_distanceByRelaxation_9 : decode cL_distanceByRelaxation 9 = .ok (.ireturn, 1) := by decide +kernel
theorem dL_distanceByRelaxation_10 : decode cL_distanceByRelaxation 10 = .ok (.astore_n 3, 1) := by decide +kernel
theorem dL_distanceByRelaxation_11 : decode cL_distanceByRelaxation 11 = .ok (.bipush (-2), 2) := by decide +kernel
theorem dL_distanceByRelaxation_13 : decode cL_distanceByRelaxation 13 = .ok (.ireturn, 1) := by decide +kernel
theorem dL_nextSpreaders_0 : decode cL_nextSpreaders 0 = .ok (.aload_n 0, 1) := by decide +kernel
theorem dL_nextSpreaders_1 : decode cL_nextSpreaders 1 = .ok (.iload_n 1, 1) := by decide +kernel
theorem dL_nextSpreaders_2 : decode cL_nextSpreaders 2 = .ok (.invokevirtual 99, 3) := by decide +kernel
theorem dL_nextSpreaders_5 : decode cL_nextSpreaders 5 = .ok (.ireturn, 1) := by decide +kernel
theorem dL_nextSpreaders_6 : decode cL_nextSpreaders 6 = .ok (.astore_n 2, 1) := by decide +kernel
theorem dL_nextSpreaders_7 : decode cL_nextSpreaders 7 = .ok (.iconst (-1), 1) := by decide +kernel
theorem dL_nextSpreaders_8 : decode cL_nextSpreaders 8 = .ok (.ireturn, 1) := by decide +kernel
theorem dL_roundsUntilHeard_0 : decode cL_roundsUntilHeard 0 = .ok (.aload_n 0, 1) := by decide +kernel
theorem dL_roundsUntilHeard_1 : decode cL_roundsUntilHeard 1 = .ok (.iload_n 1, 1) := by decide +kernel
theorem dL_roundsUntilHeard_2 : decode cL_roundsUntilHeard 2 = .ok (.iload_n 2, 1) := by decide +kernel
theorem dL_roundsUntilHeard_3 : decode cL_roundsUntilHeard 3 = .ok (.invokevirtual 102, 3) := by decide +kernel
theorem dL_roundsUntilHeard_6 : decode cL_roundsUntilHeard 6 = .ok (.ireturn, 1) := by decide +kernel
theorem dL_roundsUntilHeard_7 : decode cL_roundsUntilHeard 7 = .ok (.astore_n 3, 1) := by decide +kernel
theorem dL_roundsUntilHeard_8 : decode cL_roundsUntilHeard 8 = .ok (.iconst (-1), 1) := by decide +kernel
theorem dL_roundsUntilHeard_9 : decode cL_roundsUntilHeard 9 = .ok (.ireturn, 1) := by decide +kernel
theorem dL_roundsUntilHeard_10 : decode cL_roundsUntilHeard 10 = .ok (.astore_n 3, 1) := by decide +kernel
theorem dL_roundsUntilHeard_11 : decode cL_roundsUntilHeard 11 = .ok (.bipush (-2), 2) := by decide +kernel
theorem dL_roundsUntilHeard_13 : decode cL_roundsUntilHeard 13 = .ok (.ireturn, 1) := by decide +kernel
theorem dL_roundsUntilHeard_14 : decode cL_roundsUntilHeard 14 = .ok (.astore_n 3, 1) := by decide +kernel
theorem dL_roundsUntilHeard_15 : decode cL_roundsUntilHeard 15 = .ok (.bipush (-3), 2) := by decide +kernel
theorem dL_roundsUntilHeard_17 : decode cL_roundsUntilHeard 17 = .ok (.ireturn, 1) := by decide +kernel
theorem dL_spreadersAfter_0 : decode cL_spreadersAfter 0 = .ok (.aload_n 0, 1) := by decide +kernel
theorem dL_spreadersAfter_1 : decode cL_spreadersAfter 1 = .ok (.iload_n 1, 1) := by decide +kernel
theorem dL_spreadersAfter_2 : decode cL_spreadersAfter 2 = .ok (.iload_n 2, 1) := by decide +kernel
theorem dL_spreadersAfter_3 : decode cL_spreadersAfter 3 = .ok (.invokevirtual 105, 3) := by decide +kernel
theorem dL_spreadersAfter_6 : decode cL_spreadersAfter 6 = .ok (.ireturn, 1) := by decide +kernel
theorem dL_spreadersAfter_7 : decode cL_spreadersAfter 7 = .ok (.astore_n 3, 1) := by decide +kernel
theorem dL_spreadersAfter_8 : decode cL_spreadersAfter 8 = .ok (.iconst (-1), 1) := by decide +kernel
theorem dL_spreadersAfter_9 : decode cL_spreadersAfter 9 = .ok (.ireturn, 1) := by decide +kernel
theorem dL_spreadersAfter_10 : decode cL_spreadersAfter 10 = .ok (.astore_n 3, 1) := by decide +kernel
theorem dL_spreadersAfter_11 : decode cL_spreadersAfter 11 = .ok (.bipush (-2), 2) := by decide +kernel
theorem dL_spreadersAfter_13 : decode cL_spreadersAfter 13 = .ok (.ireturn, 1) := by decide +kernel
theorem dL_rumourBySpread_0 : decode cL_rumourBySpread 0 = .ok (.aload_n 0, 1) := by decide +kernel
theorem dL_rumourBySpread_1 : decode cL_rumourBySpread 1 = .ok (.iload_n 1, 1) := by decide +kernel
theorem dL_rumourBySpread_2 : decode cL_rumourBySpread 2 = .ok (.invokevirtual 108, 3) := by decide +kernel
theorem dL_rumourBySpread_5 : decode cL_rumourBySpread 5 = .ok (.ireturn, 1) := by decide +kernel
theorem dL_rumourBySpread_6 : decode cL_rumourBySpread 6 = .ok (.astore_n 2, 1) := by decide +kernel
theorem dL_rumourBySpread_7 : decode cL_rumourBySpread 7 = .ok (.iconst (-1), 1) := by decide +kernel
theorem dL_rumourBySpread_8 : decode cL_rumourBySpread 8 = .ok (.ireturn, 1) := by decide +kernel
theorem dL_listenerByGossip_0 : decode cL_listenerByGossip 0 = .ok (.aload_n 0, 1) := by decide +kernel
theorem dL_listenerByGossip_1 : decode cL_listenerByGossip 1 = .ok (.iload_n 1, 1) := by decide +kernel
theorem dL_listenerByGossip_2 : decode cL_listenerByGossip 2 = .ok (.invokevirtual 111, 3) := by decide +kernel
theorem dL_listenerByGossip_5 : decode cL_listenerByGossip 5 = .ok (.ireturn, 1) := by decide +kernel
theorem dL_listenerByGossip_6 : decode cL_listenerByGossip 6 = .ok (.astore_n 2, 1) := by decide +kernel
theorem dL_listenerByGossip_7 : decode cL_listenerByGossip 7 = .ok (.iconst (-1), 1) := by decide +kernel
theorem dL_listenerByGossip_8 : decode cL_listenerByGossip 8 = .ok (.ireturn, 1) := by decide +kernel
theorem dL_meanDoubt_0 : decode cL_meanDoubt 0 = .ok (.aload_n 0, 1) := by decide +kernel
theorem dL_meanDoubt_1 : decode cL_meanDoubt 1 = .ok (.invokevirtual 114, 3) := by decide +kernel
theorem dL_meanDoubt_4 : decode cL_meanDoubt 4 = .ok (.dreturn, 1) := by decide +kernel
theorem dL_meanDoubt_5 : decode cL_meanDoubt 5 = .ok (.astore_n 1, 1) := by decide +kernel
theorem dL_meanDoubt_6 : decode cL_meanDoubt 6 = .ok (.ldc2_w 120, 3) := by decide +kernel
theorem dL_meanDoubt_9 : decode cL_meanDoubt 9 = .ok (.dreturn, 1) := by decide +kernel
theorem dL_gossipShare_0 : decode cL_gossipShare 0 = .ok (.aload_n 0, 1) := by decide +kernel
theorem dL_gossipShare_1 : decode cL_gossipShare 1 = .ok (.invokevirtual 122, 3) := by decide +kernel
theorem dL_gossipShare_4 : decode cL_gossipShare 4 = .ok (.freturn, 1) := by decide +kernel
theorem dL_gossipShare_5 : decode cL_gossipShare 5 = .ok (.astore_n 1, 1) := by decide +kernel
theorem dL_gossipShare_6 : decode cL_gossipShare 6 = .ok (.ldc 126, 2) := by decide +kernel
theorem dL_gossipShare_8 : decode cL_gossipShare 8 = .ok (.freturn, 1) := by decide +kernel
theorem dL_renderRumour_0 : decode cL_renderRumour 0 = .ok (.aload_n 0, 1) := by decide +kernel
theorem dL_renderRumour_1 : decode cL_renderRumour 1 = .ok (.iload_n 1, 1) := by decide +kernel
theorem dL_renderRumour_2 : decode cL_renderRumour 2 = .ok (.invokevirtual 127, 3) := by decide +kernel
theorem dL_renderRumour_5 : decode cL_renderRumour 5 = .ok (.ireturn, 1) := by decide +kernel
theorem dL_renderRumour_6 : decode cL_renderRumour 6 = .ok (.astore_n 2, 1) := by decide +kernel
theorem dL_renderRumour_7 : decode cL_renderRumour 7 = .ok (.iconst (-1), 1) := by decide +kernel
theorem dL_renderRumour_8 : decode cL_renderRumour 8 = .ok (.ireturn, 1) := by decide +kernel
theorem dL_renderHive_0 : decode cL_renderHive 0 = .ok (.aload_n 0, 1) := by decide +kernel
theorem dL_renderHive_1 : decode cL_renderHive 1 = .ok (.iload_n 1, 1) := by decide +kernel
theorem dL_renderHive_2 : decode cL_renderHive 2 = .ok (.invokevirtual 130, 3) := by decide +kernel
theorem dL_renderHive_5 : decode cL_renderHive 5 = .ok (.ireturn, 1) := by decide +kernel
theorem dL_renderHive_6 : decode cL_renderHive 6 = .ok (.astore_n 2, 1) := by decide +kernel
theorem dL_renderHive_7 : decode cL_renderHive 7 = .ok (.iconst (-1), 1) := by decide +kernel
theorem dL_renderHive_8 : decode cL_renderHive 8 = .ok (.ireturn, 1) := by decide +kernel
theorem dL_outputAt_0 : decode cL_outputAt 0 = .ok (.aload_n 0, 1) := by decide +kernel
theorem dL_outputAt_1 : decode cL_outputAt 1 = .ok (.iload_n 1, 1) := by decide +kernel
theorem dL_outputAt_2 : decode cL_outputAt 2 = .ok (.invokevirtual 133, 3) := by decide +kernel
theorem dL_outputAt_5 : decode cL_outputAt 5 = .ok (.ireturn, 1) := by decide +kernel
theorem dL_outputAt_6 : decode cL_outputAt 6 = .ok (.astore_n 2, 1) := by decide +kernel
theorem dL_outputAt_7 : decode cL_outputAt 7 = .ok (.iconst (-1), 1) := by decide +kernel
theorem dL_outputAt_8 : decode cL_outputAt 8 = .ok (.ireturn, 1) := by decide +kernel
theorem dL_type_0 : decode cL_type 0 = .ok (.aload_n 0, 1) := by decide +kernel
theorem dL_type_1 : decode cL_type 1 = .ok (.iload_n 1, 1) := by decide +kernel
theorem dL_type_2 : decode cL_type 2 = .ok (.invokevirtual 137, 3) := by decide +kernel
theorem dL_type_5 : decode cL_type 5 = .ok (.ireturn, 1) := by decide +kernel
theorem dL_type_6 : decode cL_type 6 = .ok (.astore_n 2, 1) := by decide +kernel
theorem dL_type_7 : decode cL_type 7 = .ok (.iconst (-1), 1) := by decide +kernel
theorem dL_type_8 : decode cL_type 8 = .ok (.ireturn, 1) := by decide +kernel
theorem dL_type_9 : decode cL_type 9 = .ok (.astore_n 2, 1) := by decide +kernel
theorem dL_type_10 : decode cL_type 10 = .ok (.bipush (-2), 2) := by decide +kernel
theorem dL_type_12 : decode cL_type 12 = .ok (.ireturn, 1) := by decide +kernel
theorem dL_runScript_0 : decode cL_runScript 0 = .ok (.aload_n 0, 1) := by decide +kernel
theorem dL_runScript_1 : decode cL_runScript 1 = .ok (.invokevirtual 141, 3) := by decide +kernel
theorem dL_runScript_4 : decode cL_runScript 4 = .ok (.ireturn, 1) := by decide +kernel
theorem dL_runScript_5 : decode cL_runScript 5 = .ok (.astore_n 1, 1) := by decide +kernel
theorem dL_runScript_6 : decode cL_runScript 6 = .ok (.iconst (-1), 1) := by decide +kernel
theorem dL_runScript_7 : decode cL_runScript 7 = .ok (.ireturn, 1) := by decide +kernel
theorem dL_runScript_8 : decode cL_runScript 8 = .ok (.astore_n 1, 1) := by decide +kernel
theorem dL_runScript_9 : decode cL_runScript 9 = .ok (.bipush (-2), 2) := by decide +kernel
theorem dL_runScript_11 : decode cL_runScript 11 = .ok (.ireturn, 1) := by decide +kernel
theorem dL_errorPosition_0 : decode cL_errorPosition 0 = .ok (.aload_n 0, 1) := by decide +kernel
theorem dL_errorPosition_1 : decode cL_errorPosition 1 = .ok (.invokevirtual 145, 3) := by decide +kernel
theorem dL_errorPosition_4 : decode cL_errorPosition 4 = .ok (.ireturn, 1) := by decide +kernel
theorem dL_errorPosition_5 : decode cL_errorPosition 5 = .ok (.astore_n 1, 1) := by decide +kernel
theorem dL_errorPosition_6 : decode cL_errorPosition 6 = .ok (.iconst (-1), 1) := by decide +kernel
theorem dL_errorPosition_7 : decode cL_errorPosition 7 = .ok (.ireturn, 1) := by decide +kernel
theorem dL_failedCommand_0 : decode cL_failedCommand 0 = .ok (.aload_n 0, 1) := by decide +kernel
theorem dL_failedCommand_1 : decode cL_failedCommand 1 = .ok (.invokevirtual 148, 3) := by decide +kernel
theorem dL_failedCommand_4 : decode cL_failedCommand 4 = .ok (.ireturn, 1) := by decide +kernel
theorem dL_failedCommand_5 : decode cL_failedCommand 5 = .ok (.astore_n 1, 1) := by decide +kernel
theorem dL_failedCommand_6 : decode cL_failedCommand 6 = .ok (.iconst (-1), 1) := by decide +kernel
theorem dL_failedCommand_7 : decode cL_failedCommand 7 = .ok (.ireturn, 1) := by decide +kernel
theorem dL_undo_0 : decode cL_undo 0 = .ok (.aload_n 0, 1) := by decide +kernel
theorem dL_undo_1 : decode cL_undo 1 = .ok (.invokevirtual 151, 3) := by decide +kernel
theorem dL_undo_4 : decode cL_undo 4 = .ok (.ireturn, 1) := by decide +kernel
theorem dL_undo_5 : decode cL_undo 5 = .ok (.astore_n 1, 1) := by decide +kernel
theorem dL_undo_6 : decode cL_undo 6 = .ok (.iconst (-1), 1) := by decide +kernel
theorem dL_undo_7 : decode cL_undo 7 = .ok (.ireturn, 1) := by decide +kernel
theorem dL_restore_0 : decode cL_restore 0 = .ok (.aload_n 0, 1) := by decide +kernel
theorem dL_restore_1 : decode cL_restore 1 = .ok (.invokevirtual 154, 3) := by decide +kernel
theorem dL_restore_4 : decode cL_restore 4 = .ok (.ireturn, 1) := by decide +kernel
theorem dL_restore_5 : decode cL_restore 5 = .ok (.astore_n 1, 1) := by decide +kernel
theorem dL_restore_6 : decode cL_restore 6 = .ok (.iconst (-1), 1) := by decide +kernel
theorem dL_restore_7 : decode cL_restore 7 = .ok (.ireturn, 1) := by decide +kernel
theorem dL_said_0 : decode cL_said 0 = .ok (.new 157, 3) := by decide +kernel
theorem dL_said_3 : decode cL_said 3 = .ok (.dup, 1) := by decide +kernel
theorem dL_said_4 : decode cL_said 4 = .ok (.invokespecial 159, 3) := by decide +kernel
theorem dL_said_7 : decode cL_said 7 = .ok (.astore_n 2, 1) := by decide +kernel
theorem dL_said_8 : decode cL_said 8 = .ok (.iconst 0, 1) := by decide +kernel
theorem dL_said_9 : decode cL_said 9 = .ok (.istore_n 3, 1) := by decide +kernel
theorem dL_said_10 : decode cL_said 10 = .ok (.iload_n 3, 1) := by decide +kernel
theorem dL_said_11 : decode cL_said 11 = .ok (.iload_n 1, 1) := by decide +kernel
theorem dL_said_12 : decode cL_said 12 = .ok (.if_icmp .ge 20, 3) := by decide +kernel
theorem dL_said_15 : decode cL_said 15 = .ok (.aload_n 2, 1) := by decide +kernel
theorem dL_said_16 : decode cL_said 16 = .ok (.aload_n 0, 1) := by decide +kernel
theorem dL_said_17 : decode cL_said 17 = .ok (.iload_n 3, 1) := by decide +kernel
theorem dL_said_18 : decode cL_said 18 = .ok (.invokestatic 160, 3) := by decide +kernel
theorem dL_said_21 : decode cL_said 21 = .ok (.i2c, 1) := by decide +kernel
theorem dL_said_22 : decode cL_said 22 = .ok (.invokevirtual 165, 3) := by decide +kernel
theorem dL_said_25 : decode cL_said 25 = .ok (.pop, 1) := by decide +kernel
theorem dL_said_26 : decode cL_said 26 = .ok (.iinc 3 1, 3) := by decide +kernel
theorem dL_said_29 : decode cL_said 29 = .ok (.goto (-19), 3) := by decide +kernel
theorem dL_said_32 : decode cL_said 32 = .ok (.aload_n 2, 1) := by decide +kernel
theorem dL_said_33 : decode cL_said 33 = .ok (.invokevirtual 169, 3) := by decide +kernel
theorem dL_said_36 : decode cL_said 36 = .ok (.areturn, 1) := by decide +kernel
theorem dL_some_0 : decode cL_some 0 = .ok (.aload_n 0, 1) := by decide +kernel
theorem dL_some_1 : decode cL_some 1 = .ok (.bipush 25, 2) := by decide +kernel
theorem dL_some_3 : decode cL_some 3 = .ok (.invokevirtual 184, 3) := by decide +kernel
theorem dL_some_6 : decode cL_some 6 = .ok (.ifCond .ne 7, 3) := by decide +kernel
theorem dL_some_9 : decode cL_some 9 = .ok (.iload_n 1, 1) := by decide +kernel
theorem dL_some_10 : decode cL_some 10 = .ok (.goto 12, 3) := by decide +kernel
theorem dL_some_13 : decode cL_some 13 = .ok (.aload_n 0, 1) := by decide +kernel
theorem dL_some_14 : decode cL_some 14 = .ok (.iconst 1, 1) := by decide +kernel
theorem dL_some_15 : decode cL_some 15 = .ok (.iload_n 1, 1) := by decide +kernel
theorem dL_some_16 : decode cL_some 16 = .ok (.invokestatic 189, 3) := by decide +kernel
theorem dL_some_19 : decode cL_some 19 = .ok (.invokevirtual 184, 3) := by decide +kernel
theorem dL_some_22 : decode cL_some 22 = .ok (.ireturn, 1) := by decide +kernel
theorem dL_acts_0 : decode cL_acts 0 = .ok (.aload_n 2, 1) := by decide +kernel
theorem dL_acts_1 : decode cL_acts 1 = .ok (.aload_n 0, 1) := by decide +kernel
theorem dL_acts_2 : decode cL_acts 2 = .ok (.invokevirtual 194, 3) := by decide +kernel
theorem dL_acts_5 : decode cL_acts 5 = .ok (.invokestatic 197, 3) := by decide +kernel
theorem dL_acts_8 : decode cL_acts 8 = .ok (.istore_n 3, 1) := by decide +kernel
theorem dL_acts_9 : decode cL_acts 9 = .ok (.aload_n 2, 1) := by decide +kernel
theorem dL_acts_10 : decode cL_acts 10 = .ok (.aload_n 0, 1) := by decide +kernel
theorem dL_acts_11 : decode cL_acts 11 = .ok (.invokevirtual 194, 3) := by decide +kernel
theorem dL_acts_14 : decode cL_acts 14 = .ok (.invokestatic 197, 3) := by decide +kernel
theorem dL_acts_17 : decode cL_acts 17 = .ok (.istore 4, 2) := by decide +kernel
theorem dL_acts_19 : decode cL_acts 19 = .ok (.aload_n 2, 1) := by decide +kernel
theorem dL_acts_20 : decode cL_acts 20 = .ok (.aload_n 0, 1) := by decide +kernel
theorem dL_acts_21 : decode cL_acts 21 = .ok (.invokevirtual 201, 3) := by decide +kernel
theorem dL_acts_24 : decode cL_acts 24 = .ok (.invokestatic 197, 3) := by decide +kernel
theorem dL_acts_27 : decode cL_acts 27 = .ok (.istore 5, 2) := by decide +kernel
theorem dL_acts_29 : decode cL_acts 29 = .ok (.iload_n 1, 1) := by decide +kernel
theorem dL_acts_30 : decode cL_acts 30 = .ok (.bipush 32, 2) := by decide +kernel
theorem dL_acts_32 : decode cL_acts 32 = .ok (.irem, 1) := by decide +kernel
theorem dL_acts_33 : decode cL_acts 33 = .ok (.tableswitch 248 0 26 #[123, 123, 123, 123, 153, 153, 153, 153, 153, 153, 153, 153, 161, 169, 169, 180, 180, 180, 180, 206, 206, 206, 206, 214, 214, 221, 221], 123) := by decide +kernel
theorem dL_acts_156 : decode cL_acts 156 = .ok (.aload_n 0, 1) := by decide +kernel
theorem dL_acts_157 : decode cL_acts 157 = .ok (.aload_n 2, 1) := by decide +kernel
theorem dL_acts_158 : decode cL_acts 158 = .ok (.iconst 4, 1) := by decide +kernel
theorem dL_acts_159 : decode cL_acts 159 = .ok (.invokestatic 197, 3) := by decide +kernel
theorem dL_acts_162 : decode cL_acts 162 = .ok (.aload_n 2, 1) := by decide +kernel
theorem dL_acts_163 : decode cL_acts 163 = .ok (.bipush 20, 2) := by decide +kernel
theorem dL_acts_165 : decode cL_acts 165 = .ok (.invokevirtual 184, 3) := by decide +kernel
theorem dL_acts_168 : decode cL_acts 168 = .ok (.ifCond .ne 8, 3) := by decide +kernel
theorem dL_acts_171 : decode cL_acts 171 = .ok (.bipush 10, 2) := by decide +kernel
theorem dL_acts_173 : decode cL_acts 173 = .ok (.goto 9, 3) := by decide +kernel
theorem dL_acts_176 : decode cL_acts 176 = .ok (.aload_n 2, 1) := by decide +kernel
theorem dL_acts_177 : decode cL_acts 177 = .ok (.bipush 10, 2) := by decide +kernel
theorem dL_acts_179 : decode cL_acts 179 = .ok (.invokevirtual 184, 3) := by decide +kernel
theorem dL_acts_182 : decode cL_acts 182 = .ok (.invokestatic 204, 3) := by decide +kernel
theorem dL_acts_185 : decode cL_acts 185 = .ok (.ireturn, 1) := by decide +kernel
theorem dL_acts_186 : decode cL_acts 186 = .ok (.aload_n 0, 1) := by decide +kernel
theorem dL_acts_187 : decode cL_acts 187 = .ok (.iload_n 3, 1) := by decide +kernel
theorem dL_acts_188 : decode cL_acts 188 = .ok (.iload 4, 2) := by decide +kernel
theorem dL_acts_190 : decode cL_acts 190 = .ok (.invokestatic 207, 3) := by decide +kernel
theorem dL_acts_193 : decode cL_acts 193 = .ok (.ireturn, 1) := by decide +kernel
theorem dL_acts_194 : decode cL_acts 194 = .ok (.aload_n 0, 1) := by decide +kernel
theorem dL_acts_195 : decode cL_acts 195 = .ok (.iload_n 3, 1) := by decide +kernel
theorem dL_acts_196 : decode cL_acts 196 = .ok (.iload 4, 2) := by decide +kernel
theorem dL_acts_198 : decode cL_acts 198 = .ok (.invokestatic 209, 3) := by decide +kernel
theorem dL_acts_201 : decode cL_acts 201 = .ok (.ireturn, 1) := by decide +kernel
theorem dL_acts_202 : decode cL_acts 202 = .ok (.aload_n 0, 1) := by decide +kernel
theorem dL_acts_203 : decode cL_acts 203 = .ok (.iload_n 3, 1) := by decide +kernel
theorem dL_acts_204 : decode cL_acts 204 = .ok (.aload_n 2, 1) := by decide +kernel
theorem dL_acts_205 : decode cL_acts 205 = .ok (.iconst 4, 1) := by decide +kernel
theorem dL_acts_206 : decode cL_acts 206 = .ok (.invokestatic 197, 3) := by decide +kernel
theorem dL_acts_209 : decode cL_acts 209 = .ok (.invokestatic 211, 3) := by decide +kernel
theorem dL_acts_212 : decode cL_acts 212 = .ok (.ireturn, 1) := by decide +kernel
theorem dL_acts_213 : decode cL_acts 213 = .ok (.aload_n 0, 1) := by decide +kernel
theorem dL_acts_214 : decode cL_acts 214 = .ok (.iload_n 3, 1) := by decide +kernel
theorem dL_acts_215 : decode cL_acts 215 = .ok (.aload_n 2, 1) := by decide +kernel
theorem dL_acts_216 : decode cL_acts 216 = .ok (.bipush 20, 2) := by decide +kernel
theorem dL_acts_218 : decode cL_acts 218 = .ok (.invokevirtual 184, 3) := by decide +kernel
theorem dL_acts_221 : decode cL_acts 221 = .ok (.ifCond .ne 8, 3) := by decide +kernel
theorem dL_acts_224 : decode cL_acts 224 = .ok (.bipush 10, 2) := by decide +kernel
theorem dL_acts_226 : decode cL_acts 226 = .ok (.goto 9, 3) := by decide +kernel
theorem dL_acts_229 : decode cL_acts 229 = .ok (.aload_n 2, 1) := by decide +kernel
theorem dL_acts_230 : decode cL_acts 230 = .ok (.bipush 10, 2) := by decide +kernel
theorem dL_acts_232 : decode cL_acts 232 = .ok (.invokevirtual 184, 3) := by decide +kernel
theorem dL_acts_235 : decode cL_acts 235 = .ok (.invokestatic 213, 3) := by decide +kernel
theorem dL_acts_238 : decode cL_acts 238 = .ok (.ireturn, 1) := by decide +kernel
theorem dL_acts_239 : decode cL_acts 239 = .ok (.aload_n 0, 1) := by decide +kernel
theorem dL_acts_240 : decode cL_acts 240 = .ok (.iload 5, 2) := by decide +kernel
theorem dL_acts_242 : decode cL_acts 242 = .ok (.iload_n 3, 1) := by decide +kernel
theorem dL_acts_243 : decode cL_acts 243 = .ok (.invokestatic 215, 3) := by decide +kernel
theorem dL_acts_246 : decode cL_acts 246 = .ok (.ireturn, 1) := by decide +kernel
theorem dL_acts_247 : decode cL_acts 247 = .ok (.aload_n 0, 1) := by decide +kernel
theorem dL_acts_248 : decode cL_acts 248 = .ok (.iload 5, 2) := by decide +kernel
theorem dL_acts_250 : decode cL_acts 250 = .ok (.invokestatic 217, 3) := by decide +kernel
theorem dL_acts_253 : decode cL_acts 253 = .ok (.ireturn, 1) := by decide +kernel
theorem dL_acts_254 : decode cL_acts 254 = .ok (.aload_n 0, 1) := by decide +kernel
theorem dL_acts_255 : decode cL_acts 255 = .ok (.iload 5, 2) := by decide +kernel
theorem dL_acts_257 : decode cL_acts 257 = .ok (.aload_n 2, 1) := by decide +kernel
theorem dL_acts_258 : decode cL_acts 258 = .ok (.bipush 20, 2) := by decide +kernel
theorem dL_acts_260 : decode cL_acts 260 = .ok (.invokevirtual 184, 3) := by decide +kernel
theorem dL_acts_263 : decode cL_acts 263 = .ok (.ifCond .ne 8, 3) := by decide +kernel
theorem dL_acts_266 : decode cL_acts 266 = .ok (.bipush 10, 2) := by decide +kernel
theorem dL_acts_268 : decode cL_acts 268 = .ok (.goto 9, 3) := by decide +kernel
theorem dL_acts_271 : decode cL_acts 271 = .ok (.aload_n 2, 1) := by decide +kernel
theorem dL_acts_272 : decode cL_acts 272 = .ok (.bipush 10, 2) := by decide +kernel
theorem dL_acts_274 : decode cL_acts 274 = .ok (.invokevirtual 184, 3) := by decide +kernel
theorem dL_acts_277 : decode cL_acts 277 = .ok (.invokestatic 219, 3) := by decide +kernel
theorem dL_acts_280 : decode cL_acts 280 = .ok (.ireturn, 1) := by decide +kernel
theorem dL_acts_281 : decode cL_acts 281 = .ok (.aload_n 0, 1) := by decide +kernel
theorem dL_acts_282 : decode cL_acts 282 = .ok (.aload_n 2, 1) := by decide +kernel
theorem dL_acts_283 : decode cL_acts 283 = .ok (.bipush 20, 2) := by decide +kernel
theorem dL_acts_285 : decode cL_acts 285 = .ok (.invokevirtual 184, 3) := by decide +kernel
theorem dL_acts_288 : decode cL_acts 288 = .ok (.ifCond .ne 8, 3) := by decide +kernel
theorem dL_acts_291 : decode cL_acts 291 = .ok (.bipush 21, 2) := by decide +kernel
theorem dL_acts_293 : decode cL_acts 293 = .ok (.goto 23, 3) := by decide +kernel
theorem dL_acts_296 : decode cL_acts 296 = .ok (.iconst 1, 1) := by decide +kernel
theorem dL_acts_297 : decode cL_acts 297 = .ok (.aload_n 2, 1) := by decide +kernel
theorem dL_acts_298 : decode cL_acts 298 = .ok (.aload_n 2, 1) := by decide +kernel
theorem dL_acts_299 : decode cL_acts 299 = .ok (.iconst 4, 1) := by decide +kernel
theorem dL_acts_300 : decode cL_acts 300 = .ok (.invokevirtual 184, 3) := by decide +kernel
theorem dL_acts_303 : decode cL_acts 303 = .ok (.ifCond .ne 8, 3) := by decide +kernel
theorem dL_acts_306 : decode cL_acts 306 = .ok (.bipush 8, 2) := by decide +kernel
theorem dL_acts_308 : decode cL_acts 308 = .ok (.goto 4, 3) := by decide +kernel
theorem dL_acts_311 : decode cL_acts 311 = .ok (.iconst 2, 1) := by decide +kernel
theorem dL_acts_312 : decode cL_acts 312 = .ok (.invokevirtual 184, 3) := by decide +kernel
theorem dL_acts_315 : decode cL_acts 315 = .ok (.iadd, 1) := by decide +kernel
theorem dL_acts_316 : decode cL_acts 316 = .ok (.invokestatic 221, 3) := by decide +kernel
theorem dL_acts_319 : decode cL_acts 319 = .ok (.ireturn, 1) := by decide +kernel
theorem dL_told_0 : decode cL_told 0 = .ok (.new 157, 3) := by decide +kernel
theorem dL_told_3 : decode cL_told 3 = .ok (.dup, 1) := by decide +kernel
theorem dL_told_4 : decode cL_told 4 = .ok (.invokespecial 159, 3) := by decide +kernel
theorem dL_told_7 : decode cL_told 7 = .ok (.astore_n 1, 1) := by decide +kernel
theorem dL_told_8 : decode cL_told 8 = .ok (.iconst 0, 1) := by decide +kernel
theorem dL_told_9 : decode cL_told 9 = .ok (.istore_n 2, 1) := by decide +kernel
theorem dL_told_10 : decode cL_told 10 = .ok (.iload_n 2, 1) := by decide +kernel
theorem dL_told_11 : decode cL_told 11 = .ok (.iconst 4, 1) := by decide +kernel
theorem dL_told_12 : decode cL_told 12 = .ok (.if_icmp .ge 28, 3) := by decide +kernel
theorem dL_told_15 : decode cL_told 15 = .ok (.aload_n 1, 1) := by decide +kernel
theorem dL_told_16 : decode cL_told 16 = .ok (.aload_n 0, 1) := by decide +kernel
theorem dL_told_17 : decode cL_told 17 = .ok (.aload_n 0, 1) := by decide +kernel
theorem dL_told_18 : decode cL_told 18 = .ok (.iload_n 2, 1) := by decide +kernel
theorem dL_told_19 : decode cL_told 19 = .ok (.invokestatic 223, 3) := by decide +kernel
theorem dL_told_22 : decode cL_told 22 = .ok (.invokestatic 225, 3) := by decide +kernel
theorem dL_told_25 : decode cL_told 25 = .ok (.invokevirtual 229, 3) := by decide +kernel
theorem dL_told_28 : decode cL_told 28 = .ok (.bipush 59, 2) := by decide +kernel
theorem dL_told_30 : decode cL_told 30 = .ok (.invokevirtual 165, 3) := by decide +kernel
theorem dL_told_33 : decode cL_told 33 = .ok (.pop, 1) := by decide +kernel
theorem dL_told_34 : decode cL_told 34 = .ok (.iinc 2 1, 3) := by decide +kernel
theorem dL_told_37 : decode cL_told 37 = .ok (.goto (-27), 3) := by decide +kernel
theorem dL_told_40 : decode cL_told 40 = .ok (.iconst 0, 1) := by decide +kernel
theorem dL_told_41 : decode cL_told 41 = .ok (.istore_n 2, 1) := by decide +kernel
theorem dL_told_42 : decode cL_told 42 = .ok (.iload_n 2, 1) := by decide +kernel
theorem dL_told_43 : decode cL_told 43 = .ok (.aload_n 0, 1) := by decide +kernel
theorem dL_told_44 : decode cL_told 44 = .ok (.invokevirtual 201, 3) := by decide +kernel
theorem dL_told_47 : decode cL_told 47 = .ok (.if_icmp .ge 68, 3) := by decide +kernel
theorem dL_told_50 : decode cL_told 50 = .ok (.aload_n 1, 1) := by decide +kernel
theorem dL_told_51 : decode cL_told 51 = .ok (.aload_n 0, 1) := by decide +kernel
theorem dL_told_52 : decode cL_told 52 = .ok (.aload_n 0, 1) := by decide +kernel
theorem dL_told_53 : decode cL_told 53 = .ok (.iload_n 2, 1) := by decide +kernel
theorem dL_told_54 : decode cL_told 54 = .ok (.invokestatic 232, 3) := by decide +kernel
theorem dL_told_57 : decode cL_told 57 = .ok (.invokestatic 225, 3) := by decide +kernel
theorem dL_told_60 : decode cL_told 60 = .ok (.invokevirtual 229, 3) := by decide +kernel
theorem dL_told_63 : decode cL_told 63 = .ok (.bipush 47, 2) := by decide +kernel
theorem dL_told_65 : decode cL_told 65 = .ok (.invokevirtual 165, 3) := by decide +kernel
theorem dL_told_68 : decode cL_told 68 = .ok (.aload_n 0, 1) := by decide +kernel
theorem dL_told_69 : decode cL_told 69 = .ok (.iload_n 2, 1) := by decide +kernel
theorem dL_told_70 : decode cL_told 70 = .ok (.invokestatic 234, 3) := by decide +kernel
theorem dL_told_73 : decode cL_told 73 = .ok (.invokevirtual 236, 3) := by decide +kernel
theorem dL_told_76 : decode cL_told 76 = .ok (.pop, 1) := by decide +kernel
theorem dL_told_77 : decode cL_told 77 = .ok (.iconst 0, 1) := by decide +kernel
theorem dL_told_78 : decode cL_told 78 = .ok (.istore_n 3, 1) := by decide +kernel
theorem dL_told_79 : decode cL_told 79 = .ok (.iload_n 3, 1) := by decide +kernel
theorem dL_told_80 : decode cL_told 80 = .ok (.aload_n 0, 1) := by decide +kernel
theorem dL_told_81 : decode cL_told 81 = .ok (.invokevirtual 194, 3) := by decide +kernel
theorem dL_told_84 : decode cL_told 84 = .ok (.if_icmp .ge 25, 3) := by decide +kernel
theorem dL_told_87 : decode cL_told 87 = .ok (.aload_n 1, 1) := by decide +kernel
theorem dL_told_88 : decode cL_told 88 = .ok (.bipush 44, 2) := by decide +kernel
theorem dL_told_90 : decode cL_told 90 = .ok (.invokevirtual 165, 3) := by decide +kernel
theorem dL_told_93 : decode cL_told 93 = .ok (.aload_n 0, 1) := by decide +kernel
theorem dL_told_94 : decode cL_told 94 = .ok (.iload_n 2, 1) := by decide +kernel
theorem dL_told_95 : decode cL_told 95 = .ok (.iload_n 3, 1) := by decide +kernel
theorem dL_told_96 : decode cL_told 96 = .ok (.invokestatic 239, 3) := by decide +kernel
theorem dL_told_99 : decode cL_told 99 = .ok (.invokevirtual 236, 3) := by decide +kernel
theorem dL_told_102 : decode cL_told 102 = .ok (.pop, 1) := by decide +kernel
theorem dL_told_103 : decode cL_told 103 = .ok (.iinc 3 1, 3) := by decide +kernel
theorem dL_told_106 : decode cL_told 106 = .ok (.goto (-27), 3) := by decide +kernel
theorem dL_told_109 : decode cL_told 109 = .ok (.iinc 2 1, 3) := by decide +kernel
theorem dL_told_112 : decode cL_told 112 = .ok (.goto (-70), 3) := by decide +kernel
theorem dL_told_115 : decode cL_told 115 = .ok (.iconst 0, 1) := by decide +kernel
theorem dL_told_116 : decode cL_told 116 = .ok (.istore_n 2, 1) := by decide +kernel
theorem dL_told_117 : decode cL_told 117 = .ok (.iload_n 2, 1) := by decide +kernel
theorem dL_told_118 : decode cL_told 118 = .ok (.aload_n 0, 1) := by decide +kernel
theorem dL_told_119 : decode cL_told 119 = .ok (.invokevirtual 194, 3) := by decide +kernel
theorem dL_told_122 : decode cL_told 122 = .ok (.if_icmp .ge 48, 3) := by decide +kernel
theorem dL_told_125 : decode cL_told 125 = .ok (.aload_n 1, 1) := by decide +kernel
theorem dL_told_126 : decode cL_told 126 = .ok (.bipush 59, 2) := by decide +kernel
theorem dL_told_128 : decode cL_told 128 = .ok (.invokevirtual 165, 3) := by decide +kernel
theorem dL_told_131 : decode cL_told 131 = .ok (.aload_n 0, 1) := by decide +kernel
theorem dL_told_132 : decode cL_told 132 = .ok (.iload_n 2, 1) := by decide +kernel
theorem dL_told_133 : decode cL_told 133 = .ok (.invokestatic 241, 3) := by decide +kernel
theorem dL_told_136 : decode cL_told 136 = .ok (.invokevirtual 236, 3) := by decide +kernel
theorem dL_told_139 : decode cL_told 139 = .ok (.pop, 1) := by decide +kernel
theorem dL_told_140 : decode cL_told 140 = .ok (.iconst 0, 1) := by decide +kernel
theorem dL_told_141 : decode cL_told 141 = .ok (.istore_n 3, 1) := by decide +kernel
theorem dL_told_142 : decode cL_told 142 = .ok (.iload_n 3, 1) := by decide +kernel
theorem dL_told_143 : decode cL_told 143 = .ok (.iload_n 2, 1) := by decide +kernel
theorem dL_told_144 : decode cL_told 144 = .ok (.if_icmp .ge 20, 3) := by decide +kernel
theorem dL_told_147 : decode cL_told 147 = .ok (.aload_n 1, 1) := by decide +kernel
theorem dL_told_148 : decode cL_told 148 = .ok (.aload_n 0, 1) := by decide +kernel
theorem dL_told_149 : decode cL_told 149 = .ok (.iload_n 2, 1) := by decide +kernel
theorem dL_told_150 : decode cL_told 150 = .ok (.iload_n 3, 1) := by decide +kernel
theorem dL_told_151 : decode cL_told 151 = .ok (.invokestatic 243, 3) := by decide +kernel
theorem dL_told_154 : decode cL_told 154 = .ok (.invokevirtual 236, 3) := by decide +kernel
theorem dL_told_157 : decode cL_told 157 = .ok (.pop, 1) := by decide +kernel
theorem dL_told_158 : decode cL_told 158 = .ok (.iinc 3 1, 3) := by decide +kernel
theorem dL_told_161 : decode cL_told 161 = .ok (.goto (-19), 3) := by decide +kernel
theorem dL_told_164 : decode cL_told 164 = .ok (.iinc 2 1, 3) := by decide +kernel
theorem dL_told_167 : decode cL_told 167 = .ok (.goto (-50), 3) := by decide +kernel
theorem dL_told_170 : decode cL_told 170 = .ok (.aload_n 1, 1) := by decide +kernel
theorem dL_told_171 : decode cL_told 171 = .ok (.bipush 47, 2) := by decide +kernel
theorem dL_told_173 : decode cL_told 173 = .ok (.invokevirtual 165, 3) := by decide +kernel
theorem dL_told_176 : decode cL_told 176 = .ok (.aload_n 0, 1) := by decide +kernel
theorem dL_told_177 : decode cL_told 177 = .ok (.invokevirtual 245, 3) := by decide +kernel
theorem dL_told_180 : decode cL_told 180 = .ok (.invokevirtual 236, 3) := by decide +kernel
theorem dL_told_183 : decode cL_told 183 = .ok (.bipush 44, 2) := by decide +kernel
theorem dL_told_185 : decode cL_told 185 = .ok (.invokevirtual 165, 3) := by decide +kernel
theorem dL_told_188 : decode cL_told 188 = .ok (.aload_n 0, 1) := by decide +kernel
theorem dL_told_189 : decode cL_told 189 = .ok (.invokevirtual 248, 3) := by decide +kernel
theorem dL_told_192 : decode cL_told 192 = .ok (.invokevirtual 236, 3) := by decide +kernel
theorem dL_told_195 : decode cL_told 195 = .ok (.bipush 44, 2) := by decide +kernel
theorem dL_told_197 : decode cL_told 197 = .ok (.invokevirtual 165, 3) := by decide +kernel
theorem dL_told_200 : decode cL_told 200 = .ok (.aload_n 0, 1) := by decide +kernel
theorem dL_told_201 : decode cL_told 201 = .ok (.invokevirtual 251, 3) := by decide +kernel
theorem dL_told_204 : decode cL_told 204 = .ok (.invokevirtual 236, 3) := by decide +kernel
theorem dL_told_207 : decode cL_told 207 = .ok (.invokevirtual 169, 3) := by decide +kernel
theorem dL_told_210 : decode cL_told 210 = .ok (.areturn, 1) := by decide +kernel
theorem dL_stock_0 : decode cL_stock 0 = .ok (.iconst 0, 1) := by decide +kernel
theorem dL_stock_1 : decode cL_stock 1 = .ok (.istore_n 1, 1) := by decide +kernel
theorem dL_stock_2 : decode cL_stock 2 = .ok (.iconst 0, 1) := by decide +kernel
theorem dL_stock_3 : decode cL_stock 3 = .ok (.istore_n 2, 1) := by decide +kernel
theorem dL_stock_4 : decode cL_stock 4 = .ok (.iload_n 2, 1) := by decide +kernel
theorem dL_stock_5 : decode cL_stock 5 = .ok (.bipush 6, 2) := by decide +kernel
theorem dL_stock_7 : decode cL_stock 7 = .ok (.if_icmp .ge 22, 3) := by decide +kernel
theorem dL_stock_10 : decode cL_stock 10 = .ok (.iload_n 1, 1) := by decide +kernel
theorem dL_stock_11 : decode cL_stock 11 = .ok (.aload_n 0, 1) := by decide +kernel
theorem dL_stock_12 : decode cL_stock 12 = .ok (.iload_n 2, 1) := by decide +kernel
theorem dL_stock_13 : decode cL_stock 13 = .ok (.iconst 3, 1) := by decide +kernel
theorem dL_stock_14 : decode cL_stock 14 = .ok (.irem, 1) := by decide +kernel
theorem dL_stock_15 : decode cL_stock 15 = .ok (.iconst 2, 1) := by decide +kernel
theorem dL_stock_16 : decode cL_stock 16 = .ok (.iload_n 2, 1) := by decide +kernel
theorem dL_stock_17 : decode cL_stock 17 = .ok (.iadd, 1) := by decide +kernel
theorem dL_stock_18 : decode cL_stock 18 = .ok (.invokestatic 204, 3) := by decide +kernel
theorem dL_stock_21 : decode cL_stock 21 = .ok (.iadd, 1) := by decide +kernel
theorem dL_stock_22 : decode cL_stock 22 = .ok (.istore_n 1, 1) := by decide +kernel
theorem dL_stock_23 : decode cL_stock 23 = .ok (.iinc 2 1, 3) := by decide +kernel
theorem dL_stock_26 : decode cL_stock 26 = .ok (.goto (-22), 3) := by decide +kernel
theorem dL_stock_29 : decode cL_stock 29 = .ok (.iload_n 1, 1) := by decide +kernel
theorem dL_stock_30 : decode cL_stock 30 = .ok (.aload_n 0, 1) := by decide +kernel
theorem dL_stock_31 : decode cL_stock 31 = .ok (.iconst 0, 1) := by decide +kernel
theorem dL_stock_32 : decode cL_stock 32 = .ok (.iconst 1, 1) := by decide +kernel
theorem dL_stock_33 : decode cL_stock 33 = .ok (.invokestatic 207, 3) := by decide +kernel
theorem dL_stock_36 : decode cL_stock 36 = .ok (.aload_n 0, 1) := by decide +kernel
theorem dL_stock_37 : decode cL_stock 37 = .ok (.iconst 1, 1) := by decide +kernel
theorem dL_stock_38 : decode cL_stock 38 = .ok (.iconst 2, 1) := by decide +kernel
theorem dL_stock_39 : decode cL_stock 39 = .ok (.invokestatic 207, 3) := by decide +kernel
theorem dL_stock_42 : decode cL_stock 42 = .ok (.iadd, 1) := by decide +kernel
theorem dL_stock_43 : decode cL_stock 43 = .ok (.aload_n 0, 1) := by decide +kernel
theorem dL_stock_44 : decode cL_stock 44 = .ok (.iconst 2, 1) := by decide +kernel
theorem dL_stock_45 : decode cL_stock 45 = .ok (.iconst 3, 1) := by decide +kernel
theorem dL_stock_46 : decode cL_stock 46 = .ok (.invokestatic 207, 3) := by decide +kernel
theorem dL_stock_49 : decode cL_stock 49 = .ok (.iadd, 1) := by decide +kernel
theorem dL_stock_50 : decode cL_stock 50 = .ok (.aload_n 0, 1) := by decide +kernel
theorem dL_stock_51 : decode cL_stock 51 = .ok (.iconst 0, 1) := by decide +kernel
theorem dL_stock_52 : decode cL_stock 52 = .ok (.iconst 4, 1) := by decide +kernel
theorem dL_stock_53 : decode cL_stock 53 = .ok (.invokestatic 207, 3) := by decide +kernel
theorem dL_stock_56 : decode cL_stock 56 = .ok (.iadd, 1) := by decide +kernel
theorem dL_stock_57 : decode cL_stock 57 = .ok (.aload_n 0, 1) := by decide +kernel
theorem dL_stock_58 : decode cL_stock 58 = .ok (.iconst 4, 1) := by decide +kernel
theorem dL_stock_59 : decode cL_stock 59 = .ok (.iconst 3, 1) := by decide +kernel
theorem dL_stock_60 : decode cL_stock 60 = .ok (.invokestatic 207, 3) := by decide +kernel
theorem dL_stock_63 : decode cL_stock 63 = .ok (.iadd, 1) := by decide +kernel
theorem dL_stock_64 : decode cL_stock 64 = .ok (.iadd, 1) := by decide +kernel
theorem dL_stock_65 : decode cL_stock 65 = .ok (.istore_n 1, 1) := by decide +kernel
theorem dL_stock_66 : decode cL_stock 66 = .ok (.iload_n 1, 1) := by decide +kernel
theorem dL_stock_67 : decode cL_stock 67 = .ok (.aload_n 0, 1) := by decide +kernel
theorem dL_stock_68 : decode cL_stock 68 = .ok (.iconst 0, 1) := by decide +kernel
theorem dL_stock_69 : decode cL_stock 69 = .ok (.iconst 3, 1) := by decide +kernel
theorem dL_stock_70 : decode cL_stock 70 = .ok (.invokestatic 213, 3) := by decide +kernel
theorem dL_stock_73 : decode cL_stock 73 = .ok (.iadd, 1) := by decide +kernel
theorem dL_stock_74 : decode cL_stock 74 = .ok (.aload_n 0, 1) := by decide +kernel
theorem dL_stock_75 : decode cL_stock 75 = .ok (.iconst 3, 1) := by decide +kernel
theorem dL_stock_76 : decode cL_stock 76 = .ok (.iconst 5, 1) := by decide +kernel
theorem dL_stock_77 : decode cL_stock 77 = .ok (.invokestatic 213, 3) := by decide +kernel
theorem dL_stock_80 : decode cL_stock 80 = .ok (.iadd, 1) := by decide +kernel
theorem dL_stock_81 : decode cL_stock 81 = .ok (.aload_n 0, 1) := by decide +kernel
theorem dL_stock_82 : decode cL_stock 82 = .ok (.iconst 2, 1) := by decide +kernel
theorem dL_stock_83 : decode cL_stock 83 = .ok (.invokestatic 221, 3) := by decide +kernel
theorem dL_stock_86 : decode cL_stock 86 = .ok (.iadd, 1) := by decide +kernel
theorem dL_stock_87 : decode cL_stock 87 = .ok (.aload_n 0, 1) := by decide +kernel
theorem dL_stock_88 : decode cL_stock 88 = .ok (.iconst 1, 1) := by decide +kernel
theorem dL_stock_89 : decode cL_stock 89 = .ok (.invokestatic 217, 3) := by decide +kernel
theorem dL_stock_92 : decode cL_stock 92 = .ok (.iadd, 1) := by decide +kernel
theorem dL_stock_93 : decode cL_stock 93 = .ok (.aload_n 0, 1) := by decide +kernel
theorem dL_stock_94 : decode cL_stock 94 = .ok (.iconst 1, 1) := by decide +kernel
theorem dL_stock_95 : decode cL_stock 95 = .ok (.iconst 4, 1) := by decide +kernel
theorem dL_stock_96 : decode cL_stock 96 = .ok (.invokestatic 219, 3) := by decide +kernel
theorem dL_stock_99 : decode cL_stock 99 = .ok (.iadd, 1) := by decide +kernel
theorem dL_stock_100 : decode cL_stock 100 = .ok (.aload_n 0, 1) := by decide +kernel
theorem dL_stock_101 : decode cL_stock 101 = .ok (.iconst 1, 1) := by decide +kernel
theorem dL_stock_102 : decode cL_stock 102 = .ok (.invokestatic 221, 3) := by decide +kernel
theorem dL_stock_105 : decode cL_stock 105 = .ok (.iadd, 1) := by decide +kernel
theorem dL_stock_106 : decode cL_stock 106 = .ok (.ireturn, 1) := by decide +kernel
theorem dL_listeners_0 : decode cL_listeners 0 = .ok (.aload_n 0, 1) := by decide +kernel
theorem dL_listeners_1 : decode cL_listeners 1 = .ok (.invokevirtual 194, 3) := by decide +kernel
theorem dL_listeners_4 : decode cL_listeners 4 = .ok (.istore_n 1, 1) := by decide +kernel
theorem dL_listeners_5 : decode cL_listeners 5 = .ok (.iconst 0, 1) := by decide +kernel
theorem dL_listeners_6 : decode cL_listeners 6 = .ok (.istore_n 2, 1) := by decide +kernel
theorem dL_listeners_7 : decode cL_listeners 7 = .ok (.iload_n 1, 1) := by decide +kernel
theorem dL_listeners_8 : decode cL_listeners 8 = .ok (.newarray .int, 2) := by decide +kernel
theorem dL_listeners_10 : decode cL_listeners 10 = .ok (.astore_n 3, 1) := by decide +kernel
theorem dL_listeners_11 : decode cL_listeners 11 = .ok (.iconst 4, 1) := by decide +kernel
theorem dL_listeners_12 : decode cL_listeners 12 = .ok (.newarray .int, 2) := by decide +kernel
theorem dL_listeners_14 : decode cL_listeners 14 = .ok (.astore 4, 2) := by decide +kernel
theorem dL_listeners_16 : decode cL_listeners 16 = .ok (.iconst 0, 1) := by decide +kernel
theorem dL_listeners_17 : decode cL_listeners 17 = .ok (.istore 5, 2) := by decide +kernel
theorem dL_listeners_19 : decode cL_listeners 19 = .ok (.iconst (-1), 1) := by decide +kernel
theorem dL_listeners_20 : decode cL_listeners 20 = .ok (.istore 6, 2) := by decide +kernel
theorem dL_listeners_22 : decode cL_listeners 22 = .ok (.iconst 0, 1) := by decide +kernel
theorem dL_listeners_23 : decode cL_listeners 23 = .ok (.istore 7, 2) := by decide +kernel
theorem dL_listeners_25 : decode cL_listeners 25 = .ok (.iload 7, 2) := by decide +kernel
theorem dL_listeners_27 : decode cL_listeners 27 = .ok (.iload_n 1, 1) := by decide +kernel
theorem dL_listeners_28 : decode cL_listeners 28 = .ok (.if_icmp .ge 39, 3) := by decide +kernel
theorem dL_listeners_31 : decode cL_listeners 31 = .ok (.aload_n 3, 1) := by decide +kernel
theorem dL_listeners_32 : decode cL_listeners 32 = .ok (.iload 7, 2) := by decide +kernel
theorem dL_listeners_34 : decode cL_listeners 34 = .ok (.iload 7, 2) := by decide +kernel
theorem dL_listeners_36 : decode cL_listeners 36 = .ok (.iastore, 1) := by decide +kernel
theorem dL_listeners_37 : decode cL_listeners 37 = .ok (.aload 4, 2) := by decide +kernel
theorem dL_listeners_39 : decode cL_listeners 39 = .ok (.aload_n 0, 1) := by decide +kernel
theorem dL_listeners_40 : decode cL_listeners 40 = .ok (.iload 7, 2) := by decide +kernel
theorem dL_listeners_42 : decode cL_listeners 42 = .ok (.invokestatic 254, 3) := by decide +kernel
theorem dL_listeners_45 : decode cL_listeners 45 = .ok (.dup2, 1) := by decide +kernel
theorem dL_listeners_46 : decode cL_listeners 46 = .ok (.iaload, 1) := by decide +kernel
theorem dL_listeners_47 : decode cL_listeners 47 = .ok (.iconst 1, 1) := by decide +kernel
theorem dL_listeners_48 : decode cL_listeners 48 = .ok (.iadd, 1) := by decide +kernel
theorem dL_listeners_49 : decode cL_listeners 49 = .ok (.iastore, 1) := by decide +kernel
theorem dL_listeners_50 : decode cL_listeners 50 = .ok (.iload 5, 2) := by decide +kernel
theorem dL_listeners_52 : decode cL_listeners 52 = .ok (.aload_n 0, 1) := by decide +kernel
theorem dL_listeners_53 : decode cL_listeners 53 = .ok (.iload 7, 2) := by decide +kernel
theorem dL_listeners_55 : decode cL_listeners 55 = .ok (.invokestatic 241, 3) := by decide +kernel
theorem dL_listeners_58 : decode cL_listeners 58 = .ok (.iadd, 1) := by decide +kernel
theorem dL_listeners_59 : decode cL_listeners 59 = .ok (.istore 5, 2) := by decide +kernel
theorem dL_listeners_61 : decode cL_listeners 61 = .ok (.iinc 7 1, 3) := by decide +kernel
theorem dL_listeners_64 : decode cL_listeners 64 = .ok (.goto (-39), 3) := by decide +kernel
theorem dL_listeners_67 : decode cL_listeners 67 = .ok (.iconst 0, 1) := by decide +kernel
theorem dL_listeners_68 : decode cL_listeners 68 = .ok (.istore 7, 2) := by decide +kernel
theorem dL_listeners_70 : decode cL_listeners 70 = .ok (.iload 7, 2) := by decide +kernel
theorem dL_listeners_72 : decode cL_listeners 72 = .ok (.iload_n 1, 1) := by decide +kernel
theorem dL_listeners_73 : decode cL_listeners 73 = .ok (.if_icmp .ge 166, 3) := by decide +kernel
theorem dL_listeners_76 : decode cL_listeners 76 = .ok (.iconst 0, 1) := by decide +kernel
theorem dL_listeners_77 : decode cL_listeners 77 = .ok (.istore 8, 2) := by decide +kernel
theorem dL_listeners_79 : decode cL_listeners 79 = .ok (.iload 8, 2) := by decide +kernel
theorem dL_listeners_81 : decode cL_listeners 81 = .ok (.iload_n 1, 1) := by decide +kernel
theorem dL_listeners_82 : decode cL_listeners 82 = .ok (.if_icmp .ge 151, 3) := by decide +kernel
theorem dL_listeners_85 : decode cL_listeners 85 = .ok (.iconst 0, 1) := by decide +kernel
theorem dL_listeners_86 : decode cL_listeners 86 = .ok (.istore 9, 2) := by decide +kernel
theorem dL_listeners_88 : decode cL_listeners 88 = .ok (.iconst 0, 1) := by decide +kernel
theorem dL_listeners_89 : decode cL_listeners 89 = .ok (.istore 10, 2) := by decide +kernel
theorem dL_listeners_91 : decode cL_listeners 91 = .ok (.iload 10, 2) := by decide +kernel
theorem dL_listeners_93 : decode cL_listeners 93 = .ok (.iload_n 1, 1) := by decide +kernel
theorem dL_listeners_94 : decode cL_listeners 94 = .ok (.if_icmp .ge 106, 3) := by decide +kernel
theorem dL_listeners_97 : decode cL_listeners 97 = .ok (.aload_n 0, 1) := by decide +kernel
theorem dL_listeners_98 : decode cL_listeners 98 = .ok (.iload 8, 2) := by decide +kernel
theorem dL_listeners_100 : decode cL_listeners 100 = .ok (.iload 10, 2) := by decide +kernel
theorem dL_listeners_102 : decode cL_listeners 102 = .ok (.invokestatic 243, 3) := by decide +kernel
theorem dL_listeners_105 : decode cL_listeners 105 = .ok (.iconst 1, 1) := by decide +kernel
theorem dL_listeners_106 : decode cL_listeners 106 = .ok (.if_icmp .ne 7, 3) := by decide +kernel
theorem dL_listeners_109 : decode cL_listeners 109 = .ok (.iconst 1, 1) := by decide +kernel
theorem dL_listeners_110 : decode cL_listeners 110 = .ok (.goto 4, 3) := by decide +kernel
theorem dL_listeners_113 : decode cL_listeners 113 = .ok (.iconst 0, 1) := by decide +kernel
theorem dL_listeners_114 : decode cL_listeners 114 = .ok (.istore 11, 2) := by decide +kernel
theorem dL_listeners_116 : decode cL_listeners 116 = .ok (.iload 9, 2) := by decide +kernel
theorem dL_listeners_118 : decode cL_listeners 118 = .ok (.iload 11, 2) := by decide +kernel
theorem dL_listeners_120 : decode cL_listeners 120 = .ok (.ifCond .eq 7, 3) := by decide +kernel
theorem dL_listeners_123 : decode cL_listeners 123 = .ok (.iconst 1, 1) := by decide +kernel
theorem dL_listeners_124 : decode cL_listeners 124 = .ok (.goto 4, 3) := by decide +kernel
theorem dL_listeners_127 : decode cL_listeners 127 = .ok (.iconst 0, 1) := by decide +kernel
theorem dL_listeners_128 : decode cL_listeners 128 = .ok (.iadd, 1) := by decide +kernel
theorem dL_listeners_129 : decode cL_listeners 129 = .ok (.istore 9, 2) := by decide +kernel
theorem dL_listeners_131 : decode cL_listeners 131 = .ok (.aload_n 3, 1) := by decide +kernel
theorem dL_listeners_132 : decode cL_listeners 132 = .ok (.iload 8, 2) := by decide +kernel
theorem dL_listeners_134 : decode cL_listeners 134 = .ok (.iload 11, 2) := by decide +kernel
theorem dL_listeners_136 : decode cL_listeners 136 = .ok (.ifCond .eq 17, 3) := by decide +kernel
theorem dL_listeners_139 : decode cL_listeners 139 = .ok (.aload_n 3, 1) := by decide +kernel
theorem dL_listeners_140 : decode cL_listeners 140 = .ok (.iload 8, 2) := by decide +kernel
theorem dL_listeners_142 : decode cL_listeners 142 = .ok (.iaload, 1) := by decide +kernel
theorem dL_listeners_143 : decode cL_listeners 143 = .ok (.aload_n 3, 1) := by decide +kernel
theorem dL_listeners_144 : decode cL_listeners 144 = .ok (.iload 10, 2) := by decide +kernel
theorem dL_listeners_146 : decode cL_listeners 146 = .ok (.iaload, 1) := by decide +kernel
theorem dL_listeners_147 : decode cL_listeners 147 = .ok (.invokestatic 256, 3) := by decide +kernel
theorem dL_listeners_150 : decode cL_listeners 150 = .ok (.goto 7, 3) := by decide +kernel
theorem dL_listeners_153 : decode cL_listeners 153 = .ok (.aload_n 3, 1) := by decide +kernel
theorem dL_listeners_154 : decode cL_listeners 154 = .ok (.iload 8, 2) := by decide +kernel
theorem dL_listeners_156 : decode cL_listeners 156 = .ok (.iaload, 1) := by decide +kernel
theorem dL_listeners_157 : decode cL_listeners 157 = .ok (.iastore, 1) := by decide +kernel
theorem dL_listeners_158 : decode cL_listeners 158 = .ok (.iload 11, 2) := by decide +kernel
theorem dL_listeners_160 : decode cL_listeners 160 = .ok (.aload_n 0, 1) := by decide +kernel
theorem dL_listeners_161 : decode cL_listeners 161 = .ok (.iload 10, 2) := by decide +kernel
theorem dL_listeners_163 : decode cL_listeners 163 = .ok (.iload 8, 2) := by decide +kernel
theorem dL_listeners_165 : decode cL_listeners 165 = .ok (.invokestatic 243, 3) := by decide +kernel
theorem dL_listeners_168 : decode cL_listeners 168 = .ok (.iconst 1, 1) := by decide +kernel
theorem dL_listeners_169 : decode cL_listeners 169 = .ok (.if_icmp .ne 7, 3) := by decide +kernel
theorem dL_listeners_172 : decode cL_listeners 172 = .ok (.iconst 1, 1) := by decide +kernel
theorem dL_listeners_173 : decode cL_listeners 173 = .ok (.goto 4, 3) := by decide +kernel
theorem dL_listeners_176 : decode cL_listeners 176 = .ok (.iconst 0, 1) := by decide +kernel
theorem dL_listeners_177 : decode cL_listeners 177 = .ok (.if_icmp .ne 15, 3) := by decide +kernel
theorem dL_listeners_180 : decode cL_listeners 180 = .ok (.iload 11, 2) := by decide +kernel
theorem dL_listeners_182 : decode cL_listeners 182 = .ok (.ifCond .eq 12, 3) := by decide +kernel
theorem dL_listeners_185 : decode cL_listeners 185 = .ok (.iload 10, 2) := by decide +kernel
theorem dL_listeners_187 : decode cL_listeners 187 = .ok (.iload 8, 2) := by decide +kernel
theorem dL_listeners_189 : decode cL_listeners 189 = .ok (.if_icmp .ne 5, 3) := by decide +kernel
theorem dL_listeners_192 : decode cL_listeners 192 = .ok (.iconst 0, 1) := by decide +kernel
theorem dL_listeners_193 : decode cL_listeners 193 = .ok (.ireturn, 1) := by decide +kernel
theorem dL_listeners_194 : decode cL_listeners 194 = .ok (.iinc 10 1, 3) := by decide +kernel
theorem dL_listeners_197 : decode cL_listeners 197 = .ok (.goto (-106), 3) := by decide +kernel
theorem dL_listeners_200 : decode cL_listeners 200 = .ok (.iload_n 2, 1) := by decide +kernel
theorem dL_listeners_201 : decode cL_listeners 201 = .ok (.iload 7, 2) := by decide +kernel
theorem dL_listeners_203 : decode cL_listeners 203 = .ok (.ifCond .ne 8, 3) := by decide +kernel
theorem dL_listeners_206 : decode cL_listeners 206 = .ok (.iload 9, 2) := by decide +kernel
theorem dL_listeners_208 : decode cL_listeners 208 = .ok (.goto 4, 3) := by decide +kernel
theorem dL_listeners_211 : decode cL_listeners 211 = .ok (.iconst 0, 1) := by decide +kernel
theorem dL_listeners_212 : decode cL_listeners 212 = .ok (.iadd, 1) := by decide +kernel
theorem dL_listeners_213 : decode cL_listeners 213 = .ok (.istore_n 2, 1) := by decide +kernel
theorem dL_listeners_214 : decode cL_listeners 214 = .ok (.aload_n 0, 1) := by decide +kernel
theorem dL_listeners_215 : decode cL_listeners 215 = .ok (.iload 8, 2) := by decide +kernel
theorem dL_listeners_217 : decode cL_listeners 217 = .ok (.invokestatic 259, 3) := by decide +kernel
theorem dL_listeners_220 : decode cL_listeners 220 = .ok (.iload 9, 2) := by decide +kernel
theorem dL_listeners_222 : decode cL_listeners 222 = .ok (.if_icmp .eq 5, 3) := by decide +kernel
theorem dL_listeners_225 : decode cL_listeners 225 = .ok (.iconst 0, 1) := by decide +kernel
theorem dL_listeners_226 : decode cL_listeners 226 = .ok (.ireturn, 1) := by decide +kernel
theorem dL_listeners_227 : decode cL_listeners 227 = .ok (.iinc 8 1, 3) := by decide +kernel
theorem dL_listeners_230 : decode cL_listeners 230 = .ok (.goto (-151), 3) := by decide +kernel
theorem dL_listeners_233 : decode cL_listeners 233 = .ok (.iinc 7 1, 3) := by decide +kernel
theorem dL_listeners_236 : decode cL_listeners 236 = .ok (.goto (-166), 3) := by decide +kernel
theorem dL_listeners_239 : decode cL_listeners 239 = .ok (.iconst 0, 1) := by decide +kernel
theorem dL_listeners_240 : decode cL_listeners 240 = .ok (.istore 7, 2) := by decide +kernel
theorem dL_listeners_242 : decode cL_listeners 242 = .ok (.iconst 0, 1) := by decide +kernel
theorem dL_listeners_243 : decode cL_listeners 243 = .ok (.istore 8, 2) := by decide +kernel
theorem dL_listeners_245 : decode cL_listeners 245 = .ok (.iconst 0, 1) := by decide +kernel
theorem dL_listeners_246 : decode cL_listeners 246 = .ok (.istore 9, 2) := by decide +kernel
theorem dL_listeners_248 : decode cL_listeners 248 = .ok (.iload 9, 2) := by decide +kernel
theorem dL_listeners_250 : decode cL_listeners 250 = .ok (.iload_n 1, 1) := by decide +kernel
theorem dL_listeners_251 : decode cL_listeners 251 = .ok (.if_icmp .ge 132, 3) := by decide +kernel
theorem dL_listeners_254 : decode cL_listeners 254 = .ok (.iload 7, 2) := by decide +kernel
theorem dL_listeners_256 : decode cL_listeners 256 = .ok (.aload_n 3, 1) := by decide +kernel
theorem dL_listeners_257 : decode cL_listeners 257 = .ok (.iload 9, 2) := by decide +kernel
theorem dL_listeners_259 : decode cL_listeners 259 = .ok (.iaload, 1) := by decide +kernel
theorem dL_listeners_260 : decode cL_listeners 260 = .ok (.iload 9, 2) := by decide +kernel
theorem dL_listeners_262 : decode cL_listeners 262 = .ok (.if_icmp .ne 7, 3) := by decide +kernel
theorem dL_listeners_265 : decode cL_listeners 265 = .ok (.iconst 1, 1) := by decide +kernel
theorem dL_listeners_266 : decode cL_listeners 266 = .ok (.goto 4, 3) := by decide +kernel
theorem dL_listeners_269 : decode cL_listeners 269 = .ok (.iconst 0, 1) := by decide +kernel
theorem dL_listeners_270 : decode cL_listeners 270 = .ok (.iadd, 1) := by decide +kernel
theorem dL_listeners_271 : decode cL_listeners 271 = .ok (.istore 7, 2) := by decide +kernel
theorem dL_listeners_273 : decode cL_listeners 273 = .ok (.iload 8, 2) := by decide +kernel
theorem dL_listeners_275 : decode cL_listeners 275 = .ok (.aload_n 0, 1) := by decide +kernel
theorem dL_listeners_276 : decode cL_listeners 276 = .ok (.iload 9, 2) := by decide +kernel
theorem dL_listeners_278 : decode cL_listeners 278 = .ok (.invokestatic 261, 3) := by decide +kernel
theorem dL_listeners_281 : decode cL_listeners 281 = .ok (.ifCond .le 7, 3) := by decide +kernel
theorem dL_listeners_284 : decode cL_listeners 284 = .ok (.iconst 1, 1) := by decide +kernel
theorem dL_listeners_285 : decode cL_listeners 285 = .ok (.goto 4, 3) := by decide +kernel
theorem dL_listeners_288 : decode cL_listeners 288 = .ok (.iconst 0, 1) := by decide +kernel
theorem dL_listeners_289 : decode cL_listeners 289 = .ok (.iadd, 1) := by decide +kernel
theorem dL_listeners_290 : decode cL_listeners 290 = .ok (.istore 8, 2) := by decide +kernel
theorem dL_listeners_292 : decode cL_listeners 292 = .ok (.aload_n 0, 1) := by decide +kernel
theorem dL_listeners_293 : decode cL_listeners 293 = .ok (.iload 9, 2) := by decide +kernel
theorem dL_listeners_295 : decode cL_listeners 295 = .ok (.invokestatic 264, 3) := by decide +kernel
theorem dL_listeners_298 : decode cL_listeners 298 = .ok (.istore 10, 2) := by decide +kernel
theorem dL_listeners_300 : decode cL_listeners 300 = .ok (.iload 6, 2) := by decide +kernel
theorem dL_listeners_302 : decode cL_listeners 302 = .ok (.ifCond .ge 7, 3) := by decide +kernel
theorem dL_listeners_305 : decode cL_listeners 305 = .ok (.iconst 1, 1) := by decide +kernel
theorem dL_listeners_306 : decode cL_listeners 306 = .ok (.goto 16, 3) := by decide +kernel
theorem dL_listeners_309 : decode cL_listeners 309 = .ok (.aload_n 0, 1) := by decide +kernel
theorem dL_listeners_310 : decode cL_listeners 310 = .ok (.iload 6, 2) := by decide +kernel
theorem dL_listeners_312 : decode cL_listeners 312 = .ok (.invokestatic 261, 3) := by decide +kernel
theorem dL_listeners_315 : decode cL_listeners 315 = .ok (.aload_n 0, 1) := by decide +kernel
theorem dL_listeners_316 : decode cL_listeners 316 = .ok (.iload 10, 2) := by decide +kernel
theorem dL_listeners_318 : decode cL_listeners 318 = .ok (.invokestatic 261, 3) := by decide +kernel
theorem dL_listeners_321 : decode cL_listeners 321 = .ok (.isub, 1) := by decide +kernel
theorem dL_listeners_322 : decode cL_listeners 322 = .ok (.istore 11, 2) := by decide +kernel
theorem dL_listeners_324 : decode cL_listeners 324 = .ok (.iload 11, 2) := by decide +kernel
theorem dL_listeners_326 : decode cL_listeners 326 = .ok (.ifCond .eq 8, 3) := by decide +kernel
theorem dL_listeners_329 : decode cL_listeners 329 = .ok (.iload 11, 2) := by decide +kernel
theorem dL_listeners_331 : decode cL_listeners 331 = .ok (.goto 16, 3) := by decide +kernel
theorem dL_listeners_334 : decode cL_listeners 334 = .ok (.aload_n 0, 1) := by decide +kernel
theorem dL_listeners_335 : decode cL_listeners 335 = .ok (.iload 10, 2) := by decide +kernel
theorem dL_listeners_337 : decode cL_listeners 337 = .ok (.invokestatic 241, 3) := by decide +kernel
theorem dL_listeners_340 : decode cL_listeners 340 = .ok (.aload_n 0, 1) := by decide +kernel
theorem dL_listeners_341 : decode cL_listeners 341 = .ok (.iload 6, 2) := by decide +kernel
theorem dL_listeners_343 : decode cL_listeners 343 = .ok (.invokestatic 241, 3) := by decide +kernel
theorem dL_listeners_346 : decode cL_listeners 346 = .ok (.isub, 1) := by decide +kernel
theorem dL_listeners_347 : decode cL_listeners 347 = .ok (.istore 11, 2) := by decide +kernel
theorem dL_listeners_349 : decode cL_listeners 349 = .ok (.iload 10, 2) := by decide +kernel
theorem dL_listeners_351 : decode cL_listeners 351 = .ok (.ifCond .lt 20, 3) := by decide +kernel
theorem dL_listeners_354 : decode cL_listeners 354 = .ok (.iload 11, 2) := by decide +kernel
theorem dL_listeners_356 : decode cL_listeners 356 = .ok (.ifCond .lt 15, 3) := by decide +kernel
theorem dL_listeners_359 : decode cL_listeners 359 = .ok (.iload 11, 2) := by decide +kernel
theorem dL_listeners_361 : decode cL_listeners 361 = .ok (.ifCond .ne 12, 3) := by decide +kernel
theorem dL_listeners_364 : decode cL_listeners 364 = .ok (.iload 10, 2) := by decide +kernel
theorem dL_listeners_366 : decode cL_listeners 366 = .ok (.iload 6, 2) := by decide +kernel
theorem dL_listeners_368 : decode cL_listeners 368 = .ok (.if_icmp .ge 5, 3) := by decide +kernel
theorem dL_listeners_371 : decode cL_listeners 371 = .ok (.iconst 0, 1) := by decide +kernel
theorem dL_listeners_372 : decode cL_listeners 372 = .ok (.ireturn, 1) := by decide +kernel
theorem dL_listeners_373 : decode cL_listeners 373 = .ok (.iload 10, 2) := by decide +kernel
theorem dL_listeners_375 : decode cL_listeners 375 = .ok (.istore 6, 2) := by decide +kernel
theorem dL_listeners_377 : decode cL_listeners 377 = .ok (.iinc 9 1, 3) := by decide +kernel
theorem dL_listeners_380 : decode cL_listeners 380 = .ok (.goto (-132), 3) := by decide +kernel
theorem dL_listeners_383 : decode cL_listeners 383 = .ok (.iconst 0, 1) := by decide +kernel
theorem dL_listeners_384 : decode cL_listeners 384 = .ok (.istore 9, 2) := by decide +kernel
theorem dL_listeners_386 : decode cL_listeners 386 = .ok (.iload 9, 2) := by decide +kernel
theorem dL_listeners_388 : decode cL_listeners 388 = .ok (.iconst 4, 1) := by decide +kernel
theorem dL_listeners_389 : decode cL_listeners 389 = .ok (.if_icmp .ge 128, 3) := by decide +kernel
theorem dL_listeners_392 : decode cL_listeners 392 = .ok (.new 157, 3) := by decide +kernel
theorem dL_listeners_395 : decode cL_listeners 395 = .ok (.dup, 1) := by decide +kernel
theorem dL_listeners_396 : decode cL_listeners 396 = .ok (.invokespecial 159, 3) := by decide +kernel
theorem dL_listeners_399 : decode cL_listeners 399 = .ok (.astore 10, 2) := by decide +kernel
theorem dL_listeners_401 : decode cL_listeners 401 = .ok (.iconst 0, 1) := by decide +kernel
theorem dL_listeners_402 : decode cL_listeners 402 = .ok (.istore 11, 2) := by decide +kernel
theorem dL_listeners_404 : decode cL_listeners 404 = .ok (.iload 11, 2) := by decide +kernel
theorem dL_listeners_406 : decode cL_listeners 406 = .ok (.iload_n 1, 1) := by decide +kernel
theorem dL_listeners_407 : decode cL_listeners 407 = .ok (.if_icmp .ge 67, 3) := by decide +kernel
theorem dL_listeners_410 : decode cL_listeners 410 = .ok (.aload 10, 2) := by decide +kernel
theorem dL_listeners_412 : decode cL_listeners 412 = .ok (.aload_n 0, 1) := by decide +kernel
theorem dL_listeners_413 : decode cL_listeners 413 = .ok (.iload 11, 2) := by decide +kernel
theorem dL_listeners_415 : decode cL_listeners 415 = .ok (.invokestatic 254, 3) := by decide +kernel
theorem dL_listeners_418 : decode cL_listeners 418 = .ok (.iload 9, 2) := by decide +kernel
theorem dL_listeners_420 : decode cL_listeners 420 = .ok (.if_icmp .ne 41, 3) := by decide +kernel
theorem dL_listeners_423 : decode cL_listeners 423 = .ok (.new 157, 3) := by decide +kernel
theorem dL_listeners_426 : decode cL_listeners 426 = .ok (.dup, 1) := by decide +kernel
theorem dL_listeners_427 : decode cL_listeners 427 = .ok (.invokespecial 159, 3) := by decide +kernel
theorem dL_listeners_430 : decode cL_listeners 430 = .ok (.aload 10, 2) := by decide +kernel
theorem dL_listeners_432 : decode cL_listeners 432 = .ok (.invokevirtual 266, 3) := by decide +kernel
theorem dL_listeners_435 : decode cL_listeners 435 = .ok (.ifCond .ne 9, 3) := by decide +kernel
theorem dL_listeners_438 : decode cL_listeners 438 = .ok (.ldc_w 267, 3) := by decide +kernel
theorem dL_listeners_441 : decode cL_listeners 441 = .ok (.goto 6, 3) := by decide +kernel
theorem dL_listeners_444 : decode cL_listeners 444 = .ok (.ldc_w 269, 3) := by decide +kernel
theorem dL_listeners_447 : decode cL_listeners 447 = .ok (.invokevirtual 229, 3) := by decide +kernel
theorem dL_listeners_450 : decode cL_listeners 450 = .ok (.iload 11, 2) := by decide +kernel
theorem dL_listeners_452 : decode cL_listeners 452 = .ok (.invokevirtual 236, 3) := by decide +kernel
theorem dL_listeners_455 : decode cL_listeners 455 = .ok (.invokevirtual 169, 3) := by decide +kernel
theorem dL_listeners_458 : decode cL_listeners 458 = .ok (.goto 6, 3) := by decide +kernel
theorem dL_listeners_461 : decode cL_listeners 461 = .ok (.ldc_w 267, 3) := by decide +kernel
theorem dL_listeners_464 : decode cL_listeners 464 = .ok (.invokevirtual 229, 3) := by decide +kernel
theorem dL_listeners_467 : decode cL_listeners 467 = .ok (.pop, 1) := by decide +kernel
theorem dL_listeners_468 : decode cL_listeners 468 = .ok (.iinc 11 1, 3) := by decide +kernel
theorem dL_listeners_471 : decode cL_listeners 471 = .ok (.goto (-67), 3) := by decide +kernel
theorem dL_listeners_474 : decode cL_listeners 474 = .ok (.aload_n 0, 1) := by decide +kernel
theorem dL_listeners_475 : decode cL_listeners 475 = .ok (.iload 9, 2) := by decide +kernel
theorem dL_listeners_477 : decode cL_listeners 477 = .ok (.invokestatic 271, 3) := by decide +kernel
theorem dL_listeners_480 : decode cL_listeners 480 = .ok (.aload 4, 2) := by decide +kernel
theorem dL_listeners_482 : decode cL_listeners 482 = .ok (.iload 9, 2) := by decide +kernel
theorem dL_listeners_484 : decode cL_listeners 484 = .ok (.iaload, 1) := by decide +kernel
theorem dL_listeners_485 : decode cL_listeners 485 = .ok (.if_icmp .ne 24, 3) := by decide +kernel
theorem dL_listeners_488 : decode cL_listeners 488 = .ok (.aload_n 0, 1) := by decide +kernel
theorem dL_listeners_489 : decode cL_listeners 489 = .ok (.aload_n 0, 1) := by decide +kernel
theorem dL_listeners_490 : decode cL_listeners 490 = .ok (.iload 9, 2) := by decide +kernel
theorem dL_listeners_492 : decode cL_listeners 492 = .ok (.invokestatic 223, 3) := by decide +kernel
theorem dL_listeners_495 : decode cL_listeners 495 = .ok (.invokestatic 225, 3) := by decide +kernel
theorem dL_listeners_498 : decode cL_listeners 498 = .ok (.aload 10, 2) := by decide +kernel
theorem dL_listeners_500 : decode cL_listeners 500 = .ok (.invokevirtual 169, 3) := by decide +kernel
theorem dL_listeners_503 : decode cL_listeners 503 = .ok (.invokevirtual 273, 3) := by decide +kernel
theorem dL_listeners_506 : decode cL_listeners 506 = .ok (.ifCond .ne 5, 3) := by decide +kernel
theorem dL_listeners_509 : decode cL_listeners 509 = .ok (.iconst 0, 1) := by decide +kernel
theorem dL_listeners_510 : decode cL_listeners 510 = .ok (.ireturn, 1) := by decide +kernel
theorem dL_listeners_511 : decode cL_listeners 511 = .ok (.iinc 9 1, 3) := by decide +kernel
theorem dL_listeners_514 : decode cL_listeners 514 = .ok (.goto (-128), 3) := by decide +kernel
theorem dL_listeners_517 : decode cL_listeners 517 = .ok (.iload_n 1, 1) := by decide +kernel
theorem dL_listeners_518 : decode cL_listeners 518 = .ok (.ifCond .ne 9, 3) := by decide +kernel
theorem dL_listeners_521 : decode cL_listeners 521 = .ok (.ldc2_w 120, 3) := by decide +kernel
theorem dL_listeners_524 : decode cL_listeners 524 = .ok (.goto 9, 3) := by decide +kernel
theorem dL_listeners_527 : decode cL_listeners 527 = .ok (.iload 5, 2) := by decide +kernel
theorem dL_listeners_529 : decode cL_listeners 529 = .ok (.i2d, 1) := by decide +kernel
theorem dL_listeners_530 : decode cL_listeners 530 = .ok (.iload_n 1, 1) := by decide +kernel
theorem dL_listeners_531 : decode cL_listeners 531 = .ok (.i2d, 1) := by decide +kernel
theorem dL_listeners_532 : decode cL_listeners 532 = .ok (.ddiv, 1) := by decide +kernel
theorem dL_listeners_533 : decode cL_listeners 533 = .ok (.dstore 9, 2) := by decide +kernel
theorem dL_listeners_535 : decode cL_listeners 535 = .ok (.iload_n 1, 1) := by decide +kernel
theorem dL_listeners_536 : decode cL_listeners 536 = .ok (.ifCond .ne 8, 3) := by decide +kernel
theorem dL_listeners_539 : decode cL_listeners 539 = .ok (.ldc 126, 2) := by decide +kernel
theorem dL_listeners_541 : decode cL_listeners 541 = .ok (.goto 9, 3) := by decide +kernel
theorem dL_listeners_544 : decode cL_listeners 544 = .ok (.iload 8, 2) := by decide +kernel
theorem dL_listeners_546 : decode cL_listeners 546 = .ok (.i2f, 1) := by decide +kernel
theorem dL_listeners_547 : decode cL_listeners 547 = .ok (.iload_n 1, 1) := by decide +kernel
theorem dL_listeners_548 : decode cL_listeners 548 = .ok (.i2f, 1) := by decide +kernel
theorem dL_listeners_549 : decode cL_listeners 549 = .ok (.fdiv, 1) := by decide +kernel
theorem dL_listeners_550 : decode cL_listeners 550 = .ok (.fstore 11, 2) := by decide +kernel
theorem dL_listeners_552 : decode cL_listeners 552 = .ok (.aload_n 0, 1) := by decide +kernel
theorem dL_listeners_553 : decode cL_listeners 553 = .ok (.invokestatic 277, 3) := by decide +kernel
theorem dL_listeners_556 : decode cL_listeners 556 = .ok (.dload 9, 2) := by decide +kernel
theorem dL_listeners_558 : decode cL_listeners 558 = .ok (.dcmp .l, 1) := by decide +kernel
theorem dL_listeners_559 : decode cL_listeners 559 = .ok (.ifCond .ne 17, 3) := by decide +kernel
theorem dL_listeners_562 : decode cL_listeners 562 = .ok (.aload_n 0, 1) := by decide +kernel
theorem dL_listeners_563 : decode cL_listeners 563 = .ok (.invokestatic 280, 3) := by decide +kernel
theorem dL_listeners_566 : decode cL_listeners 566 = .ok (.fload 11, 2) := by decide +kernel
theorem dL_listeners_568 : decode cL_listeners 568 = .ok (.fcmp .l, 1) := by decide +kernel
theorem dL_listeners_569 : decode cL_listeners 569 = .ok (.ifCond .ne 7, 3) := by decide +kernel
theorem dL_listeners_572 : decode cL_listeners 572 = .ok (.iconst 1, 1) := by decide +kernel
theorem dL_listeners_573 : decode cL_listeners 573 = .ok (.goto 4, 3) := by decide +kernel
theorem dL_listeners_576 : decode cL_listeners 576 = .ok (.iconst 0, 1) := by decide +kernel
theorem dL_listeners_577 : decode cL_listeners 577 = .ok (.istore 12, 2) := by decide +kernel
theorem dL_listeners_579 : decode cL_listeners 579 = .ok (.iload 12, 2) := by decide +kernel
theorem dL_listeners_581 : decode cL_listeners 581 = .ok (.ifCond .eq 75, 3) := by decide +kernel
theorem dL_listeners_584 : decode cL_listeners 584 = .ok (.aload_n 0, 1) := by decide +kernel
theorem dL_listeners_585 : decode cL_listeners 585 = .ok (.invokevirtual 283, 3) := by decide +kernel
theorem dL_listeners_588 : decode cL_listeners 588 = .ok (.iload_n 2, 1) := by decide +kernel
theorem dL_listeners_589 : decode cL_listeners 589 = .ok (.iconst 2, 1) := by decide +kernel
theorem dL_listeners_590 : decode cL_listeners 590 = .ok (.idiv, 1) := by decide +kernel
theorem dL_listeners_591 : decode cL_listeners 591 = .ok (.if_icmp .ne 65, 3) := by decide +kernel
theorem dL_listeners_594 : decode cL_listeners 594 = .ok (.aload_n 0, 1) := by decide +kernel
theorem dL_listeners_595 : decode cL_listeners 595 = .ok (.invokevirtual 286, 3) := by decide +kernel
theorem dL_listeners_598 : decode cL_listeners 598 = .ok (.iload 7, 2) := by decide +kernel
theorem dL_listeners_600 : decode cL_listeners 600 = .ok (.if_icmp .ne 56, 3) := by decide +kernel
theorem dL_listeners_603 : decode cL_listeners 603 = .ok (.aload_n 0, 1) := by decide +kernel
theorem dL_listeners_604 : decode cL_listeners 604 = .ok (.invokevirtual 289, 3) := by decide +kernel
theorem dL_listeners_607 : decode cL_listeners 607 = .ok (.iload 7, 2) := by decide +kernel
theorem dL_listeners_609 : decode cL_listeners 609 = .ok (.if_icmp .ne 47, 3) := by decide +kernel
theorem dL_listeners_612 : decode cL_listeners 612 = .ok (.iload_n 1, 1) := by decide +kernel
theorem dL_listeners_613 : decode cL_listeners 613 = .ok (.bipush 12, 2) := by decide +kernel
theorem dL_listeners_615 : decode cL_listeners 615 = .ok (.if_icmp .gt 41, 3) := by decide +kernel
theorem dL_listeners_618 : decode cL_listeners 618 = .ok (.aload_n 0, 1) := by decide +kernel
theorem dL_listeners_619 : decode cL_listeners 619 = .ok (.iload_n 1, 1) := by decide +kernel
theorem dL_listeners_620 : decode cL_listeners 620 = .ok (.invokestatic 254, 3) := by decide +kernel
theorem dL_listeners_623 : decode cL_listeners 623 = .ok (.iconst (-1), 1) := by decide +kernel
theorem dL_listeners_624 : decode cL_listeners 624 = .ok (.if_icmp .ne 32, 3) := by decide +kernel
theorem dL_listeners_627 : decode cL_listeners 627 = .ok (.aload_n 0, 1) := by decide +kernel
theorem dL_listeners_628 : decode cL_listeners 628 = .ok (.iconst 4, 1) := by decide +kernel
theorem dL_listeners_629 : decode cL_listeners 629 = .ok (.invokestatic 271, 3) := by decide +kernel
theorem dL_listeners_632 : decode cL_listeners 632 = .ok (.iconst (-1), 1) := by decide +kernel
theorem dL_listeners_633 : decode cL_listeners 633 = .ok (.if_icmp .ne 23, 3) := by decide +kernel
theorem dL_listeners_636 : decode cL_listeners 636 = .ok (.aload_n 0, 1) := by decide +kernel
theorem dL_listeners_637 : decode cL_listeners 637 = .ok (.iload_n 1, 1) := by decide +kernel
theorem dL_listeners_638 : decode cL_listeners 638 = .ok (.invokestatic 264, 3) := by decide +kernel
theorem dL_listeners_641 : decode cL_listeners 641 = .ok (.iconst (-1), 1) := by decide +kernel
theorem dL_listeners_642 : decode cL_listeners 642 = .ok (.if_icmp .ne 14, 3) := by decide +kernel
theorem dL_listeners_645 : decode cL_listeners 645 = .ok (.aload_n 0, 1) := by decide +kernel
theorem dL_listeners_646 : decode cL_listeners 646 = .ok (.invokevirtual 292, 3) := by decide +kernel
theorem dL_listeners_649 : decode cL_listeners 649 = .ok (.ifCond .eq 7, 3) := by decide +kernel
theorem dL_listeners_652 : decode cL_listeners 652 = .ok (.iconst 1, 1) := by decide +kernel
theorem dL_listeners_653 : decode cL_listeners 653 = .ok (.goto 4, 3) := by decide +kernel
theorem dL_listeners_656 : decode cL_listeners 656 = .ok (.iconst 0, 1) := by decide +kernel
theorem dL_listeners_657 : decode cL_listeners 657 = .ok (.ireturn, 1) := by decide +kernel
theorem dL_gossip_0 : decode cL_gossip 0 = .ok (.iconst 0, 1) := by decide +kernel
theorem dL_gossip_1 : decode cL_gossip 1 = .ok (.istore_n 2, 1) := by decide +kernel
theorem dL_gossip_2 : decode cL_gossip 2 = .ok (.iconst 0, 1) := by decide +kernel
theorem dL_gossip_3 : decode cL_gossip 3 = .ok (.istore_n 3, 1) := by decide +kernel
theorem dL_gossip_4 : decode cL_gossip 4 = .ok (.iload_n 3, 1) := by decide +kernel
theorem dL_gossip_5 : decode cL_gossip 5 = .ok (.aload_n 0, 1) := by decide +kernel
theorem dL_gossip_6 : decode cL_gossip 6 = .ok (.invokevirtual 201, 3) := by decide +kernel
theorem dL_gossip_9 : decode cL_gossip 9 = .ok (.if_icmp .ge 27, 3) := by decide +kernel
theorem dL_gossip_12 : decode cL_gossip 12 = .ok (.iload_n 2, 1) := by decide +kernel
theorem dL_gossip_13 : decode cL_gossip 13 = .ok (.aload_n 0, 1) := by decide +kernel
theorem dL_gossip_14 : decode cL_gossip 14 = .ok (.iload_n 3, 1) := by decide +kernel
theorem dL_gossip_15 : decode cL_gossip 15 = .ok (.iload_n 1, 1) := by decide +kernel
theorem dL_gossip_16 : decode cL_gossip 16 = .ok (.invokestatic 296, 3) := by decide +kernel
theorem dL_gossip_19 : decode cL_gossip 19 = .ok (.iconst 1, 1) := by decide +kernel
theorem dL_gossip_20 : decode cL_gossip 20 = .ok (.if_icmp .ne 7, 3) := by decide +kernel
theorem dL_gossip_23 : decode cL_gossip 23 = .ok (.iconst 1, 1) := by decide +kernel
theorem dL_gossip_24 : decode cL_gossip 24 = .ok (.goto 4, 3) := by decide +kernel
theorem dL_gossip_27 : decode cL_gossip 27 = .ok (.iconst 0, 1) := by decide +kernel
theorem dL_gossip_28 : decode cL_gossip 28 = .ok (.iadd, 1) := by decide +kernel
theorem dL_gossip_29 : decode cL_gossip 29 = .ok (.istore_n 2, 1) := by decide +kernel
theorem dL_gossip_30 : decode cL_gossip 30 = .ok (.iinc 3 1, 3) := by decide +kernel
theorem dL_gossip_33 : decode cL_gossip 33 = .ok (.goto (-29), 3) := by decide +kernel
theorem dL_gossip_36 : decode cL_gossip 36 = .ok (.iload_n 2, 1) := by decide +kernel
theorem dL_gossip_37 : decode cL_gossip 37 = .ok (.ireturn, 1) := by decide +kernel
theorem dL_rumours_0 : decode cL_rumours 0 = .ok (.aload_n 0, 1) := by decide +kernel
theorem dL_rumours_1 : decode cL_rumours 1 = .ok (.invokevirtual 194, 3) := by decide +kernel
theorem dL_rumours_4 : decode cL_rumours 4 = .ok (.istore_n 1, 1) := by decide +kernel
theorem dL_rumours_5 : decode cL_rumours 5 = .ok (.iconst (-1), 1) := by decide +kernel
theorem dL_rumours_6 : decode cL_rumours 6 = .ok (.istore_n 2, 1) := by decide +kernel
theorem dL_rumours_7 : decode cL_rumours 7 = .ok (.iconst 0, 1) := by decide +kernel
theorem dL_rumours_8 : decode cL_rumours 8 = .ok (.istore_n 3, 1) := by decide +kernel
theorem dL_rumours_9 : decode cL_rumours 9 = .ok (.iload_n 3, 1) := by decide +kernel
theorem dL_rumours_10 : decode cL_rumours 10 = .ok (.aload_n 0, 1) := by decide +kernel
theorem dL_rumours_11 : decode cL_rumours 11 = .ok (.invokevirtual 201, 3) := by decide +kernel
theorem dL_rumours_14 : decode cL_rumours 14 = .ok (.if_icmp .ge 634, 3) := by decide +kernel
theorem dL_rumours_17 : decode cL_rumours 17 = .ok (.bipush 6, 2) := by decide +kernel
theorem dL_rumours_19 : decode cL_rumours 19 = .ok (.newarray .int, 2) := by decide +kernel
theorem dL_rumours_21 : decode cL_rumours 21 = .ok (.astore 4, 2) := by decide +kernel
theorem dL_rumours_23 : decode cL_rumours 23 = .ok (.iconst (-1), 1) := by decide +kernel
theorem dL_rumours_24 : decode cL_rumours 24 = .ok (.istore 5, 2) := by decide +kernel
theorem dL_rumours_26 : decode cL_rumours 26 = .ok (.iconst 0, 1) := by decide +kernel
theorem dL_rumours_27 : decode cL_rumours 27 = .ok (.istore 6, 2) := by decide +kernel
theorem dL_rumours_29 : decode cL_rumours 29 = .ok (.new 157, 3) := by decide +kernel
theorem dL_rumours_32 : decode cL_rumours 32 = .ok (.dup, 1) := by decide +kernel
theorem dL_rumours_33 : decode cL_rumours 33 = .ok (.new 157, 3) := by decide +kernel
theorem dL_rumours_36 : decode cL_rumours 36 = .ok (.dup, 1) := by decide +kernel
theorem dL_rumours_37 : decode cL_rumours 37 = .ok (.invokespecial 159, 3) := by decide +kernel
theorem dL_rumours_40 : decode cL_rumours 40 = .ok (.ldc_w 298, 3) := by decide +kernel
theorem dL_rumours_43 : decode cL_rumours 43 = .ok (.invokevirtual 229, 3) := by decide +kernel
theorem dL_rumours_46 : decode cL_rumours 46 = .ok (.iload_n 3, 1) := by decide +kernel
theorem dL_rumours_47 : decode cL_rumours 47 = .ok (.invokevirtual 236, 3) := by decide +kernel
theorem dL_rumours_50 : decode cL_rumours 50 = .ok (.ldc_w 300, 3) := by decide +kernel
theorem dL_rumours_53 : decode cL_rumours 53 = .ok (.invokevirtual 229, 3) := by decide +kernel
theorem dL_rumours_56 : decode cL_rumours 56 = .ok (.aload_n 0, 1) := by decide +kernel
theorem dL_rumours_57 : decode cL_rumours 57 = .ok (.iload_n 3, 1) := by decide +kernel
theorem dL_rumours_58 : decode cL_rumours 58 = .ok (.invokestatic 302, 3) := by decide +kernel
theorem dL_rumours_61 : decode cL_rumours 61 = .ok (.invokevirtual 236, 3) := by decide +kernel
theorem dL_rumours_64 : decode cL_rumours 64 = .ok (.aload_n 0, 1) := by decide +kernel
theorem dL_rumours_65 : decode cL_rumours 65 = .ok (.iload_n 3, 1) := by decide +kernel
theorem dL_rumours_66 : decode cL_rumours 66 = .ok (.invokestatic 304, 3) := by decide +kernel
theorem dL_rumours_69 : decode cL_rumours 69 = .ok (.iconst 1, 1) := by decide +kernel
theorem dL_rumours_70 : decode cL_rumours 70 = .ok (.if_icmp .ne 9, 3) := by decide +kernel
theorem dL_rumours_73 : decode cL_rumours 73 = .ok (.ldc_w 267, 3) := by decide +kernel
theorem dL_rumours_76 : decode cL_rumours 76 = .ok (.goto 6, 3) := by decide +kernel
theorem dL_rumours_79 : decode cL_rumours 79 = .ok (.ldc_w 306, 3) := by decide +kernel
theorem dL_rumours_82 : decode cL_rumours 82 = .ok (.invokevirtual 229, 3) := by decide +kernel
theorem dL_rumours_85 : decode cL_rumours 85 = .ok (.invokevirtual 169, 3) := by decide +kernel
theorem dL_rumours_88 : decode cL_rumours 88 = .ok (.invokespecial 308, 3) := by decide +kernel
theorem dL_rumours_91 : decode cL_rumours 91 = .ok (.astore 7, 2) := by decide +kernel
theorem dL_rumours_93 : decode cL_rumours 93 = .ok (.iconst 0, 1) := by decide +kernel
theorem dL_rumours_94 : decode cL_rumours 94 = .ok (.istore 8, 2) := by decide +kernel
theorem dL_rumours_96 : decode cL_rumours 96 = .ok (.iload 8, 2) := by decide +kernel
theorem dL_rumours_98 : decode cL_rumours 98 = .ok (.iload_n 1, 1) := by decide +kernel
theorem dL_rumours_99 : decode cL_rumours 99 = .ok (.if_icmp .ge 290, 3) := by decide +kernel
theorem dL_rumours_102 : decode cL_rumours 102 = .ok (.aload_n 0, 1) := by decide +kernel
theorem dL_rumours_103 : decode cL_rumours 103 = .ok (.iload_n 3, 1) := by decide +kernel
theorem dL_rumours_104 : decode cL_rumours 104 = .ok (.iload 8, 2) := by decide +kernel
theorem dL_rumours_106 : decode cL_rumours 106 = .ok (.invokestatic 296, 3) := by decide +kernel
theorem dL_rumours_109 : decode cL_rumours 109 = .ok (.iconst 1, 1) := by decide +kernel
theorem dL_rumours_110 : decode cL_rumours 110 = .ok (.if_icmp .ne 7, 3) := by decide +kernel
theorem dL_rumours_113 : decode cL_rumours 113 = .ok (.iconst 1, 1) := by decide +kernel
theorem dL_rumours_114 : decode cL_rumours 114 = .ok (.goto 4, 3) := by decide +kernel
theorem dL_rumours_117 : decode cL_rumours 117 = .ok (.iconst 0, 1) := by decide +kernel
theorem dL_rumours_118 : decode cL_rumours 118 = .ok (.istore 9, 2) := by decide +kernel
theorem dL_rumours_120 : decode cL_rumours 120 = .ok (.aload_n 0, 1) := by decide +kernel
theorem dL_rumours_121 : decode cL_rumours 121 = .ok (.iload_n 3, 1) := by decide +kernel
theorem dL_rumours_122 : decode cL_rumours 122 = .ok (.iload 8, 2) := by decide +kernel
theorem dL_rumours_124 : decode cL_rumours 124 = .ok (.invokestatic 311, 3) := by decide +kernel
theorem dL_rumours_127 : decode cL_rumours 127 = .ok (.iconst 1, 1) := by decide +kernel
theorem dL_rumours_128 : decode cL_rumours 128 = .ok (.if_icmp .ne 7, 3) := by decide +kernel
theorem dL_rumours_131 : decode cL_rumours 131 = .ok (.iconst 1, 1) := by decide +kernel
theorem dL_rumours_132 : decode cL_rumours 132 = .ok (.goto 4, 3) := by decide +kernel
theorem dL_rumours_135 : decode cL_rumours 135 = .ok (.iconst 0, 1) := by decide +kernel
theorem dL_rumours_136 : decode cL_rumours 136 = .ok (.istore 10, 2) := by decide +kernel
theorem dL_rumours_138 : decode cL_rumours 138 = .ok (.iconst 0, 1) := by decide +kernel
theorem dL_rumours_139 : decode cL_rumours 139 = .ok (.istore 11, 2) := by decide +kernel
theorem dL_rumours_141 : decode cL_rumours 141 = .ok (.iconst 0, 1) := by decide +kernel
theorem dL_rumours_142 : decode cL_rumours 142 = .ok (.istore 12, 2) := by decide +kernel
theorem dL_rumours_144 : decode cL_rumours 144 = .ok (.iload 12, 2) := by decide +kernel
theorem dL_rumours_146 : decode cL_rumours 146 = .ok (.iload_n 1, 1) := by decide +kernel
theorem dL_rumours_147 : decode cL_rumours 147 = .ok (.if_icmp .ge 42, 3) := by decide +kernel
theorem dL_rumours_150 : decode cL_rumours 150 = .ok (.iload 11, 2) := by decide +kernel
theorem dL_rumours_152 : decode cL_rumours 152 = .ok (.aload_n 0, 1) := by decide +kernel
theorem dL_rumours_153 : decode cL_rumours 153 = .ok (.iload 8, 2) := by decide +kernel
theorem dL_rumours_155 : decode cL_rumours 155 = .ok (.iload 12, 2) := by decide +kernel
theorem dL_rumours_157 : decode cL_rumours 157 = .ok (.invokestatic 243, 3) := by decide +kernel
theorem dL_rumours_160 : decode cL_rumours 160 = .ok (.iconst 1, 1) := by decide +kernel
theorem dL_rumours_161 : decode cL_rumours 161 = .ok (.if_icmp .ne 18, 3) := by decide +kernel
theorem dL_rumours_164 : decode cL_rumours 164 = .ok (.aload_n 0, 1) := by decide +kernel
theorem dL_rumours_165 : decode cL_rumours 165 = .ok (.iload_n 3, 1) := by decide +kernel
theorem dL_rumours_166 : decode cL_rumours 166 = .ok (.iload 12, 2) := by decide +kernel
theorem dL_rumours_168 : decode cL_rumours 168 = .ok (.invokestatic 296, 3) := by decide +kernel
theorem dL_rumours_171 : decode cL_rumours 171 = .ok (.iconst 1, 1) := by decide +kernel
theorem dL_rumours_172 : decode cL_rumours 172 = .ok (.if_icmp .ne 7, 3) := by decide +kernel
theorem dL_rumours_175 : decode cL_rumours 175 = .ok (.iconst 1, 1) := by decide +kernel
theorem dL_rumours_176 : decode cL_rumours 176 = .ok (.goto 4, 3) := by decide +kernel
theorem dL_rumours_179 : decode cL_rumours 179 = .ok (.iconst 0, 1) := by decide +kernel
theorem dL_rumours_180 : decode cL_rumours 180 = .ok (.iadd, 1) := by decide +kernel
theorem dL_rumours_181 : decode cL_rumours 181 = .ok (.istore 11, 2) := by decide +kernel
theorem dL_rumours_183 : decode cL_rumours 183 = .ok (.iinc 12 1, 3) := by decide +kernel
theorem dL_rumours_186 : decode cL_rumours 186 = .ok (.goto (-42), 3) := by decide +kernel
theorem dL_rumours_189 : decode cL_rumours 189 = .ok (.aload 4, 2) := by decide +kernel
theorem dL_rumours_191 : decode cL_rumours 191 = .ok (.aload_n 0, 1) := by decide +kernel
theorem dL_rumours_192 : decode cL_rumours 192 = .ok (.iload 8, 2) := by decide +kernel
theorem dL_rumours_194 : decode cL_rumours 194 = .ok (.invokestatic 254, 3) := by decide +kernel
theorem dL_rumours_197 : decode cL_rumours 197 = .ok (.dup2, 1) := by decide +kernel
theorem dL_rumours_198 : decode cL_rumours 198 = .ok (.iaload, 1) := by decide +kernel
theorem dL_rumours_199 : decode cL_rumours 199 = .ok (.iload 9, 2) := by decide +kernel
theorem dL_rumours_201 : decode cL_rumours 201 = .ok (.ifCond .eq 7, 3) := by decide +kernel
theorem dL_rumours_204 : decode cL_rumours 204 = .ok (.iconst 1, 1) := by decide +kernel
theorem dL_rumours_205 : decode cL_rumours 205 = .ok (.goto 4, 3) := by decide +kernel
theorem dL_rumours_208 : decode cL_rumours 208 = .ok (.iconst 0, 1) := by decide +kernel
theorem dL_rumours_209 : decode cL_rumours 209 = .ok (.iadd, 1) := by decide +kernel
theorem dL_rumours_210 : decode cL_rumours 210 = .ok (.iastore, 1) := by decide +kernel
theorem dL_rumours_211 : decode cL_rumours 211 = .ok (.aload 4, 2) := by decide +kernel
theorem dL_rumours_213 : decode cL_rumours 213 = .ok (.iconst 4, 1) := by decide +kernel
theorem dL_rumours_214 : decode cL_rumours 214 = .ok (.dup2, 1) := by decide +kernel
theorem dL_rumours_215 : decode cL_rumours 215 = .ok (.iaload, 1) := by decide +kernel
theorem dL_rumours_216 : decode cL_rumours 216 = .ok (.iload 9, 2) := by decide +kernel
theorem dL_rumours_218 : decode cL_rumours 218 = .ok (.ifCond .eq 7, 3) := by decide +kernel
theorem dL_rumours_221 : decode cL_rumours 221 = .ok (.iconst 1, 1) := by decide +kernel
theorem dL_rumours_222 : decode cL_rumours 222 = .ok (.goto 4, 3) := by decide +kernel
theorem dL_rumours_225 : decode cL_rumours 225 = .ok (.iconst 0, 1) := by decide +kernel
theorem dL_rumours_226 : decode cL_rumours 226 = .ok (.iadd, 1) := by decide +kernel
theorem dL_rumours_227 : decode cL_rumours 227 = .ok (.iastore, 1) := by decide +kernel
theorem dL_rumours_228 : decode cL_rumours 228 = .ok (.aload 4, 2) := by decide +kernel
theorem dL_rumours_230 : decode cL_rumours 230 = .ok (.iconst 5, 1) := by decide +kernel
theorem dL_rumours_231 : decode cL_rumours 231 = .ok (.dup2, 1) := by decide +kernel
theorem dL_rumours_232 : decode cL_rumours 232 = .ok (.iaload, 1) := by decide +kernel
theorem dL_rumours_233 : decode cL_rumours 233 = .ok (.iload 10, 2) := by decide +kernel
theorem dL_rumours_235 : decode cL_rumours 235 = .ok (.ifCond .eq 7, 3) := by decide +kernel
theorem dL_rumours_238 : decode cL_rumours 238 = .ok (.iconst 1, 1) := by decide +kernel
theorem dL_rumours_239 : decode cL_rumours 239 = .ok (.goto 4, 3) := by decide +kernel
theorem dL_rumours_242 : decode cL_rumours 242 = .ok (.iconst 0, 1) := by decide +kernel
theorem dL_rumours_243 : decode cL_rumours 243 = .ok (.iadd, 1) := by decide +kernel
theorem dL_rumours_244 : decode cL_rumours 244 = .ok (.iastore, 1) := by decide +kernel
theorem dL_rumours_245 : decode cL_rumours 245 = .ok (.iload 9, 2) := by decide +kernel
theorem dL_rumours_247 : decode cL_rumours 247 = .ok (.ifCond .ne 12, 3) := by decide +kernel
theorem dL_rumours_250 : decode cL_rumours 250 = .ok (.iload 10, 2) := by decide +kernel
theorem dL_rumours_252 : decode cL_rumours 252 = .ok (.ifCond .ne 7, 3) := by decide +kernel
theorem dL_rumours_255 : decode cL_rumours 255 = .ok (.iconst 1, 1) := by decide +kernel
theorem dL_rumours_256 : decode cL_rumours 256 = .ok (.goto 4, 3) := by decide +kernel
theorem dL_rumours_259 : decode cL_rumours 259 = .ok (.iconst 0, 1) := by decide +kernel
theorem dL_rumours_260 : decode cL_rumours 260 = .ok (.istore 12, 2) := by decide +kernel
theorem dL_rumours_262 : decode cL_rumours 262 = .ok (.iload 6, 2) := by decide +kernel
theorem dL_rumours_264 : decode cL_rumours 264 = .ok (.iload 12, 2) := by decide +kernel
theorem dL_rumours_266 : decode cL_rumours 266 = .ok (.ifCond .eq 38, 3) := by decide +kernel
theorem dL_rumours_269 : decode cL_rumours 269 = .ok (.iload 11, 2) := by decide +kernel
theorem dL_rumours_271 : decode cL_rumours 271 = .ok (.ifCond .le 33, 3) := by decide +kernel
theorem dL_rumours_274 : decode cL_rumours 274 = .ok (.aload_n 0, 1) := by decide +kernel
theorem dL_rumours_275 : decode cL_rumours 275 = .ok (.iload_n 3, 1) := by decide +kernel
theorem dL_rumours_276 : decode cL_rumours 276 = .ok (.invokestatic 302, 3) := by decide +kernel
theorem dL_rumours_279 : decode cL_rumours 279 = .ok (.iload 11, 2) := by decide +kernel
theorem dL_rumours_281 : decode cL_rumours 281 = .ok (.iadd, 1) := by decide +kernel
theorem dL_rumours_282 : decode cL_rumours 282 = .ok (.aload_n 0, 1) := by decide +kernel
theorem dL_rumours_283 : decode cL_rumours 283 = .ok (.iload 8, 2) := by decide +kernel
theorem dL_rumours_285 : decode cL_rumours 285 = .ok (.invokestatic 241, 3) := by decide +kernel
theorem dL_rumours_288 : decode cL_rumours 288 = .ok (.if_icmp .le 16, 3) := by decide +kernel
theorem dL_rumours_291 : decode cL_rumours 291 = .ok (.aload_n 0, 1) := by decide +kernel
theorem dL_rumours_292 : decode cL_rumours 292 = .ok (.iload_n 3, 1) := by decide +kernel
theorem dL_rumours_293 : decode cL_rumours 293 = .ok (.invokestatic 304, 3) := by decide +kernel
theorem dL_rumours_296 : decode cL_rumours 296 = .ok (.iconst 1, 1) := by decide +kernel
theorem dL_rumours_297 : decode cL_rumours 297 = .ok (.if_icmp .ne 7, 3) := by decide +kernel
theorem dL_rumours_300 : decode cL_rumours 300 = .ok (.iconst 1, 1) := by decide +kernel
theorem dL_rumours_301 : decode cL_rumours 301 = .ok (.goto 4, 3) := by decide +kernel
theorem dL_rumours_304 : decode cL_rumours 304 = .ok (.iconst 0, 1) := by decide +kernel
theorem dL_rumours_305 : decode cL_rumours 305 = .ok (.iadd, 1) := by decide +kernel
theorem dL_rumours_306 : decode cL_rumours 306 = .ok (.istore 6, 2) := by decide +kernel
theorem dL_rumours_308 : decode cL_rumours 308 = .ok (.aload 7, 2) := by decide +kernel
theorem dL_rumours_310 : decode cL_rumours 310 = .ok (.iload 9, 2) := by decide +kernel
theorem dL_rumours_312 : decode cL_rumours 312 = .ok (.ifCond .eq 8, 3) := by decide +kernel
theorem dL_rumours_315 : decode cL_rumours 315 = .ok (.bipush 43, 2) := by decide +kernel
theorem dL_rumours_317 : decode cL_rumours 317 = .ok (.goto 15, 3) := by decide +kernel
theorem dL_rumours_320 : decode cL_rumours 320 = .ok (.iload 10, 2) := by decide +kernel
theorem dL_rumours_322 : decode cL_rumours 322 = .ok (.ifCond .eq 8, 3) := by decide +kernel
theorem dL_rumours_325 : decode cL_rumours 325 = .ok (.bipush 45, 2) := by decide +kernel
theorem dL_rumours_327 : decode cL_rumours 327 = .ok (.goto 5, 3) := by decide +kernel
theorem dL_rumours_330 : decode cL_rumours 330 = .ok (.bipush 46, 2) := by decide +kernel
theorem dL_rumours_332 : decode cL_rumours 332 = .ok (.invokevirtual 165, 3) := by decide +kernel
theorem dL_rumours_335 : decode cL_rumours 335 = .ok (.pop, 1) := by decide +kernel
theorem dL_rumours_336 : decode cL_rumours 336 = .ok (.aload_n 0, 1) := by decide +kernel
theorem dL_rumours_337 : decode cL_rumours 337 = .ok (.iload_n 3, 1) := by decide +kernel
theorem dL_rumours_338 : decode cL_rumours 338 = .ok (.iload 8, 2) := by decide +kernel
theorem dL_rumours_340 : decode cL_rumours 340 = .ok (.invokestatic 239, 3) := by decide +kernel
theorem dL_rumours_343 : decode cL_rumours 343 = .ok (.istore 13, 2) := by decide +kernel
theorem dL_rumours_345 : decode cL_rumours 345 = .ok (.iload 9, 2) := by decide +kernel
theorem dL_rumours_347 : decode cL_rumours 347 = .ok (.ifCond .eq 8, 3) := by decide +kernel
theorem dL_rumours_350 : decode cL_rumours 350 = .ok (.iload 10, 2) := by decide +kernel
theorem dL_rumours_352 : decode cL_rumours 352 = .ok (.ifCond .ne 29, 3) := by decide +kernel
theorem dL_rumours_355 : decode cL_rumours 355 = .ok (.iload 13, 2) := by decide +kernel
theorem dL_rumours_357 : decode cL_rumours 357 = .ok (.bipush (-2), 2) := by decide +kernel
theorem dL_rumours_359 : decode cL_rumours 359 = .ok (.if_icmp .ne 7, 3) := by decide +kernel
theorem dL_rumours_362 : decode cL_rumours 362 = .ok (.iconst 1, 1) := by decide +kernel
theorem dL_rumours_363 : decode cL_rumours 363 = .ok (.goto 4, 3) := by decide +kernel
theorem dL_rumours_366 : decode cL_rumours 366 = .ok (.iconst 0, 1) := by decide +kernel
theorem dL_rumours_367 : decode cL_rumours 367 = .ok (.iload 12, 2) := by decide +kernel
theorem dL_rumours_369 : decode cL_rumours 369 = .ok (.if_icmp .ne 12, 3) := by decide +kernel
theorem dL_rumours_372 : decode cL_rumours 372 = .ok (.iload 13, 2) := by decide +kernel
theorem dL_rumours_374 : decode cL_rumours 374 = .ok (.aload_n 0, 1) := by decide +kernel
theorem dL_rumours_375 : decode cL_rumours 375 = .ok (.invokevirtual 245, 3) := by decide +kernel
theorem dL_rumours_378 : decode cL_rumours 378 = .ok (.if_icmp .le 5, 3) := by decide +kernel
theorem dL_rumours_381 : decode cL_rumours 381 = .ok (.iconst 0, 1) := by decide +kernel
theorem dL_rumours_382 : decode cL_rumours 382 = .ok (.ireturn, 1) := by decide +kernel
theorem dL_rumours_383 : decode cL_rumours 383 = .ok (.iinc 8 1, 3) := by decide +kernel
theorem dL_rumours_386 : decode cL_rumours 386 = .ok (.goto (-290), 3) := by decide +kernel
theorem dL_rumours_389 : decode cL_rumours 389 = .ok (.iconst 3, 1) := by decide +kernel
theorem dL_rumours_390 : decode cL_rumours 390 = .ok (.istore 8, 2) := by decide +kernel
theorem dL_rumours_392 : decode cL_rumours 392 = .ok (.iload 8, 2) := by decide +kernel
theorem dL_rumours_394 : decode cL_rumours 394 = .ok (.ifCond .lt 60, 3) := by decide +kernel
theorem dL_rumours_397 : decode cL_rumours 397 = .ok (.aload 4, 2) := by decide +kernel
theorem dL_rumours_399 : decode cL_rumours 399 = .ok (.iconst 4, 1) := by decide +kernel
theorem dL_rumours_400 : decode cL_rumours 400 = .ok (.iaload, 1) := by decide +kernel
theorem dL_rumours_401 : decode cL_rumours 401 = .ok (.ifCond .le 26, 3) := by decide +kernel
theorem dL_rumours_404 : decode cL_rumours 404 = .ok (.iload 5, 2) := by decide +kernel
theorem dL_rumours_406 : decode cL_rumours 406 = .ok (.ifCond .lt 16, 3) := by decide +kernel
theorem dL_rumours_409 : decode cL_rumours 409 = .ok (.aload 4, 2) := by decide +kernel
theorem dL_rumours_411 : decode cL_rumours 411 = .ok (.iload 8, 2) := by decide +kernel
theorem dL_rumours_413 : decode cL_rumours 413 = .ok (.iaload, 1) := by decide +kernel
theorem dL_rumours_414 : decode cL_rumours 414 = .ok (.aload 4, 2) := by decide +kernel
theorem dL_rumours_416 : decode cL_rumours 416 = .ok (.iload 5, 2) := by decide +kernel
theorem dL_rumours_418 : decode cL_rumours 418 = .ok (.iaload, 1) := by decide +kernel
theorem dL_rumours_419 : decode cL_rumours 419 = .ok (.if_icmp .lt 8, 3) := by decide +kernel
theorem dL_rumours_422 : decode cL_rumours 422 = .ok (.iload 8, 2) := by decide +kernel
theorem dL_rumours_424 : decode cL_rumours 424 = .ok (.goto 5, 3) := by decide +kernel
theorem dL_rumours_427 : decode cL_rumours 427 = .ok (.iload 5, 2) := by decide +kernel
theorem dL_rumours_429 : decode cL_rumours 429 = .ok (.istore 5, 2) := by decide +kernel
theorem dL_rumours_431 : decode cL_rumours 431 = .ok (.aload_n 0, 1) := by decide +kernel
theorem dL_rumours_432 : decode cL_rumours 432 = .ok (.iload_n 3, 1) := by decide +kernel
theorem dL_rumours_433 : decode cL_rumours 433 = .ok (.iload 8, 2) := by decide +kernel
theorem dL_rumours_435 : decode cL_rumours 435 = .ok (.invokestatic 313, 3) := by decide +kernel
theorem dL_rumours_438 : decode cL_rumours 438 = .ok (.aload 4, 2) := by decide +kernel
theorem dL_rumours_440 : decode cL_rumours 440 = .ok (.iload 8, 2) := by decide +kernel
theorem dL_rumours_442 : decode cL_rumours 442 = .ok (.iaload, 1) := by decide +kernel
theorem dL_rumours_443 : decode cL_rumours 443 = .ok (.if_icmp .eq 5, 3) := by decide +kernel
theorem dL_rumours_446 : decode cL_rumours 446 = .ok (.iconst 0, 1) := by decide +kernel
theorem dL_rumours_447 : decode cL_rumours 447 = .ok (.ireturn, 1) := by decide +kernel
theorem dL_rumours_448 : decode cL_rumours 448 = .ok (.iinc 8 (-1), 3) := by decide +kernel
theorem dL_rumours_451 : decode cL_rumours 451 = .ok (.goto (-59), 3) := by decide +kernel
theorem dL_rumours_454 : decode cL_rumours 454 = .ok (.aload_n 0, 1) := by decide +kernel
theorem dL_rumours_455 : decode cL_rumours 455 = .ok (.iload_n 3, 1) := by decide +kernel
theorem dL_rumours_456 : decode cL_rumours 456 = .ok (.invokestatic 315, 3) := by decide +kernel
theorem dL_rumours_459 : decode cL_rumours 459 = .ok (.istore 8, 2) := by decide +kernel
theorem dL_rumours_461 : decode cL_rumours 461 = .ok (.iload_n 2, 1) := by decide +kernel
theorem dL_rumours_462 : decode cL_rumours 462 = .ok (.ifCond .ge 7, 3) := by decide +kernel
theorem dL_rumours_465 : decode cL_rumours 465 = .ok (.iconst 1, 1) := by decide +kernel
theorem dL_rumours_466 : decode cL_rumours 466 = .ok (.goto 15, 3) := by decide +kernel
theorem dL_rumours_469 : decode cL_rumours 469 = .ok (.aload_n 0, 1) := by decide +kernel
theorem dL_rumours_470 : decode cL_rumours 470 = .ok (.iload_n 2, 1) := by decide +kernel
theorem dL_rumours_471 : decode cL_rumours 471 = .ok (.invokestatic 317, 3) := by decide +kernel
theorem dL_rumours_474 : decode cL_rumours 474 = .ok (.aload_n 0, 1) := by decide +kernel
theorem dL_rumours_475 : decode cL_rumours 475 = .ok (.iload 8, 2) := by decide +kernel
theorem dL_rumours_477 : decode cL_rumours 477 = .ok (.invokestatic 317, 3) := by decide +kernel
theorem dL_rumours_480 : decode cL_rumours 480 = .ok (.isub, 1) := by decide +kernel
theorem dL_rumours_481 : decode cL_rumours 481 = .ok (.istore 9, 2) := by decide +kernel
theorem dL_rumours_483 : decode cL_rumours 483 = .ok (.iload 9, 2) := by decide +kernel
theorem dL_rumours_485 : decode cL_rumours 485 = .ok (.ifCond .eq 8, 3) := by decide +kernel
theorem dL_rumours_488 : decode cL_rumours 488 = .ok (.iload 9, 2) := by decide +kernel
theorem dL_rumours_490 : decode cL_rumours 490 = .ok (.goto 15, 3) := by decide +kernel
theorem dL_rumours_493 : decode cL_rumours 493 = .ok (.aload_n 0, 1) := by decide +kernel
theorem dL_rumours_494 : decode cL_rumours 494 = .ok (.iload_n 2, 1) := by decide +kernel
theorem dL_rumours_495 : decode cL_rumours 495 = .ok (.invokestatic 304, 3) := by decide +kernel
theorem dL_rumours_498 : decode cL_rumours 498 = .ok (.aload_n 0, 1) := by decide +kernel
theorem dL_rumours_499 : decode cL_rumours 499 = .ok (.iload 8, 2) := by decide +kernel
theorem dL_rumours_501 : decode cL_rumours 501 = .ok (.invokestatic 304, 3) := by decide +kernel
theorem dL_rumours_504 : decode cL_rumours 504 = .ok (.isub, 1) := by decide +kernel
theorem dL_rumours_505 : decode cL_rumours 505 = .ok (.istore 9, 2) := by decide +kernel
theorem dL_rumours_507 : decode cL_rumours 507 = .ok (.iload 8, 2) := by decide +kernel
theorem dL_rumours_509 : decode cL_rumours 509 = .ok (.ifCond .lt 19, 3) := by decide +kernel
theorem dL_rumours_512 : decode cL_rumours 512 = .ok (.iload 9, 2) := by decide +kernel
theorem dL_rumours_514 : decode cL_rumours 514 = .ok (.ifCond .lt 14, 3) := by decide +kernel
theorem dL_rumours_517 : decode cL_rumours 517 = .ok (.iload 9, 2) := by decide +kernel
theorem dL_rumours_519 : decode cL_rumours 519 = .ok (.ifCond .ne 11, 3) := by decide +kernel
theorem dL_rumours_522 : decode cL_rumours 522 = .ok (.iload 8, 2) := by decide +kernel
theorem dL_rumours_524 : decode cL_rumours 524 = .ok (.iload_n 2, 1) := by decide +kernel
theorem dL_rumours_525 : decode cL_rumours 525 = .ok (.if_icmp .ge 5, 3) := by decide +kernel
theorem dL_rumours_528 : decode cL_rumours 528 = .ok (.iconst 0, 1) := by decide +kernel
theorem dL_rumours_529 : decode cL_rumours 529 = .ok (.ireturn, 1) := by decide +kernel
theorem dL_rumours_530 : decode cL_rumours 530 = .ok (.iload 8, 2) := by decide +kernel
theorem dL_rumours_532 : decode cL_rumours 532 = .ok (.istore_n 2, 1) := by decide +kernel
theorem dL_rumours_533 : decode cL_rumours 533 = .ok (.aload_n 0, 1) := by decide +kernel
theorem dL_rumours_534 : decode cL_rumours 534 = .ok (.iload_n 3, 1) := by decide +kernel
theorem dL_rumours_535 : decode cL_rumours 535 = .ok (.invokestatic 317, 3) := by decide +kernel
theorem dL_rumours_538 : decode cL_rumours 538 = .ok (.aload 4, 2) := by decide +kernel
theorem dL_rumours_540 : decode cL_rumours 540 = .ok (.iconst 4, 1) := by decide +kernel
theorem dL_rumours_541 : decode cL_rumours 541 = .ok (.iaload, 1) := by decide +kernel
theorem dL_rumours_542 : decode cL_rumours 542 = .ok (.if_icmp .ne 49, 3) := by decide +kernel
theorem dL_rumours_545 : decode cL_rumours 545 = .ok (.aload_n 0, 1) := by decide +kernel
theorem dL_rumours_546 : decode cL_rumours 546 = .ok (.iload_n 3, 1) := by decide +kernel
theorem dL_rumours_547 : decode cL_rumours 547 = .ok (.invokestatic 319, 3) := by decide +kernel
theorem dL_rumours_550 : decode cL_rumours 550 = .ok (.aload 4, 2) := by decide +kernel
theorem dL_rumours_552 : decode cL_rumours 552 = .ok (.iconst 5, 1) := by decide +kernel
theorem dL_rumours_553 : decode cL_rumours 553 = .ok (.iaload, 1) := by decide +kernel
theorem dL_rumours_554 : decode cL_rumours 554 = .ok (.if_icmp .ne 37, 3) := by decide +kernel
theorem dL_rumours_557 : decode cL_rumours 557 = .ok (.aload_n 0, 1) := by decide +kernel
theorem dL_rumours_558 : decode cL_rumours 558 = .ok (.iload_n 3, 1) := by decide +kernel
theorem dL_rumours_559 : decode cL_rumours 559 = .ok (.invokestatic 321, 3) := by decide +kernel
theorem dL_rumours_562 : decode cL_rumours 562 = .ok (.iload 5, 2) := by decide +kernel
theorem dL_rumours_564 : decode cL_rumours 564 = .ok (.ifCond .ge 8, 3) := by decide +kernel
theorem dL_rumours_567 : decode cL_rumours 567 = .ok (.bipush (-2), 2) := by decide +kernel
theorem dL_rumours_569 : decode cL_rumours 569 = .ok (.goto 5, 3) := by decide +kernel
theorem dL_rumours_572 : decode cL_rumours 572 = .ok (.iload 5, 2) := by decide +kernel
theorem dL_rumours_574 : decode cL_rumours 574 = .ok (.if_icmp .ne 17, 3) := by decide +kernel
theorem dL_rumours_577 : decode cL_rumours 577 = .ok (.aload_n 0, 1) := by decide +kernel
theorem dL_rumours_578 : decode cL_rumours 578 = .ok (.iload_n 3, 1) := by decide +kernel
theorem dL_rumours_579 : decode cL_rumours 579 = .ok (.invokestatic 323, 3) := by decide +kernel
theorem dL_rumours_582 : decode cL_rumours 582 = .ok (.iload 6, 2) := by decide +kernel
theorem dL_rumours_584 : decode cL_rumours 584 = .ok (.if_icmp .ne 7, 3) := by decide +kernel
theorem dL_rumours_587 : decode cL_rumours 587 = .ok (.iconst 1, 1) := by decide +kernel
theorem dL_rumours_588 : decode cL_rumours 588 = .ok (.goto 4, 3) := by decide +kernel
theorem dL_rumours_591 : decode cL_rumours 591 = .ok (.iconst 0, 1) := by decide +kernel
theorem dL_rumours_592 : decode cL_rumours 592 = .ok (.istore 10, 2) := by decide +kernel
theorem dL_rumours_594 : decode cL_rumours 594 = .ok (.iload 10, 2) := by decide +kernel
theorem dL_rumours_596 : decode cL_rumours 596 = .ok (.ifCond .eq 44, 3) := by decide +kernel
theorem dL_rumours_599 : decode cL_rumours 599 = .ok (.aload_n 0, 1) := by decide +kernel
theorem dL_rumours_600 : decode cL_rumours 600 = .ok (.aload_n 0, 1) := by decide +kernel
theorem dL_rumours_601 : decode cL_rumours 601 = .ok (.iload_n 3, 1) := by decide +kernel
theorem dL_rumours_602 : decode cL_rumours 602 = .ok (.invokestatic 232, 3) := by decide +kernel
theorem dL_rumours_605 : decode cL_rumours 605 = .ok (.invokestatic 225, 3) := by decide +kernel
theorem dL_rumours_608 : decode cL_rumours 608 = .ok (.aload 7, 2) := by decide +kernel
theorem dL_rumours_610 : decode cL_rumours 610 = .ok (.invokevirtual 169, 3) := by decide +kernel
theorem dL_rumours_613 : decode cL_rumours 613 = .ok (.invokevirtual 273, 3) := by decide +kernel
theorem dL_rumours_616 : decode cL_rumours 616 = .ok (.ifCond .eq 24, 3) := by decide +kernel
theorem dL_rumours_619 : decode cL_rumours 619 = .ok (.aload_n 0, 1) := by decide +kernel
theorem dL_rumours_620 : decode cL_rumours 620 = .ok (.iload_n 3, 1) := by decide +kernel
theorem dL_rumours_621 : decode cL_rumours 621 = .ok (.aload_n 0, 1) := by decide +kernel
theorem dL_rumours_622 : decode cL_rumours 622 = .ok (.iload_n 3, 1) := by decide +kernel
theorem dL_rumours_623 : decode cL_rumours 623 = .ok (.invokestatic 234, 3) := by decide +kernel
theorem dL_rumours_626 : decode cL_rumours 626 = .ok (.invokestatic 239, 3) := by decide +kernel
theorem dL_rumours_629 : decode cL_rumours 629 = .ok (.ifCond .lt 11, 3) := by decide +kernel
theorem dL_rumours_632 : decode cL_rumours 632 = .ok (.aload_n 0, 1) := by decide +kernel
theorem dL_rumours_633 : decode cL_rumours 633 = .ok (.iload_n 3, 1) := by decide +kernel
theorem dL_rumours_634 : decode cL_rumours 634 = .ok (.invokestatic 325, 3) := by decide +kernel
theorem dL_rumours_637 : decode cL_rumours 637 = .ok (.ifCond .ne 5, 3) := by decide +kernel
theorem dL_rumours_640 : decode cL_rumours 640 = .ok (.iconst 0, 1) := by decide +kernel
theorem dL_rumours_641 : decode cL_rumours 641 = .ok (.ireturn, 1) := by decide +kernel
theorem dL_rumours_642 : decode cL_rumours 642 = .ok (.iinc 3 1, 3) := by decide +kernel
theorem dL_rumours_645 : decode cL_rumours 645 = .ok (.goto (-636), 3) := by decide +kernel
theorem dL_rumours_648 : decode cL_rumours 648 = .ok (.aload_n 0, 1) := by decide +kernel
theorem dL_rumours_649 : decode cL_rumours 649 = .ok (.aload_n 0, 1) := by decide +kernel
theorem dL_rumours_650 : decode cL_rumours 650 = .ok (.invokevirtual 201, 3) := by decide +kernel
theorem dL_rumours_653 : decode cL_rumours 653 = .ok (.invokestatic 315, 3) := by decide +kernel
theorem dL_rumours_656 : decode cL_rumours 656 = .ok (.iconst (-1), 1) := by decide +kernel
theorem dL_rumours_657 : decode cL_rumours 657 = .ok (.if_icmp .ne 27, 3) := by decide +kernel
theorem dL_rumours_660 : decode cL_rumours 660 = .ok (.aload_n 0, 1) := by decide +kernel
theorem dL_rumours_661 : decode cL_rumours 661 = .ok (.aload_n 0, 1) := by decide +kernel
theorem dL_rumours_662 : decode cL_rumours 662 = .ok (.invokevirtual 201, 3) := by decide +kernel
theorem dL_rumours_665 : decode cL_rumours 665 = .ok (.invokestatic 302, 3) := by decide +kernel
theorem dL_rumours_668 : decode cL_rumours 668 = .ok (.iconst (-1), 1) := by decide +kernel
theorem dL_rumours_669 : decode cL_rumours 669 = .ok (.if_icmp .ne 15, 3) := by decide +kernel
theorem dL_rumours_672 : decode cL_rumours 672 = .ok (.aload_n 0, 1) := by decide +kernel
theorem dL_rumours_673 : decode cL_rumours 673 = .ok (.invokevirtual 201, 3) := by decide +kernel
theorem dL_rumours_676 : decode cL_rumours 676 = .ok (.iconst 4, 1) := by decide +kernel
theorem dL_rumours_677 : decode cL_rumours 677 = .ok (.if_icmp .gt 7, 3) := by decide +kernel
theorem dL_rumours_680 : decode cL_rumours 680 = .ok (.iconst 1, 1) := by decide +kernel
theorem dL_rumours_681 : decode cL_rumours 681 = .ok (.goto 4, 3) := by decide +kernel
theorem dL_rumours_684 : decode cL_rumours 684 = .ok (.iconst 0, 1) := by decide +kernel
theorem dL_rumours_685 : decode cL_rumours 685 = .ok (.ireturn, 1) := by decide +kernel
theorem dL_distances_0 : decode cL_distances 0 = .ok (.aload_n 0, 1) := by decide +kernel
theorem dL_distances_1 : decode cL_distances 1 = .ok (.invokevirtual 194, 3) := by decide +kernel
theorem dL_distances_4 : decode cL_distances 4 = .ok (.istore_n 2, 1) := by decide +kernel
theorem dL_distances_5 : decode cL_distances 5 = .ok (.iload_n 2, 1) := by decide +kernel
theorem dL_distances_6 : decode cL_distances 6 = .ok (.newarray .int, 2) := by decide +kernel
theorem dL_distances_8 : decode cL_distances 8 = .ok (.astore_n 3, 1) := by decide +kernel
theorem dL_distances_9 : decode cL_distances 9 = .ok (.iconst 0, 1) := by decide +kernel
theorem dL_distances_10 : decode cL_distances 10 = .ok (.istore 4, 2) := by decide +kernel
theorem dL_distances_12 : decode cL_distances 12 = .ok (.iload 4, 2) := by decide +kernel
theorem dL_distances_14 : decode cL_distances 14 = .ok (.iload_n 2, 1) := by decide +kernel
theorem dL_distances_15 : decode cL_distances 15 = .ok (.if_icmp .ge 30, 3) := by decide +kernel
theorem dL_distances_18 : decode cL_distances 18 = .ok (.aload_n 3, 1) := by decide +kernel
theorem dL_distances_19 : decode cL_distances 19 = .ok (.iload 4, 2) := by decide +kernel
theorem dL_distances_21 : decode cL_distances 21 = .ok (.aload_n 0, 1) := by decide +kernel
theorem dL_distances_22 : decode cL_distances 22 = .ok (.iload_n 1, 1) := by decide +kernel
theorem dL_distances_23 : decode cL_distances 23 = .ok (.iload 4, 2) := by decide +kernel
theorem dL_distances_25 : decode cL_distances 25 = .ok (.invokestatic 296, 3) := by decide +kernel
theorem dL_distances_28 : decode cL_distances 28 = .ok (.iconst 1, 1) := by decide +kernel
theorem dL_distances_29 : decode cL_distances 29 = .ok (.if_icmp .ne 7, 3) := by decide +kernel
theorem dL_distances_32 : decode cL_distances 32 = .ok (.iconst 0, 1) := by decide +kernel
theorem dL_distances_33 : decode cL_distances 33 = .ok (.goto 5, 3) := by decide +kernel
theorem dL_distances_36 : decode cL_distances 36 = .ok (.bipush 99, 2) := by decide +kernel
theorem dL_distances_38 : decode cL_distances 38 = .ok (.iastore, 1) := by decide +kernel
theorem dL_distances_39 : decode cL_distances 39 = .ok (.iinc 4 1, 3) := by decide +kernel
theorem dL_distances_42 : decode cL_distances 42 = .ok (.goto (-30), 3) := by decide +kernel
theorem dL_distances_45 : decode cL_distances 45 = .ok (.iconst 0, 1) := by decide +kernel
theorem dL_distances_46 : decode cL_distances 46 = .ok (.istore 4, 2) := by decide +kernel
theorem dL_distances_48 : decode cL_distances 48 = .ok (.iload 4, 2) := by decide +kernel
theorem dL_distances_50 : decode cL_distances 50 = .ok (.iload_n 2, 1) := by decide +kernel
theorem dL_distances_51 : decode cL_distances 51 = .ok (.if_icmp .ge 75, 3) := by decide +kernel
theorem dL_distances_54 : decode cL_distances 54 = .ok (.iconst 0, 1) := by decide +kernel
theorem dL_distances_55 : decode cL_distances 55 = .ok (.istore 5, 2) := by decide +kernel
theorem dL_distances_57 : decode cL_distances 57 = .ok (.iload 5, 2) := by decide +kernel
theorem dL_distances_59 : decode cL_distances 59 = .ok (.iload_n 2, 1) := by decide +kernel
theorem dL_distances_60 : decode cL_distances 60 = .ok (.if_icmp .ge 60, 3) := by decide +kernel
theorem dL_distances_63 : decode cL_distances 63 = .ok (.iconst 0, 1) := by decide +kernel
theorem dL_distances_64 : decode cL_distances 64 = .ok (.istore 6, 2) := by decide +kernel
theorem dL_distances_66 : decode cL_distances 66 = .ok (.iload 6, 2) := by decide +kernel
theorem dL_distances_68 : decode cL_distances 68 = .ok (.iload_n 2, 1) := by decide +kernel
theorem dL_distances_69 : decode cL_distances 69 = .ok (.if_icmp .ge 45, 3) := by decide +kernel
theorem dL_distances_72 : decode cL_distances 72 = .ok (.aload_n 3, 1) := by decide +kernel
theorem dL_distances_73 : decode cL_distances 73 = .ok (.iload 5, 2) := by decide +kernel
theorem dL_distances_75 : decode cL_distances 75 = .ok (.aload_n 0, 1) := by decide +kernel
theorem dL_distances_76 : decode cL_distances 76 = .ok (.iload 5, 2) := by decide +kernel
theorem dL_distances_78 : decode cL_distances 78 = .ok (.iload 6, 2) := by decide +kernel
theorem dL_distances_80 : decode cL_distances 80 = .ok (.invokestatic 243, 3) := by decide +kernel
theorem dL_distances_83 : decode cL_distances 83 = .ok (.iconst 1, 1) := by decide +kernel
theorem dL_distances_84 : decode cL_distances 84 = .ok (.if_icmp .ne 19, 3) := by decide +kernel
theorem dL_distances_87 : decode cL_distances 87 = .ok (.aload_n 3, 1) := by decide +kernel
theorem dL_distances_88 : decode cL_distances 88 = .ok (.iload 5, 2) := by decide +kernel
theorem dL_distances_90 : decode cL_distances 90 = .ok (.iaload, 1) := by decide +kernel
theorem dL_distances_91 : decode cL_distances 91 = .ok (.aload_n 3, 1) := by decide +kernel
theorem dL_distances_92 : decode cL_distances 92 = .ok (.iload 6, 2) := by decide +kernel
theorem dL_distances_94 : decode cL_distances 94 = .ok (.iaload, 1) := by decide +kernel
theorem dL_distances_95 : decode cL_distances 95 = .ok (.iconst 1, 1) := by decide +kernel
theorem dL_distances_96 : decode cL_distances 96 = .ok (.iadd, 1) := by decide +kernel
theorem dL_distances_97 : decode cL_distances 97 = .ok (.invokestatic 256, 3) := by decide +kernel
theorem dL_distances_100 : decode cL_distances 100 = .ok (.goto 7, 3) := by decide +kernel
theorem dL_distances_103 : decode cL_distances 103 = .ok (.aload_n 3, 1) := by decide +kernel
theorem dL_distances_104 : decode cL_distances 104 = .ok (.iload 5, 2) := by decide +kernel
theorem dL_distances_106 : decode cL_distances 106 = .ok (.iaload, 1) := by decide +kernel
theorem dL_distances_107 : decode cL_distances 107 = .ok (.iastore, 1) := by decide +kernel
theorem dL_distances_108 : decode cL_distances 108 = .ok (.iinc 6 1, 3) := by decide +kernel
theorem dL_distances_111 : decode cL_distances 111 = .ok (.goto (-45), 3) := by decide +kernel
theorem dL_distances_114 : decode cL_distances 114 = .ok (.iinc 5 1, 3) := by decide +kernel
theorem dL_distances_117 : decode cL_distances 117 = .ok (.goto (-60), 3) := by decide +kernel
theorem dL_distances_120 : decode cL_distances 120 = .ok (.iinc 4 1, 3) := by decide +kernel
theorem dL_distances_123 : decode cL_distances 123 = .ok (.goto (-75), 3) := by decide +kernel
theorem dL_distances_126 : decode cL_distances 126 = .ok (.iconst 0, 1) := by decide +kernel
theorem dL_distances_127 : decode cL_distances 127 = .ok (.istore 4, 2) := by decide +kernel
theorem dL_distances_129 : decode cL_distances 129 = .ok (.iload 4, 2) := by decide +kernel
theorem dL_distances_131 : decode cL_distances 131 = .ok (.iload_n 2, 1) := by decide +kernel
theorem dL_distances_132 : decode cL_distances 132 = .ok (.if_icmp .ge 55, 3) := by decide +kernel
theorem dL_distances_135 : decode cL_distances 135 = .ok (.aload_n 3, 1) := by decide +kernel
theorem dL_distances_136 : decode cL_distances 136 = .ok (.iload 4, 2) := by decide +kernel
theorem dL_distances_138 : decode cL_distances 138 = .ok (.iaload, 1) := by decide +kernel
theorem dL_distances_139 : decode cL_distances 139 = .ok (.bipush 90, 2) := by decide +kernel
theorem dL_distances_141 : decode cL_distances 141 = .ok (.if_icmp .le 8, 3) := by decide +kernel
theorem dL_distances_144 : decode cL_distances 144 = .ok (.bipush (-2), 2) := by decide +kernel
theorem dL_distances_146 : decode cL_distances 146 = .ok (.goto 7, 3) := by decide +kernel
theorem dL_distances_149 : decode cL_distances 149 = .ok (.aload_n 3, 1) := by decide +kernel
theorem dL_distances_150 : decode cL_distances 150 = .ok (.iload 4, 2) := by decide +kernel
theorem dL_distances_152 : decode cL_distances 152 = .ok (.iaload, 1) := by decide +kernel
theorem dL_distances_153 : decode cL_distances 153 = .ok (.istore 5, 2) := by decide +kernel
theorem dL_distances_155 : decode cL_distances 155 = .ok (.aload_n 0, 1) := by decide +kernel
theorem dL_distances_156 : decode cL_distances 156 = .ok (.iload_n 1, 1) := by decide +kernel
theorem dL_distances_157 : decode cL_distances 157 = .ok (.iload 4, 2) := by decide +kernel
theorem dL_distances_159 : decode cL_distances 159 = .ok (.invokestatic 329, 3) := by decide +kernel
theorem dL_distances_162 : decode cL_distances 162 = .ok (.iload 5, 2) := by decide +kernel
theorem dL_distances_164 : decode cL_distances 164 = .ok (.if_icmp .ne 15, 3) := by decide +kernel
theorem dL_distances_167 : decode cL_distances 167 = .ok (.aload_n 0, 1) := by decide +kernel
theorem dL_distances_168 : decode cL_distances 168 = .ok (.iload_n 1, 1) := by decide +kernel
theorem dL_distances_169 : decode cL_distances 169 = .ok (.iload 4, 2) := by decide +kernel
theorem dL_distances_171 : decode cL_distances 171 = .ok (.invokestatic 331, 3) := by decide +kernel
theorem dL_distances_174 : decode cL_distances 174 = .ok (.iload 5, 2) := by decide +kernel
theorem dL_distances_176 : decode cL_distances 176 = .ok (.if_icmp .eq 5, 3) := by decide +kernel
theorem dL_distances_179 : decode cL_distances 179 = .ok (.iconst 0, 1) := by decide +kernel
theorem dL_distances_180 : decode cL_distances 180 = .ok (.ireturn, 1) := by decide +kernel
theorem dL_distances_181 : decode cL_distances 181 = .ok (.iinc 4 1, 3) := by decide +kernel
theorem dL_distances_184 : decode cL_distances 184 = .ok (.goto (-55), 3) := by decide +kernel
theorem dL_distances_187 : decode cL_distances 187 = .ok (.aload_n 0, 1) := by decide +kernel
theorem dL_distances_188 : decode cL_distances 188 = .ok (.iload_n 1, 1) := by decide +kernel
theorem dL_distances_189 : decode cL_distances 189 = .ok (.iload_n 2, 1) := by decide +kernel
theorem dL_distances_190 : decode cL_distances 190 = .ok (.invokestatic 329, 3) := by decide +kernel
theorem dL_distances_193 : decode cL_distances 193 = .ok (.iconst (-1), 1) := by decide +kernel
theorem dL_distances_194 : decode cL_distances 194 = .ok (.if_icmp .ne 7, 3) := by decide +kernel
theorem dL_distances_197 : decode cL_distances 197 = .ok (.iconst 1, 1) := by decide +kernel
theorem dL_distances_198 : decode cL_distances 198 = .ok (.goto 4, 3) := by decide +kernel
theorem dL_distances_201 : decode cL_distances 201 = .ok (.iconst 0, 1) := by decide +kernel
theorem dL_distances_202 : decode cL_distances 202 = .ok (.ireturn, 1) := by decide +kernel
theorem dL_foretold_0 : decode cL_foretold 0 = .ok (.aload_n 0, 1) := by decide +kernel
theorem dL_foretold_1 : decode cL_foretold 1 = .ok (.invokevirtual 333, 3) := by decide +kernel
theorem dL_foretold_4 : decode cL_foretold 4 = .ok (.istore_n 2, 1) := by decide +kernel
theorem dL_foretold_5 : decode cL_foretold 5 = .ok (.iconst 1, 1) := by decide +kernel
theorem dL_foretold_6 : decode cL_foretold 6 = .ok (.istore_n 3, 1) := by decide +kernel
theorem dL_foretold_7 : decode cL_foretold 7 = .ok (.aload_n 0, 1) := by decide +kernel
theorem dL_foretold_8 : decode cL_foretold 8 = .ok (.invokevirtual 194, 3) := by decide +kernel
theorem dL_foretold_11 : decode cL_foretold 11 = .ok (.istore 4, 2) := by decide +kernel
theorem dL_foretold_13 : decode cL_foretold 13 = .ok (.aload_n 0, 1) := by decide +kernel
theorem dL_foretold_14 : decode cL_foretold 14 = .ok (.invokevirtual 201, 3) := by decide +kernel
theorem dL_foretold_17 : decode cL_foretold 17 = .ok (.istore 5, 2) := by decide +kernel
theorem dL_foretold_19 : decode cL_foretold 19 = .ok (.iload 4, 2) := by decide +kernel
theorem dL_foretold_21 : decode cL_foretold 21 = .ok (.ifCond .le 438, 3) := by decide +kernel
theorem dL_foretold_24 : decode cL_foretold 24 = .ok (.iload 5, 2) := by decide +kernel
theorem dL_foretold_26 : decode cL_foretold 26 = .ok (.ifCond .le 433, 3) := by decide +kernel
theorem dL_foretold_29 : decode cL_foretold 29 = .ok (.aload_n 1, 1) := by decide +kernel
theorem dL_foretold_30 : decode cL_foretold 30 = .ok (.iload 5, 2) := by decide +kernel
theorem dL_foretold_32 : decode cL_foretold 32 = .ok (.invokevirtual 184, 3) := by decide +kernel
theorem dL_foretold_35 : decode cL_foretold 35 = .ok (.istore 6, 2) := by decide +kernel
theorem dL_foretold_37 : decode cL_foretold 37 = .ok (.aload_n 1, 1) := by decide +kernel
theorem dL_foretold_38 : decode cL_foretold 38 = .ok (.iload 4, 2) := by decide +kernel
theorem dL_foretold_40 : decode cL_foretold 40 = .ok (.invokevirtual 184, 3) := by decide +kernel
theorem dL_foretold_43 : decode cL_foretold 43 = .ok (.istore 7, 2) := by decide +kernel
theorem dL_foretold_45 : decode cL_foretold 45 = .ok (.iconst 1, 1) := by decide +kernel
theorem dL_foretold_46 : decode cL_foretold 46 = .ok (.aload_n 1, 1) := by decide +kernel
theorem dL_foretold_47 : decode cL_foretold 47 = .ok (.bipush 6, 2) := by decide +kernel
theorem dL_foretold_49 : decode cL_foretold 49 = .ok (.invokevirtual 184, 3) := by decide +kernel
theorem dL_foretold_52 : decode cL_foretold 52 = .ok (.iadd, 1) := by decide +kernel
theorem dL_foretold_53 : decode cL_foretold 53 = .ok (.istore 8, 2) := by decide +kernel
theorem dL_foretold_55 : decode cL_foretold 55 = .ok (.aload_n 0, 1) := by decide +kernel
theorem dL_foretold_56 : decode cL_foretold 56 = .ok (.iload 6, 2) := by decide +kernel
theorem dL_foretold_58 : decode cL_foretold 58 = .ok (.iload 8, 2) := by decide +kernel
theorem dL_foretold_60 : decode cL_foretold 60 = .ok (.invokestatic 336, 3) := by decide +kernel
theorem dL_foretold_63 : decode cL_foretold 63 = .ok (.istore 9, 2) := by decide +kernel
theorem dL_foretold_65 : decode cL_foretold 65 = .ok (.aload_n 0, 1) := by decide +kernel
theorem dL_foretold_66 : decode cL_foretold 66 = .ok (.iload 6, 2) := by decide +kernel
theorem dL_foretold_68 : decode cL_foretold 68 = .ok (.iload 7, 2) := by decide +kernel
theorem dL_foretold_70 : decode cL_foretold 70 = .ok (.invokestatic 338, 3) := by decide +kernel
theorem dL_foretold_73 : decode cL_foretold 73 = .ok (.istore 10, 2) := by decide +kernel
theorem dL_foretold_75 : decode cL_foretold 75 = .ok (.aload_n 0, 1) := by decide +kernel
theorem dL_foretold_76 : decode cL_foretold 76 = .ok (.iload 6, 2) := by decide +kernel
theorem dL_foretold_78 : decode cL_foretold 78 = .ok (.iload 7, 2) := by decide +kernel
theorem dL_foretold_80 : decode cL_foretold 80 = .ok (.invokestatic 239, 3) := by decide +kernel
theorem dL_foretold_83 : decode cL_foretold 83 = .ok (.bipush (-2), 2) := by decide +kernel
theorem dL_foretold_85 : decode cL_foretold 85 = .ok (.if_icmp .eq 7, 3) := by decide +kernel
theorem dL_foretold_88 : decode cL_foretold 88 = .ok (.iconst 1, 1) := by decide +kernel
theorem dL_foretold_89 : decode cL_foretold 89 = .ok (.goto 4, 3) := by decide +kernel
theorem dL_foretold_92 : decode cL_foretold 92 = .ok (.iconst 0, 1) := by decide +kernel
theorem dL_foretold_93 : decode cL_foretold 93 = .ok (.istore 11, 2) := by decide +kernel
theorem dL_foretold_95 : decode cL_foretold 95 = .ok (.aload_n 0, 1) := by decide +kernel
theorem dL_foretold_96 : decode cL_foretold 96 = .ok (.iload 6, 2) := by decide +kernel
theorem dL_foretold_98 : decode cL_foretold 98 = .ok (.invokestatic 302, 3) := by decide +kernel
theorem dL_foretold_101 : decode cL_foretold 101 = .ok (.istore 12, 2) := by decide +kernel
theorem dL_foretold_103 : decode cL_foretold 103 = .ok (.aload_n 0, 1) := by decide +kernel
theorem dL_foretold_104 : decode cL_foretold 104 = .ok (.iload 6, 2) := by decide +kernel
theorem dL_foretold_106 : decode cL_foretold 106 = .ok (.invokestatic 323, 3) := by decide +kernel
theorem dL_foretold_109 : decode cL_foretold 109 = .ok (.istore 13, 2) := by decide +kernel
theorem dL_foretold_111 : decode cL_foretold 111 = .ok (.aload_n 0, 1) := by decide +kernel
theorem dL_foretold_112 : decode cL_foretold 112 = .ok (.iload 6, 2) := by decide +kernel
theorem dL_foretold_114 : decode cL_foretold 114 = .ok (.invokestatic 317, 3) := by decide +kernel
theorem dL_foretold_117 : decode cL_foretold 117 = .ok (.istore 14, 2) := by decide +kernel
theorem dL_foretold_119 : decode cL_foretold 119 = .ok (.aload_n 0, 1) := by decide +kernel
theorem dL_foretold_120 : decode cL_foretold 120 = .ok (.iload 6, 2) := by decide +kernel
theorem dL_foretold_122 : decode cL_foretold 122 = .ok (.invokestatic 304, 3) := by decide +kernel
theorem dL_foretold_125 : decode cL_foretold 125 = .ok (.iconst 1, 1) := by decide +kernel
theorem dL_foretold_126 : decode cL_foretold 126 = .ok (.if_icmp .ne 7, 3) := by decide +kernel
theorem dL_foretold_129 : decode cL_foretold 129 = .ok (.iconst 1, 1) := by decide +kernel
theorem dL_foretold_130 : decode cL_foretold 130 = .ok (.goto 4, 3) := by decide +kernel
theorem dL_foretold_133 : decode cL_foretold 133 = .ok (.iconst 0, 1) := by decide +kernel
theorem dL_foretold_134 : decode cL_foretold 134 = .ok (.istore 15, 2) := by decide +kernel
theorem dL_foretold_136 : decode cL_foretold 136 = .ok (.aload_n 0, 1) := by decide +kernel
theorem dL_foretold_137 : decode cL_foretold 137 = .ok (.invokevirtual 245, 3) := by decide +kernel
theorem dL_foretold_140 : decode cL_foretold 140 = .ok (.istore 16, 2) := by decide +kernel
theorem dL_foretold_142 : decode cL_foretold 142 = .ok (.aload_n 0, 1) := by decide +kernel
theorem dL_foretold_143 : decode cL_foretold 143 = .ok (.invokevirtual 248, 3) := by decide +kernel
theorem dL_foretold_146 : decode cL_foretold 146 = .ok (.istore 17, 2) := by decide +kernel
theorem dL_foretold_148 : decode cL_foretold 148 = .ok (.iconst 0, 1) := by decide +kernel
theorem dL_foretold_149 : decode cL_foretold 149 = .ok (.istore 18, 2) := by decide +kernel
theorem dL_foretold_151 : decode cL_foretold 151 = .ok (.iconst 0, 1) := by decide +kernel
theorem dL_foretold_152 : decode cL_foretold 152 = .ok (.istore 19, 2) := by decide +kernel
theorem dL_foretold_154 : decode cL_foretold 154 = .ok (.iload 19, 2) := by decide +kernel
theorem dL_foretold_156 : decode cL_foretold 156 = .ok (.iload 5, 2) := by decide +kernel
theorem dL_foretold_158 : decode cL_foretold 158 = .ok (.if_icmp .ge 20, 3) := by decide +kernel
theorem dL_foretold_161 : decode cL_foretold 161 = .ok (.iload 18, 2) := by decide +kernel
theorem dL_foretold_163 : decode cL_foretold 163 = .ok (.aload_n 0, 1) := by decide +kernel
theorem dL_foretold_164 : decode cL_foretold 164 = .ok (.iload 19, 2) := by decide +kernel
theorem dL_foretold_166 : decode cL_foretold 166 = .ok (.invokestatic 323, 3) := by decide +kernel
theorem dL_foretold_169 : decode cL_foretold 169 = .ok (.iadd, 1) := by decide +kernel
theorem dL_foretold_170 : decode cL_foretold 170 = .ok (.istore 18, 2) := by decide +kernel
theorem dL_foretold_172 : decode cL_foretold 172 = .ok (.iinc 19 1, 3) := by decide +kernel
theorem dL_foretold_175 : decode cL_foretold 175 = .ok (.goto (-21), 3) := by decide +kernel
theorem dL_foretold_178 : decode cL_foretold 178 = .ok (.iload_n 3, 1) := by decide +kernel
theorem dL_foretold_179 : decode cL_foretold 179 = .ok (.aload_n 0, 1) := by decide +kernel
theorem dL_foretold_180 : decode cL_foretold 180 = .ok (.iconst 1, 1) := by decide +kernel
theorem dL_foretold_181 : decode cL_foretold 181 = .ok (.invokestatic 221, 3) := by decide +kernel
theorem dL_foretold_184 : decode cL_foretold 184 = .ok (.iload 18, 2) := by decide +kernel
theorem dL_foretold_186 : decode cL_foretold 186 = .ok (.if_icmp .ne 44, 3) := by decide +kernel
theorem dL_foretold_189 : decode cL_foretold 189 = .ok (.aload_n 0, 1) := by decide +kernel
theorem dL_foretold_190 : decode cL_foretold 190 = .ok (.invokevirtual 245, 3) := by decide +kernel
theorem dL_foretold_193 : decode cL_foretold 193 = .ok (.iload 16, 2) := by decide +kernel
theorem dL_foretold_195 : decode cL_foretold 195 = .ok (.iconst 1, 1) := by decide +kernel
theorem dL_foretold_196 : decode cL_foretold 196 = .ok (.iadd, 1) := by decide +kernel
theorem dL_foretold_197 : decode cL_foretold 197 = .ok (.if_icmp .ne 33, 3) := by decide +kernel
theorem dL_foretold_200 : decode cL_foretold 200 = .ok (.aload_n 0, 1) := by decide +kernel
theorem dL_foretold_201 : decode cL_foretold 201 = .ok (.iload 6, 2) := by decide +kernel
theorem dL_foretold_203 : decode cL_foretold 203 = .ok (.invokestatic 317, 3) := by decide +kernel
theorem dL_foretold_206 : decode cL_foretold 206 = .ok (.iload 14, 2) := by decide +kernel
theorem dL_foretold_208 : decode cL_foretold 208 = .ok (.iload 13, 2) := by decide +kernel
theorem dL_foretold_210 : decode cL_foretold 210 = .ok (.iadd, 1) := by decide +kernel
theorem dL_foretold_211 : decode cL_foretold 211 = .ok (.if_icmp .ne 19, 3) := by decide +kernel
theorem dL_foretold_214 : decode cL_foretold 214 = .ok (.aload_n 0, 1) := by decide +kernel
theorem dL_foretold_215 : decode cL_foretold 215 = .ok (.invokevirtual 248, 3) := by decide +kernel
theorem dL_foretold_218 : decode cL_foretold 218 = .ok (.iload 17, 2) := by decide +kernel
theorem dL_foretold_220 : decode cL_foretold 220 = .ok (.iload 18, 2) := by decide +kernel
theorem dL_foretold_222 : decode cL_foretold 222 = .ok (.iadd, 1) := by decide +kernel
theorem dL_foretold_223 : decode cL_foretold 223 = .ok (.if_icmp .lt 7, 3) := by decide +kernel
theorem dL_foretold_226 : decode cL_foretold 226 = .ok (.iconst 1, 1) := by decide +kernel
theorem dL_foretold_227 : decode cL_foretold 227 = .ok (.goto 4, 3) := by decide +kernel
theorem dL_foretold_230 : decode cL_foretold 230 = .ok (.iconst 0, 1) := by decide +kernel
theorem dL_foretold_231 : decode cL_foretold 231 = .ok (.iand, 1) := by decide +kernel
theorem dL_foretold_232 : decode cL_foretold 232 = .ok (.istore_n 3, 1) := by decide +kernel
theorem dL_foretold_233 : decode cL_foretold 233 = .ok (.iload_n 3, 1) := by decide +kernel
theorem dL_foretold_234 : decode cL_foretold 234 = .ok (.aload_n 0, 1) := by decide +kernel
theorem dL_foretold_235 : decode cL_foretold 235 = .ok (.iload 6, 2) := by decide +kernel
theorem dL_foretold_237 : decode cL_foretold 237 = .ok (.invokestatic 302, 3) := by decide +kernel
theorem dL_foretold_240 : decode cL_foretold 240 = .ok (.iload 15, 2) := by decide +kernel
theorem dL_foretold_242 : decode cL_foretold 242 = .ok (.ifCond .eq 19, 3) := by decide +kernel
theorem dL_foretold_245 : decode cL_foretold 245 = .ok (.iload 13, 2) := by decide +kernel
theorem dL_foretold_247 : decode cL_foretold 247 = .ok (.ifCond .ne 14, 3) := by decide +kernel
theorem dL_foretold_250 : decode cL_foretold 250 = .ok (.iconst 0, 1) := by decide +kernel
theorem dL_foretold_251 : decode cL_foretold 251 = .ok (.iload 12, 2) := by decide +kernel
theorem dL_foretold_253 : decode cL_foretold 253 = .ok (.iconst 1, 1) := by decide +kernel
theorem dL_foretold_254 : decode cL_foretold 254 = .ok (.isub, 1) := by decide +kernel
theorem dL_foretold_255 : decode cL_foretold 255 = .ok (.invokestatic 189, 3) := by decide +kernel
theorem dL_foretold_258 : decode cL_foretold 258 = .ok (.goto 5, 3) := by decide +kernel
theorem dL_foretold_261 : decode cL_foretold 261 = .ok (.iload 12, 2) := by decide +kernel
theorem dL_foretold_263 : decode cL_foretold 263 = .ok (.if_icmp .ne 7, 3) := by decide +kernel
theorem dL_foretold_266 : decode cL_foretold 266 = .ok (.iconst 1, 1) := by decide +kernel
theorem dL_foretold_267 : decode cL_foretold 267 = .ok (.goto 4, 3) := by decide +kernel
theorem dL_foretold_270 : decode cL_foretold 270 = .ok (.iconst 0, 1) := by decide +kernel
theorem dL_foretold_271 : decode cL_foretold 271 = .ok (.iand, 1) := by decide +kernel
theorem dL_foretold_272 : decode cL_foretold 272 = .ok (.istore_n 3, 1) := by decide +kernel
theorem dL_foretold_273 : decode cL_foretold 273 = .ok (.iload_n 3, 1) := by decide +kernel
theorem dL_foretold_274 : decode cL_foretold 274 = .ok (.iload 11, 2) := by decide +kernel
theorem dL_foretold_276 : decode cL_foretold 276 = .ok (.iload 10, 2) := by decide +kernel
theorem dL_foretold_278 : decode cL_foretold 278 = .ok (.bipush (-2), 2) := by decide +kernel
theorem dL_foretold_280 : decode cL_foretold 280 = .ok (.if_icmp .ne 7, 3) := by decide +kernel
theorem dL_foretold_283 : decode cL_foretold 283 = .ok (.iconst 1, 1) := by decide +kernel
theorem dL_foretold_284 : decode cL_foretold 284 = .ok (.goto 4, 3) := by decide +kernel
theorem dL_foretold_287 : decode cL_foretold 287 = .ok (.iconst 0, 1) := by decide +kernel
theorem dL_foretold_288 : decode cL_foretold 288 = .ok (.if_icmp .ne 26, 3) := by decide +kernel
theorem dL_foretold_291 : decode cL_foretold 291 = .ok (.iload 10, 2) := by decide +kernel
theorem dL_foretold_293 : decode cL_foretold 293 = .ok (.iconst 1, 1) := by decide +kernel
theorem dL_foretold_294 : decode cL_foretold 294 = .ok (.if_icmp .ne 16, 3) := by decide +kernel
theorem dL_foretold_297 : decode cL_foretold 297 = .ok (.aload_n 0, 1) := by decide +kernel
theorem dL_foretold_298 : decode cL_foretold 298 = .ok (.iload 6, 2) := by decide +kernel
theorem dL_foretold_300 : decode cL_foretold 300 = .ok (.iload 7, 2) := by decide +kernel
theorem dL_foretold_302 : decode cL_foretold 302 = .ok (.invokestatic 239, 3) := by decide +kernel
theorem dL_foretold_305 : decode cL_foretold 305 = .ok (.iload 16, 2) := by decide +kernel
theorem dL_foretold_307 : decode cL_foretold 307 = .ok (.if_icmp .ne 7, 3) := by decide +kernel
theorem dL_foretold_310 : decode cL_foretold 310 = .ok (.iconst 1, 1) := by decide +kernel
theorem dL_foretold_311 : decode cL_foretold 311 = .ok (.goto 4, 3) := by decide +kernel
theorem dL_foretold_314 : decode cL_foretold 314 = .ok (.iconst 0, 1) := by decide +kernel
theorem dL_foretold_315 : decode cL_foretold 315 = .ok (.iand, 1) := by decide +kernel
theorem dL_foretold_316 : decode cL_foretold 316 = .ok (.istore_n 3, 1) := by decide +kernel
theorem dL_foretold_317 : decode cL_foretold 317 = .ok (.iload 8, 2) := by decide +kernel
theorem dL_foretold_319 : decode cL_foretold 319 = .ok (.iconst 1, 1) := by decide +kernel
theorem dL_foretold_320 : decode cL_foretold 320 = .ok (.if_icmp .le 14, 3) := by decide +kernel
theorem dL_foretold_323 : decode cL_foretold 323 = .ok (.aload_n 0, 1) := by decide +kernel
theorem dL_foretold_324 : decode cL_foretold 324 = .ok (.iload 8, 2) := by decide +kernel
theorem dL_foretold_326 : decode cL_foretold 326 = .ok (.iconst 1, 1) := by decide +kernel
theorem dL_foretold_327 : decode cL_foretold 327 = .ok (.isub, 1) := by decide +kernel
theorem dL_foretold_328 : decode cL_foretold 328 = .ok (.invokestatic 221, 3) := by decide +kernel
theorem dL_foretold_331 : decode cL_foretold 331 = .ok (.goto 4, 3) := by decide +kernel
theorem dL_foretold_334 : decode cL_foretold 334 = .ok (.iconst 0, 1) := by decide +kernel
theorem dL_foretold_335 : decode cL_foretold 335 = .ok (.istore 19, 2) := by decide +kernel
theorem dL_foretold_337 : decode cL_foretold 337 = .ok (.iload_n 3, 1) := by decide +kernel
theorem dL_foretold_338 : decode cL_foretold 338 = .ok (.aload_n 0, 1) := by decide +kernel
theorem dL_foretold_339 : decode cL_foretold 339 = .ok (.iload 6, 2) := by decide +kernel
theorem dL_foretold_341 : decode cL_foretold 341 = .ok (.invokestatic 317, 3) := by decide +kernel
theorem dL_foretold_344 : decode cL_foretold 344 = .ok (.iload 9, 2) := by decide +kernel
theorem dL_foretold_346 : decode cL_foretold 346 = .ok (.if_icmp .ne 55, 3) := by decide +kernel
theorem dL_foretold_349 : decode cL_foretold 349 = .ok (.iload 19, 2) := by decide +kernel
theorem dL_foretold_351 : decode cL_foretold 351 = .ok (.ifCond .lt 50, 3) := by decide +kernel
theorem dL_foretold_354 : decode cL_foretold 354 = .ok (.iload 11, 2) := by decide +kernel
theorem dL_foretold_356 : decode cL_foretold 356 = .ok (.ifCond .ne 41, 3) := by decide +kernel
theorem dL_foretold_359 : decode cL_foretold 359 = .ok (.iload 10, 2) := by decide +kernel
theorem dL_foretold_361 : decode cL_foretold 361 = .ok (.ifCond .lt 14, 3) := by decide +kernel
theorem dL_foretold_364 : decode cL_foretold 364 = .ok (.iload 10, 2) := by decide +kernel
theorem dL_foretold_366 : decode cL_foretold 366 = .ok (.iload 8, 2) := by decide +kernel
theorem dL_foretold_368 : decode cL_foretold 368 = .ok (.if_icmp .gt 7, 3) := by decide +kernel
theorem dL_foretold_371 : decode cL_foretold 371 = .ok (.iconst 1, 1) := by decide +kernel
theorem dL_foretold_372 : decode cL_foretold 372 = .ok (.goto 4, 3) := by decide +kernel
theorem dL_foretold_375 : decode cL_foretold 375 = .ok (.iconst 0, 1) := by decide +kernel
theorem dL_foretold_376 : decode cL_foretold 376 = .ok (.aload_n 0, 1) := by decide +kernel
theorem dL_foretold_377 : decode cL_foretold 377 = .ok (.iload 6, 2) := by decide +kernel
theorem dL_foretold_379 : decode cL_foretold 379 = .ok (.iload 7, 2) := by decide +kernel
theorem dL_foretold_381 : decode cL_foretold 381 = .ok (.invokestatic 239, 3) := by decide +kernel
theorem dL_foretold_384 : decode cL_foretold 384 = .ok (.bipush (-2), 2) := by decide +kernel
theorem dL_foretold_386 : decode cL_foretold 386 = .ok (.if_icmp .eq 7, 3) := by decide +kernel
theorem dL_foretold_389 : decode cL_foretold 389 = .ok (.iconst 1, 1) := by decide +kernel
theorem dL_foretold_390 : decode cL_foretold 390 = .ok (.goto 4, 3) := by decide +kernel
theorem dL_foretold_393 : decode cL_foretold 393 = .ok (.iconst 0, 1) := by decide +kernel
theorem dL_foretold_394 : decode cL_foretold 394 = .ok (.if_icmp .ne 7, 3) := by decide +kernel
theorem dL_foretold_397 : decode cL_foretold 397 = .ok (.iconst 1, 1) := by decide +kernel
theorem dL_foretold_398 : decode cL_foretold 398 = .ok (.goto 4, 3) := by decide +kernel
theorem dL_foretold_401 : decode cL_foretold 401 = .ok (.iconst 0, 1) := by decide +kernel
theorem dL_foretold_402 : decode cL_foretold 402 = .ok (.iand, 1) := by decide +kernel
theorem dL_foretold_403 : decode cL_foretold 403 = .ok (.istore_n 3, 1) := by decide +kernel
theorem dL_foretold_404 : decode cL_foretold 404 = .ok (.iload_n 3, 1) := by decide +kernel
theorem dL_foretold_405 : decode cL_foretold 405 = .ok (.aload_n 0, 1) := by decide +kernel
theorem dL_foretold_406 : decode cL_foretold 406 = .ok (.iload 6, 2) := by decide +kernel
theorem dL_foretold_408 : decode cL_foretold 408 = .ok (.iconst 0, 1) := by decide +kernel
theorem dL_foretold_409 : decode cL_foretold 409 = .ok (.invokestatic 336, 3) := by decide +kernel
theorem dL_foretold_412 : decode cL_foretold 412 = .ok (.iload 9, 2) := by decide +kernel
theorem dL_foretold_414 : decode cL_foretold 414 = .ok (.if_icmp .ne 42, 3) := by decide +kernel
theorem dL_foretold_417 : decode cL_foretold 417 = .ok (.iload 11, 2) := by decide +kernel
theorem dL_foretold_419 : decode cL_foretold 419 = .ok (.ifCond .ne 33, 3) := by decide +kernel
theorem dL_foretold_422 : decode cL_foretold 422 = .ok (.iload 10, 2) := by decide +kernel
theorem dL_foretold_424 : decode cL_foretold 424 = .ok (.ifCond .lt 28, 3) := by decide +kernel
theorem dL_foretold_427 : decode cL_foretold 427 = .ok (.iload 10, 2) := by decide +kernel
theorem dL_foretold_429 : decode cL_foretold 429 = .ok (.iload 8, 2) := by decide +kernel
theorem dL_foretold_431 : decode cL_foretold 431 = .ok (.if_icmp .gt 21, 3) := by decide +kernel
theorem dL_foretold_434 : decode cL_foretold 434 = .ok (.aload_n 0, 1) := by decide +kernel
theorem dL_foretold_435 : decode cL_foretold 435 = .ok (.iload 6, 2) := by decide +kernel
theorem dL_foretold_437 : decode cL_foretold 437 = .ok (.iload 7, 2) := by decide +kernel
theorem dL_foretold_439 : decode cL_foretold 439 = .ok (.invokestatic 239, 3) := by decide +kernel
theorem dL_foretold_442 : decode cL_foretold 442 = .ok (.iload 16, 2) := by decide +kernel
theorem dL_foretold_444 : decode cL_foretold 444 = .ok (.iload 10, 2) := by decide +kernel
theorem dL_foretold_446 : decode cL_foretold 446 = .ok (.iadd, 1) := by decide +kernel
theorem dL_foretold_447 : decode cL_foretold 447 = .ok (.iconst 1, 1) := by decide +kernel
theorem dL_foretold_448 : decode cL_foretold 448 = .ok (.isub, 1) := by decide +kernel
theorem dL_foretold_449 : decode cL_foretold 449 = .ok (.if_icmp .ne 7, 3) := by decide +kernel
theorem dL_foretold_452 : decode cL_foretold 452 = .ok (.iconst 1, 1) := by decide +kernel
theorem dL_foretold_453 : decode cL_foretold 453 = .ok (.goto 4, 3) := by decide +kernel
theorem dL_foretold_456 : decode cL_foretold 456 = .ok (.iconst 0, 1) := by decide +kernel
theorem dL_foretold_457 : decode cL_foretold 457 = .ok (.iand, 1) := by decide +kernel
theorem dL_foretold_458 : decode cL_foretold 458 = .ok (.istore_n 3, 1) := by decide +kernel
theorem dL_foretold_459 : decode cL_foretold 459 = .ok (.aload_n 0, 1) := by decide +kernel
theorem dL_foretold_460 : decode cL_foretold 460 = .ok (.invokestatic 340, 3) := by decide +kernel
theorem dL_foretold_463 : decode cL_foretold 463 = .ok (.iload_n 2, 1) := by decide +kernel
theorem dL_foretold_464 : decode cL_foretold 464 = .ok (.if_icmp .ne 11, 3) := by decide +kernel
theorem dL_foretold_467 : decode cL_foretold 467 = .ok (.iload_n 3, 1) := by decide +kernel
theorem dL_foretold_468 : decode cL_foretold 468 = .ok (.ifCond .eq 7, 3) := by decide +kernel
theorem dL_foretold_471 : decode cL_foretold 471 = .ok (.iconst 1, 1) := by decide +kernel
theorem dL_foretold_472 : decode cL_foretold 472 = .ok (.goto 4, 3) := by decide +kernel
theorem dL_foretold_475 : decode cL_foretold 475 = .ok (.iconst 0, 1) := by decide +kernel
theorem dL_foretold_476 : decode cL_foretold 476 = .ok (.ireturn, 1) := by decide +kernel
theorem dL_law_0 : decode cL_law 0 = .ok (.new 8, 3) := by decide +kernel
theorem dL_law_3 : decode cL_law 3 = .ok (.dup, 1) := by decide +kernel
theorem dL_law_4 : decode cL_law 4 = .ok (.invokespecial 343, 3) := by decide +kernel
theorem dL_law_7 : decode cL_law 7 = .ok (.astore_n 1, 1) := by decide +kernel
theorem dL_law_8 : decode cL_law 8 = .ok (.iconst 0, 1) := by decide +kernel
theorem dL_law_9 : decode cL_law 9 = .ok (.istore_n 2, 1) := by decide +kernel
theorem dL_law_10 : decode cL_law 10 = .ok (.aload_n 1, 1) := by decide +kernel
theorem dL_law_11 : decode cL_law 11 = .ok (.invokestatic 344, 3) := by decide +kernel
theorem dL_law_14 : decode cL_law 14 = .ok (.iconst (-1), 1) := by decide +kernel
theorem dL_law_15 : decode cL_law 15 = .ok (.if_icmp .ne 202, 3) := by decide +kernel
theorem dL_law_18 : decode cL_law 18 = .ok (.aload_n 1, 1) := by decide +kernel
theorem dL_law_19 : decode cL_law 19 = .ok (.invokestatic 340, 3) := by decide +kernel
theorem dL_law_22 : decode cL_law 22 = .ok (.iconst (-1), 1) := by decide +kernel
theorem dL_law_23 : decode cL_law 23 = .ok (.if_icmp .ne 194, 3) := by decide +kernel
theorem dL_law_26 : decode cL_law 26 = .ok (.aload_n 1, 1) := by decide +kernel
theorem dL_law_27 : decode cL_law 27 = .ok (.invokestatic 346, 3) := by decide +kernel
theorem dL_law_30 : decode cL_law 30 = .ok (.iconst (-1), 1) := by decide +kernel
theorem dL_law_31 : decode cL_law 31 = .ok (.if_icmp .ne 186, 3) := by decide +kernel
theorem dL_law_34 : decode cL_law 34 = .ok (.aload_n 1, 1) := by decide +kernel
theorem dL_law_35 : decode cL_law 35 = .ok (.invokestatic 348, 3) := by decide +kernel
theorem dL_law_38 : decode cL_law 38 = .ok (.iconst (-1), 1) := by decide +kernel
theorem dL_law_39 : decode cL_law 39 = .ok (.if_icmp .ne 178, 3) := by decide +kernel
theorem dL_law_42 : decode cL_law 42 = .ok (.aload_n 1, 1) := by decide +kernel
theorem dL_law_43 : decode cL_law 43 = .ok (.invokestatic 350, 3) := by decide +kernel
theorem dL_law_46 : decode cL_law 46 = .ok (.iconst (-1), 1) := by decide +kernel
theorem dL_law_47 : decode cL_law 47 = .ok (.if_icmp .ne 170, 3) := by decide +kernel
theorem dL_law_50 : decode cL_law 50 = .ok (.aload_n 1, 1) := by decide +kernel
theorem dL_law_51 : decode cL_law 51 = .ok (.invokestatic 346, 3) := by decide +kernel
theorem dL_law_54 : decode cL_law 54 = .ok (.ifCond .ne 163, 3) := by decide +kernel
theorem dL_law_57 : decode cL_law 57 = .ok (.aload_n 1, 1) := by decide +kernel
theorem dL_law_58 : decode cL_law 58 = .ok (.iconst 0, 1) := by decide +kernel
theorem dL_law_59 : decode cL_law 59 = .ok (.invokestatic 160, 3) := by decide +kernel
theorem dL_law_62 : decode cL_law 62 = .ok (.iconst (-1), 1) := by decide +kernel
theorem dL_law_63 : decode cL_law 63 = .ok (.if_icmp .ne 154, 3) := by decide +kernel
theorem dL_law_66 : decode cL_law 66 = .ok (.aload_n 1, 1) := by decide +kernel
theorem dL_law_67 : decode cL_law 67 = .ok (.iconst 4, 1) := by decide +kernel
theorem dL_law_68 : decode cL_law 68 = .ok (.iconst 0, 1) := by decide +kernel
theorem dL_law_69 : decode cL_law 69 = .ok (.invokestatic 204, 3) := by decide +kernel
theorem dL_law_72 : decode cL_law 72 = .ok (.iconst (-1), 1) := by decide +kernel
theorem dL_law_73 : decode cL_law 73 = .ok (.if_icmp .ne 144, 3) := by decide +kernel
theorem dL_law_76 : decode cL_law 76 = .ok (.aload_n 1, 1) := by decide +kernel
theorem dL_law_77 : decode cL_law 77 = .ok (.iconst 0, 1) := by decide +kernel
theorem dL_law_78 : decode cL_law 78 = .ok (.bipush 10, 2) := by decide +kernel
theorem dL_law_80 : decode cL_law 80 = .ok (.invokestatic 204, 3) := by decide +kernel
theorem dL_law_83 : decode cL_law 83 = .ok (.iconst (-1), 1) := by decide +kernel
theorem dL_law_84 : decode cL_law 84 = .ok (.if_icmp .ne 133, 3) := by decide +kernel
theorem dL_law_87 : decode cL_law 87 = .ok (.aload_n 1, 1) := by decide +kernel
theorem dL_law_88 : decode cL_law 88 = .ok (.iconst 0, 1) := by decide +kernel
theorem dL_law_89 : decode cL_law 89 = .ok (.iconst 0, 1) := by decide +kernel
theorem dL_law_90 : decode cL_law 90 = .ok (.invokestatic 207, 3) := by decide +kernel
theorem dL_law_93 : decode cL_law 93 = .ok (.iconst (-1), 1) := by decide +kernel
theorem dL_law_94 : decode cL_law 94 = .ok (.if_icmp .ne 123, 3) := by decide +kernel
theorem dL_law_97 : decode cL_law 97 = .ok (.aload_n 1, 1) := by decide +kernel
theorem dL_law_98 : decode cL_law 98 = .ok (.iconst 0, 1) := by decide +kernel
theorem dL_law_99 : decode cL_law 99 = .ok (.bipush 10, 2) := by decide +kernel
theorem dL_law_101 : decode cL_law 101 = .ok (.invokestatic 213, 3) := by decide +kernel
theorem dL_law_104 : decode cL_law 104 = .ok (.iconst (-1), 1) := by decide +kernel
theorem dL_law_105 : decode cL_law 105 = .ok (.if_icmp .ne 112, 3) := by decide +kernel
theorem dL_law_108 : decode cL_law 108 = .ok (.aload_n 1, 1) := by decide +kernel
theorem dL_law_109 : decode cL_law 109 = .ok (.iconst 0, 1) := by decide +kernel
theorem dL_law_110 : decode cL_law 110 = .ok (.iconst 0, 1) := by decide +kernel
theorem dL_law_111 : decode cL_law 111 = .ok (.invokestatic 215, 3) := by decide +kernel
theorem dL_law_114 : decode cL_law 114 = .ok (.iconst (-1), 1) := by decide +kernel
theorem dL_law_115 : decode cL_law 115 = .ok (.if_icmp .ne 102, 3) := by decide +kernel
theorem dL_law_118 : decode cL_law 118 = .ok (.aload_n 1, 1) := by decide +kernel
theorem dL_law_119 : decode cL_law 119 = .ok (.iconst 0, 1) := by decide +kernel
theorem dL_law_120 : decode cL_law 120 = .ok (.invokestatic 217, 3) := by decide +kernel
theorem dL_law_123 : decode cL_law 123 = .ok (.iconst (-1), 1) := by decide +kernel
theorem dL_law_124 : decode cL_law 124 = .ok (.if_icmp .ne 93, 3) := by decide +kernel
theorem dL_law_127 : decode cL_law 127 = .ok (.aload_n 1, 1) := by decide +kernel
theorem dL_law_128 : decode cL_law 128 = .ok (.iconst 0, 1) := by decide +kernel
theorem dL_law_129 : decode cL_law 129 = .ok (.invokestatic 221, 3) := by decide +kernel
theorem dL_law_132 : decode cL_law 132 = .ok (.iconst (-1), 1) := by decide +kernel
theorem dL_law_133 : decode cL_law 133 = .ok (.if_icmp .ne 84, 3) := by decide +kernel
theorem dL_law_136 : decode cL_law 136 = .ok (.aload_n 1, 1) := by decide +kernel
theorem dL_law_137 : decode cL_law 137 = .ok (.bipush 21, 2) := by decide +kernel
theorem dL_law_139 : decode cL_law 139 = .ok (.invokestatic 221, 3) := by decide +kernel
theorem dL_law_142 : decode cL_law 142 = .ok (.iconst (-1), 1) := by decide +kernel
theorem dL_law_143 : decode cL_law 143 = .ok (.if_icmp .ne 74, 3) := by decide +kernel
theorem dL_law_146 : decode cL_law 146 = .ok (.aload_n 1, 1) := by decide +kernel
theorem dL_law_147 : decode cL_law 147 = .ok (.invokestatic 277, 3) := by decide +kernel
theorem dL_law_150 : decode cL_law 150 = .ok (.ldc2_w 120, 3) := by decide +kernel
theorem dL_law_153 : decode cL_law 153 = .ok (.dcmp .l, 1) := by decide +kernel
theorem dL_law_154 : decode cL_law 154 = .ok (.ifCond .ne 63, 3) := by decide +kernel
theorem dL_law_157 : decode cL_law 157 = .ok (.aload_n 1, 1) := by decide +kernel
theorem dL_law_158 : decode cL_law 158 = .ok (.invokestatic 280, 3) := by decide +kernel
theorem dL_law_161 : decode cL_law 161 = .ok (.ldc 126, 2) := by decide +kernel
theorem dL_law_163 : decode cL_law 163 = .ok (.fcmp .l, 1) := by decide +kernel
theorem dL_law_164 : decode cL_law 164 = .ok (.ifCond .ne 53, 3) := by decide +kernel
theorem dL_law_167 : decode cL_law 167 = .ok (.aload_n 1, 1) := by decide +kernel
theorem dL_law_168 : decode cL_law 168 = .ok (.invokevirtual 286, 3) := by decide +kernel
theorem dL_law_171 : decode cL_law 171 = .ok (.ifCond .ne 46, 3) := by decide +kernel
theorem dL_law_174 : decode cL_law 174 = .ok (.aload_n 1, 1) := by decide +kernel
theorem dL_law_175 : decode cL_law 175 = .ok (.iconst 0, 1) := by decide +kernel
theorem dL_law_176 : decode cL_law 176 = .ok (.invokestatic 315, 3) := by decide +kernel
theorem dL_law_179 : decode cL_law 179 = .ok (.iconst (-1), 1) := by decide +kernel
theorem dL_law_180 : decode cL_law 180 = .ok (.if_icmp .ne 37, 3) := by decide +kernel
theorem dL_law_183 : decode cL_law 183 = .ok (.aload_n 1, 1) := by decide +kernel
theorem dL_law_184 : decode cL_law 184 = .ok (.iconst 0, 1) := by decide +kernel
theorem dL_law_185 : decode cL_law 185 = .ok (.invokestatic 232, 3) := by decide +kernel
theorem dL_law_188 : decode cL_law 188 = .ok (.iconst (-1), 1) := by decide +kernel
theorem dL_law_189 : decode cL_law 189 = .ok (.if_icmp .ne 28, 3) := by decide +kernel
theorem dL_law_192 : decode cL_law 192 = .ok (.aload_n 1, 1) := by decide +kernel
theorem dL_law_193 : decode cL_law 193 = .ok (.iconst 0, 1) := by decide +kernel
theorem dL_law_194 : decode cL_law 194 = .ok (.invokestatic 223, 3) := by decide +kernel
theorem dL_law_197 : decode cL_law 197 = .ok (.ifCond .ne 20, 3) := by decide +kernel
theorem dL_law_200 : decode cL_law 200 = .ok (.aload_n 1, 1) := by decide +kernel
theorem dL_law_201 : decode cL_law 201 = .ok (.bipush 127, 2) := by decide +kernel
theorem dL_law_203 : decode cL_law 203 = .ok (.invokestatic 181, 3) := by decide +kernel
theorem dL_law_206 : decode cL_law 206 = .ok (.iconst (-1), 1) := by decide +kernel
theorem dL_law_207 : decode cL_law 207 = .ok (.if_icmp .ne 10, 3) := by decide +kernel
theorem dL_law_210 : decode cL_law 210 = .ok (.aload_n 1, 1) := by decide +kernel
theorem dL_law_211 : decode cL_law 211 = .ok (.invokevirtual 292, 3) := by decide +kernel
theorem dL_law_214 : decode cL_law 214 = .ok (.ifCond .ne 5, 3) := by decide +kernel
theorem dL_law_217 : decode cL_law 217 = .ok (.iconst 0, 1) := by decide +kernel
theorem dL_law_218 : decode cL_law 218 = .ok (.ireturn, 1) := by decide +kernel
theorem dL_law_219 : decode cL_law 219 = .ok (.aload_n 1, 1) := by decide +kernel
theorem dL_law_220 : decode cL_law 220 = .ok (.invokestatic 352, 3) := by decide +kernel
theorem dL_law_223 : decode cL_law 223 = .ok (.istore_n 3, 1) := by decide +kernel
theorem dL_law_224 : decode cL_law 224 = .ok (.iconst 0, 1) := by decide +kernel
theorem dL_law_225 : decode cL_law 225 = .ok (.istore 4, 2) := by decide +kernel
theorem dL_law_227 : decode cL_law 227 = .ok (.iload 4, 2) := by decide +kernel
theorem dL_law_229 : decode cL_law 229 = .ok (.bipush 12, 2) := by decide +kernel
theorem dL_law_231 : decode cL_law 231 = .ok (.if_icmp .ge 170, 3) := by decide +kernel
theorem dL_law_234 : decode cL_law 234 = .ok (.aload_n 0, 1) := by decide +kernel
theorem dL_law_235 : decode cL_law 235 = .ok (.iload_n 2, 1) := by decide +kernel
theorem dL_law_236 : decode cL_law 236 = .ok (.invokestatic 355, 3) := by decide +kernel
theorem dL_law_239 : decode cL_law 239 = .ok (.sipush 255, 3) := by decide +kernel
theorem dL_law_242 : decode cL_law 242 = .ok (.iand, 1) := by decide +kernel
theorem dL_law_243 : decode cL_law 243 = .ok (.istore 5, 2) := by decide +kernel
theorem dL_law_245 : decode cL_law 245 = .ok (.new 185, 3) := by decide +kernel
theorem dL_law_248 : decode cL_law 248 = .ok (.dup, 1) := by decide +kernel
theorem dL_law_249 : decode cL_law 249 = .ok (.aload_n 0, 1) := by decide +kernel
theorem dL_law_250 : decode cL_law 250 = .ok (.iload_n 2, 1) := by decide +kernel
theorem dL_law_251 : decode cL_law 251 = .ok (.iconst 1, 1) := by decide +kernel
theorem dL_law_252 : decode cL_law 252 = .ok (.iadd, 1) := by decide +kernel
theorem dL_law_253 : decode cL_law 253 = .ok (.invokestatic 355, 3) := by decide +kernel
theorem dL_law_256 : decode cL_law 256 = .ok (.invokespecial 359, 3) := by decide +kernel
theorem dL_law_259 : decode cL_law 259 = .ok (.astore 6, 2) := by decide +kernel
theorem dL_law_261 : decode cL_law 261 = .ok (.iinc 2 2, 3) := by decide +kernel
theorem dL_law_264 : decode cL_law 264 = .ok (.aload_n 1, 1) := by decide +kernel
theorem dL_law_265 : decode cL_law 265 = .ok (.invokestatic 362, 3) := by decide +kernel
theorem dL_law_268 : decode cL_law 268 = .ok (.astore 7, 2) := by decide +kernel
theorem dL_law_270 : decode cL_law 270 = .ok (.aload_n 1, 1) := by decide +kernel
theorem dL_law_271 : decode cL_law 271 = .ok (.iload 5, 2) := by decide +kernel
theorem dL_law_273 : decode cL_law 273 = .ok (.aload 6, 2) := by decide +kernel
theorem dL_law_275 : decode cL_law 275 = .ok (.invokestatic 366, 3) := by decide +kernel
theorem dL_law_278 : decode cL_law 278 = .ok (.istore 8, 2) := by decide +kernel
theorem dL_law_280 : decode cL_law 280 = .ok (.iload 8, 2) := by decide +kernel
theorem dL_law_282 : decode cL_law 282 = .ok (.ifCond .ge 17, 3) := by decide +kernel
theorem dL_law_285 : decode cL_law 285 = .ok (.aload 7, 2) := by decide +kernel
theorem dL_law_287 : decode cL_law 287 = .ok (.aload_n 1, 1) := by decide +kernel
theorem dL_law_288 : decode cL_law 288 = .ok (.invokestatic 362, 3) := by decide +kernel
theorem dL_law_291 : decode cL_law 291 = .ok (.invokevirtual 273, 3) := by decide +kernel
theorem dL_law_294 : decode cL_law 294 = .ok (.ifCond .ne 5, 3) := by decide +kernel
theorem dL_law_297 : decode cL_law 297 = .ok (.iconst 0, 1) := by decide +kernel
theorem dL_law_298 : decode cL_law 298 = .ok (.ireturn, 1) := by decide +kernel
theorem dL_law_299 : decode cL_law 299 = .ok (.iload 8, 2) := by decide +kernel
theorem dL_law_301 : decode cL_law 301 = .ok (.ifCond .lt 33, 3) := by decide +kernel
theorem dL_law_304 : decode cL_law 304 = .ok (.aload 6, 2) := by decide +kernel
theorem dL_law_306 : decode cL_law 306 = .ok (.iconst 4, 1) := by decide +kernel
theorem dL_law_307 : decode cL_law 307 = .ok (.invokevirtual 184, 3) := by decide +kernel
theorem dL_law_310 : decode cL_law 310 = .ok (.ifCond .ne 24, 3) := by decide +kernel
theorem dL_law_313 : decode cL_law 313 = .ok (.aload_n 1, 1) := by decide +kernel
theorem dL_law_314 : decode cL_law 314 = .ok (.invokestatic 344, 3) := by decide +kernel
theorem dL_law_317 : decode cL_law 317 = .ok (.ifCond .lt 15, 3) := by decide +kernel
theorem dL_law_320 : decode cL_law 320 = .ok (.aload 7, 2) := by decide +kernel
theorem dL_law_322 : decode cL_law 322 = .ok (.aload_n 1, 1) := by decide +kernel
theorem dL_law_323 : decode cL_law 323 = .ok (.invokestatic 362, 3) := by decide +kernel
theorem dL_law_326 : decode cL_law 326 = .ok (.invokevirtual 273, 3) := by decide +kernel
theorem dL_law_329 : decode cL_law 329 = .ok (.ifCond .ne 5, 3) := by decide +kernel
theorem dL_law_332 : decode cL_law 332 = .ok (.iconst 0, 1) := by decide +kernel
theorem dL_law_333 : decode cL_law 333 = .ok (.ireturn, 1) := by decide +kernel
theorem dL_law_334 : decode cL_law 334 = .ok (.aload_n 1, 1) := by decide +kernel
theorem dL_law_335 : decode cL_law 335 = .ok (.invokestatic 370, 3) := by decide +kernel
theorem dL_law_338 : decode cL_law 338 = .ok (.ifCond .eq 10, 3) := by decide +kernel
theorem dL_law_341 : decode cL_law 341 = .ok (.aload_n 1, 1) := by decide +kernel
theorem dL_law_342 : decode cL_law 342 = .ok (.invokestatic 374, 3) := by decide +kernel
theorem dL_law_345 : decode cL_law 345 = .ok (.ifCond .ne 5, 3) := by decide +kernel
theorem dL_law_348 : decode cL_law 348 = .ok (.iconst 0, 1) := by decide +kernel
theorem dL_law_349 : decode cL_law 349 = .ok (.ireturn, 1) := by decide +kernel
theorem dL_law_350 : decode cL_law 350 = .ok (.iload 4, 2) := by decide +kernel
theorem dL_law_352 : decode cL_law 352 = .ok (.iconst 3, 1) := by decide +kernel
theorem dL_law_353 : decode cL_law 353 = .ok (.irem, 1) := by decide +kernel
theorem dL_law_354 : decode cL_law 354 = .ok (.iconst 2, 1) := by decide +kernel
theorem dL_law_355 : decode cL_law 355 = .ok (.if_icmp .ne 40, 3) := by decide +kernel
theorem dL_law_358 : decode cL_law 358 = .ok (.aload_n 1, 1) := by decide +kernel
theorem dL_law_359 : decode cL_law 359 = .ok (.invokestatic 362, 3) := by decide +kernel
theorem dL_law_362 : decode cL_law 362 = .ok (.astore 7, 2) := by decide +kernel
theorem dL_law_364 : decode cL_law 364 = .ok (.aload_n 1, 1) := by decide +kernel
theorem dL_law_365 : decode cL_law 365 = .ok (.aload 6, 2) := by decide +kernel
theorem dL_law_367 : decode cL_law 367 = .ok (.invokestatic 377, 3) := by decide +kernel
theorem dL_law_370 : decode cL_law 370 = .ok (.ifCond .eq 23, 3) := by decide +kernel
theorem dL_law_373 : decode cL_law 373 = .ok (.aload 7, 2) := by decide +kernel
theorem dL_law_375 : decode cL_law 375 = .ok (.aload_n 1, 1) := by decide +kernel
theorem dL_law_376 : decode cL_law 376 = .ok (.invokestatic 362, 3) := by decide +kernel
theorem dL_law_379 : decode cL_law 379 = .ok (.invokevirtual 273, 3) := by decide +kernel
theorem dL_law_382 : decode cL_law 382 = .ok (.ifCond .eq 11, 3) := by decide +kernel
theorem dL_law_385 : decode cL_law 385 = .ok (.aload_n 1, 1) := by decide +kernel
theorem dL_law_386 : decode cL_law 386 = .ok (.invokestatic 344, 3) := by decide +kernel
theorem dL_law_389 : decode cL_law 389 = .ok (.iconst (-1), 1) := by decide +kernel
theorem dL_law_390 : decode cL_law 390 = .ok (.if_icmp .eq 5, 3) := by decide +kernel
theorem dL_law_393 : decode cL_law 393 = .ok (.iconst 0, 1) := by decide +kernel
theorem dL_law_394 : decode cL_law 394 = .ok (.ireturn, 1) := by decide +kernel
theorem dL_law_395 : decode cL_law 395 = .ok (.iinc 4 1, 3) := by decide +kernel
theorem dL_law_398 : decode cL_law 398 = .ok (.goto (-171), 3) := by decide +kernel
theorem dL_law_401 : decode cL_law 401 = .ok (.iload_n 3, 1) := by decide +kernel
theorem dL_law_402 : decode cL_law 402 = .ok (.ifCond .le 7, 3) := by decide +kernel
theorem dL_law_405 : decode cL_law 405 = .ok (.iconst 1, 1) := by decide +kernel
theorem dL_law_406 : decode cL_law 406 = .ok (.goto 4, 3) := by decide +kernel
theorem dL_law_409 : decode cL_law 409 = .ok (.iconst 0, 1) := by decide +kernel
theorem dL_law_410 : decode cL_law 410 = .ok (.ireturn, 1) := by decide +kernel
