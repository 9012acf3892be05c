theorem dX0_init_0 : decode cX0_init 0 = .ok (.aload_n 0, 1) := by decide +kernel
theorem dX0_init_1 : decode cX0_init 1 = .ok (.invokespecial 3, 3) := by decide +kernel
theorem dX0_init_4 : decode cX0_init 4 = .ok (.aload_n 0, 1) := by decide +kernel
theorem dX0_init_5 : decode cX0_init 5 = .ok (.iconst 5, 1) := by decide +kernel
theorem dX0_init_6 : decode cX0_init 6 = .ok (.newarray .int, 2) := by decide +kernel
theorem dX0_init_8 : decode cX0_init 8 = .ok (.putfield 9, 3) := by decide +kernel
theorem dX0_init_11 : decode cX0_init 11 = .ok (.aload_n 0, 1) := by decide +kernel
theorem dX0_init_12 : decode cX0_init 12 = .ok (.bipush 10, 2) := by decide +kernel
theorem dX0_init_14 : decode cX0_init 14 = .ok (.anewarray 15, 3) := by decide +kernel
theorem dX0_init_17 : decode cX0_init 17 = .ok (.putfield 17, 3) := by decide +kernel
theorem dX0_init_20 : decode cX0_init 20 = .ok (.aload_n 0, 1) := by decide +kernel
theorem dX0_init_21 : decode cX0_init 21 = .ok (.iconst (-1), 1) := by decide +kernel
theorem dX0_init_22 : decode cX0_init 22 = .ok (.putfield 21, 3) := by decide +kernel
theorem dX0_init_25 : decode cX0_init 25 = .ok (.aload_n 0, 1) := by decide +kernel
theorem dX0_init_26 : decode cX0_init 26 = .ok (.iload_n 1, 1) := by decide +kernel
theorem dX0_init_27 : decode cX0_init 27 = .ok (.putfield 25, 3) := by decide +kernel
theorem dX0_init_30 : decode cX0_init 30 = .ok (.aload_n 0, 1) := by decide +kernel
theorem dX0_init_31 : decode cX0_init 31 = .ok (.iload_n 2, 1) := by decide +kernel
theorem dX0_init_32 : decode cX0_init 32 = .ok (.putfield 28, 3) := by decide +kernel
theorem dX0_init_35 : decode cX0_init 35 = .ok (.aload_n 0, 1) := by decide +kernel
theorem dX0_init_36 : decode cX0_init 36 = .ok (.iload_n 3, 1) := by decide +kernel
theorem dX0_init_37 : decode cX0_init 37 = .ok (.putfield 31, 3) := by decide +kernel
theorem dX0_init_40 : decode cX0_init 40 = .ok (.aload_n 0, 1) := by decide +kernel
theorem dX0_init_41 : decode cX0_init 41 = .ok (.iload 4, 2) := by decide +kernel
theorem dX0_init_43 : decode cX0_init 43 = .ok (.putfield 34, 3) := by decide +kernel
theorem dX0_init_46 : decode cX0_init 46 = .ok (.aload_n 0, 1) := by decide +kernel
theorem dX0_init_47 : decode cX0_init 47 = .ok (.iload 5, 2) := by decide +kernel
theorem dX0_init_49 : decode cX0_init 49 = .ok (.putfield 37, 3) := by decide +kernel
theorem dX0_init_52 : decode cX0_init 52 = .ok (.aload_n 0, 1) := by decide +kernel
theorem dX0_init_53 : decode cX0_init 53 = .ok (.iload 6, 2) := by decide +kernel
theorem dX0_init_55 : decode cX0_init 55 = .ok (.putfield 40, 3) := by decide +kernel
theorem dX0_init_58 : decode cX0_init 58 = .ok (.return_, 1) := by decide +kernel
theorem dX0_drawPrompts_0 : decode cX0_drawPrompts 0 = .ok (.iconst 0, 1) := by decide +kernel
theorem dX0_drawPrompts_1 : decode cX0_drawPrompts 1 = .ok (.istore_n 3, 1) := by decide +kernel
theorem dX0_drawPrompts_2 : decode cX0_drawPrompts 2 = .ok (.iload_n 3, 1) := by decide +kernel
theorem dX0_drawPrompts_3 : decode cX0_drawPrompts 3 = .ok (.aload_n 0, 1) := by decide +kernel
theorem dX0_drawPrompts_4 : decode cX0_drawPrompts 4 = .ok (.getfield 9, 3) := by decide +kernel
theorem dX0_drawPrompts_7 : decode cX0_drawPrompts 7 = .ok (.arraylength, 1) := by decide +kernel
theorem dX0_drawPrompts_8 : decode cX0_drawPrompts 8 = .ok (.if_icmp .ge 39, 3) := by decide +kernel
theorem dX0_drawPrompts_11 : decode cX0_drawPrompts 11 = .ok (.aload_n 0, 1) := by decide +kernel
theorem dX0_drawPrompts_12 : decode cX0_drawPrompts 12 = .ok (.getfield 9, 3) := by decide +kernel
theorem dX0_drawPrompts_15 : decode cX0_drawPrompts 15 = .ok (.iload_n 3, 1) := by decide +kernel
theorem dX0_drawPrompts_16 : decode cX0_drawPrompts 16 = .ok (.iload_n 3, 1) := by decide +kernel
theorem dX0_drawPrompts_17 : decode cX0_drawPrompts 17 = .ok (.aload_n 0, 1) := by decide +kernel
theorem dX0_drawPrompts_18 : decode cX0_drawPrompts 18 = .ok (.getfield 37, 3) := by decide +kernel
theorem dX0_drawPrompts_21 : decode cX0_drawPrompts 21 = .ok (.if_icmp .ge 18, 3) := by decide +kernel
theorem dX0_drawPrompts_24 : decode cX0_drawPrompts 24 = .ok (.iload_n 2, 1) := by decide +kernel
theorem dX0_drawPrompts_25 : decode cX0_drawPrompts 25 = .ok (.ifCond .le 14, 3) := by decide +kernel
theorem dX0_drawPrompts_28 : decode cX0_drawPrompts 28 = .ok (.iload_n 1, 1) := by decide +kernel
theorem dX0_drawPrompts_29 : decode cX0_drawPrompts 29 = .ok (.bipush 17, 2) := by decide +kernel
theorem dX0_drawPrompts_31 : decode cX0_drawPrompts 31 = .ok (.iload_n 3, 1) := by decide +kernel
theorem dX0_drawPrompts_32 : decode cX0_drawPrompts 32 = .ok (.imul, 1) := by decide +kernel
theorem dX0_drawPrompts_33 : decode cX0_drawPrompts 33 = .ok (.iadd, 1) := by decide +kernel
theorem dX0_drawPrompts_34 : decode cX0_drawPrompts 34 = .ok (.iload_n 2, 1) := by decide +kernel
theorem dX0_drawPrompts_35 : decode cX0_drawPrompts 35 = .ok (.irem, 1) := by decide +kernel
theorem dX0_drawPrompts_36 : decode cX0_drawPrompts 36 = .ok (.goto 4, 3) := by decide +kernel
theorem dX0_drawPrompts_39 : decode cX0_drawPrompts 39 = .ok (.iconst (-1), 1) := by decide +kernel
theorem dX0_drawPrompts_40 : decode cX0_drawPrompts 40 = .ok (.iastore, 1) := by decide +kernel
theorem dX0_drawPrompts_41 : decode cX0_drawPrompts 41 = .ok (.iinc 3 1, 3) := by decide +kernel
theorem dX0_drawPrompts_44 : decode cX0_drawPrompts 44 = .ok (.goto (-42), 3) := by decide +kernel
theorem dX0_drawPrompts_47 : decode cX0_drawPrompts 47 = .ok (.return_, 1) := by decide +kernel
theorem dX0_promptAt_0 : decode cX0_promptAt 0 = .ok (.iload_n 1, 1) := by decide +kernel
theorem dX0_promptAt_1 : decode cX0_promptAt 1 = .ok (.ifCond .lt 21, 3) := by decide +kernel
theorem dX0_promptAt_4 : decode cX0_promptAt 4 = .ok (.iload_n 1, 1) := by decide +kernel
theorem dX0_promptAt_5 : decode cX0_promptAt 5 = .ok (.aload_n 0, 1) := by decide +kernel
theorem dX0_promptAt_6 : decode cX0_promptAt 6 = .ok (.getfield 9, 3) := by decide +kernel
theorem dX0_promptAt_9 : decode cX0_promptAt 9 = .ok (.arraylength, 1) := by decide +kernel
theorem dX0_promptAt_10 : decode cX0_promptAt 10 = .ok (.if_icmp .ge 12, 3) := by decide +kernel
theorem dX0_promptAt_13 : decode cX0_promptAt 13 = .ok (.aload_n 0, 1) := by decide +kernel
theorem dX0_promptAt_14 : decode cX0_promptAt 14 = .ok (.getfield 9, 3) := by decide +kernel
theorem dX0_promptAt_17 : decode cX0_promptAt 17 = .ok (.iload_n 1, 1) := by decide +kernel
theorem dX0_promptAt_18 : decode cX0_promptAt 18 = .ok (.iaload, 1) := by decide +kernel
theorem dX0_promptAt_19 : decode cX0_promptAt 19 = .ok (.goto 4, 3) := by decide +kernel
theorem dX0_promptAt_22 : decode cX0_promptAt 22 = .ok (.iconst (-1), 1) := by decide +kernel
theorem dX0_promptAt_23 : decode cX0_promptAt 23 = .ok (.ireturn, 1) := by decide +kernel
theorem dX0_isOver_0 : decode cX0_isOver 0 = .ok (.aload_n 0, 1) := by decide +kernel
theorem dX0_isOver_1 : decode cX0_isOver 1 = .ok (.getfield 43, 3) := by decide +kernel
theorem dX0_isOver_4 : decode cX0_isOver 4 = .ok (.iconst 2, 1) := by decide +kernel
theorem dX0_isOver_5 : decode cX0_isOver 5 = .ok (.aload_n 0, 1) := by decide +kernel
theorem dX0_isOver_6 : decode cX0_isOver 6 = .ok (.getfield 37, 3) := by decide +kernel
theorem dX0_isOver_9 : decode cX0_isOver 9 = .ok (.imul, 1) := by decide +kernel
theorem dX0_isOver_10 : decode cX0_isOver 10 = .ok (.if_icmp .lt 7, 3) := by decide +kernel
theorem dX0_isOver_13 : decode cX0_isOver 13 = .ok (.iconst 1, 1) := by decide +kernel
theorem dX0_isOver_14 : decode cX0_isOver 14 = .ok (.goto 4, 3) := by decide +kernel
theorem dX0_isOver_17 : decode cX0_isOver 17 = .ok (.iconst 0, 1) := by decide +kernel
theorem dX0_isOver_18 : decode cX0_isOver 18 = .ok (.ireturn, 1) := by decide +kernel
theorem dX0_nextWriter_0 : decode cX0_nextWriter 0 = .ok (.aload_n 0, 1) := by decide +kernel
theorem dX0_nextWriter_1 : decode cX0_nextWriter 1 = .ok (.getfield 43, 3) := by decide +kernel
theorem dX0_nextWriter_4 : decode cX0_nextWriter 4 = .ok (.iconst 2, 1) := by decide +kernel
theorem dX0_nextWriter_5 : decode cX0_nextWriter 5 = .ok (.irem, 1) := by decide +kernel
theorem dX0_nextWriter_6 : decode cX0_nextWriter 6 = .ok (.ifCond .ne 10, 3) := by decide +kernel
theorem dX0_nextWriter_9 : decode cX0_nextWriter 9 = .ok (.aload_n 0, 1) := by decide +kernel
theorem dX0_nextWriter_10 : decode cX0_nextWriter 10 = .ok (.getfield 25, 3) := by decide +kernel
theorem dX0_nextWriter_13 : decode cX0_nextWriter 13 = .ok (.goto 7, 3) := by decide +kernel
theorem dX0_nextWriter_16 : decode cX0_nextWriter 16 = .ok (.aload_n 0, 1) := by decide +kernel
theorem dX0_nextWriter_17 : decode cX0_nextWriter 17 = .ok (.getfield 28, 3) := by decide +kernel
theorem dX0_nextWriter_20 : decode cX0_nextWriter 20 = .ok (.ireturn, 1) := by decide +kernel
theorem dX0_add_0 : decode cX0_add 0 = .ok (.aload_n 0, 1) := by decide +kernel
theorem dX0_add_1 : decode cX0_add 1 = .ok (.getfield 43, 3) := by decide +kernel
theorem dX0_add_4 : decode cX0_add 4 = .ok (.ifCond .lt 35, 3) := by decide +kernel
theorem dX0_add_7 : decode cX0_add 7 = .ok (.aload_n 0, 1) := by decide +kernel
theorem dX0_add_8 : decode cX0_add 8 = .ok (.getfield 43, 3) := by decide +kernel
theorem dX0_add_11 : decode cX0_add 11 = .ok (.aload_n 0, 1) := by decide +kernel
theorem dX0_add_12 : decode cX0_add 12 = .ok (.getfield 17, 3) := by decide +kernel
theorem dX0_add_15 : decode cX0_add 15 = .ok (.arraylength, 1) := by decide +kernel
theorem dX0_add_16 : decode cX0_add 16 = .ok (.if_icmp .ge 23, 3) := by decide +kernel
theorem dX0_add_19 : decode cX0_add 19 = .ok (.aload_n 0, 1) := by decide +kernel
theorem dX0_add_20 : decode cX0_add 20 = .ok (.getfield 17, 3) := by decide +kernel
theorem dX0_add_23 : decode cX0_add 23 = .ok (.aload_n 0, 1) := by decide +kernel
theorem dX0_add_24 : decode cX0_add 24 = .ok (.getfield 43, 3) := by decide +kernel
theorem dX0_add_27 : decode cX0_add 27 = .ok (.aload_n 1, 1) := by decide +kernel
theorem dX0_add_28 : decode cX0_add 28 = .ok (.aastore, 1) := by decide +kernel
theorem dX0_add_29 : decode cX0_add 29 = .ok (.aload_n 0, 1) := by decide +kernel
theorem dX0_add_30 : decode cX0_add 30 = .ok (.dup, 1) := by decide +kernel
theorem dX0_add_31 : decode cX0_add 31 = .ok (.getfield 43, 3) := by decide +kernel
theorem dX0_add_34 : decode cX0_add 34 = .ok (.iconst 1, 1) := by decide +kernel
theorem dX0_add_35 : decode cX0_add 35 = .ok (.iadd, 1) := by decide +kernel
theorem dX0_add_36 : decode cX0_add 36 = .ok (.putfield 43, 3) := by decide +kernel
theorem dX0_add_39 : decode cX0_add 39 = .ok (.return_, 1) := by decide +kernel
theorem dX0_writingAt_0 : decode cX0_writingAt 0 = .ok (.iload_n 1, 1) := by decide +kernel
theorem dX0_writingAt_1 : decode cX0_writingAt 1 = .ok (.ifCond .lt 8, 3) := by decide +kernel
theorem dX0_writingAt_4 : decode cX0_writingAt 4 = .ok (.iload_n 1, 1) := by decide +kernel
theorem dX0_writingAt_5 : decode cX0_writingAt 5 = .ok (.iconst 5, 1) := by decide +kernel
theorem dX0_writingAt_6 : decode cX0_writingAt 6 = .ok (.if_icmp .lt 5, 3) := by decide +kernel
theorem dX0_writingAt_9 : decode cX0_writingAt 9 = .ok (.aconst_null, 1) := by decide +kernel
theorem dX0_writingAt_10 : decode cX0_writingAt 10 = .ok (.areturn, 1) := by decide +kernel
theorem dX0_writingAt_11 : decode cX0_writingAt 11 = .ok (.iconst 2, 1) := by decide +kernel
theorem dX0_writingAt_12 : decode cX0_writingAt 12 = .ok (.iload_n 1, 1) := by decide +kernel
theorem dX0_writingAt_13 : decode cX0_writingAt 13 = .ok (.imul, 1) := by decide +kernel
theorem dX0_writingAt_14 : decode cX0_writingAt 14 = .ok (.iload_n 2, 1) := by decide +kernel
theorem dX0_writingAt_15 : decode cX0_writingAt 15 = .ok (.ifCond .eq 7, 3) := by decide +kernel
theorem dX0_writingAt_18 : decode cX0_writingAt 18 = .ok (.iconst 1, 1) := by decide +kernel
theorem dX0_writingAt_19 : decode cX0_writingAt 19 = .ok (.goto 4, 3) := by decide +kernel
theorem dX0_writingAt_22 : decode cX0_writingAt 22 = .ok (.iconst 0, 1) := by decide +kernel
theorem dX0_writingAt_23 : decode cX0_writingAt 23 = .ok (.iadd, 1) := by decide +kernel
theorem dX0_writingAt_24 : decode cX0_writingAt 24 = .ok (.istore_n 3, 1) := by decide +kernel
theorem dX0_writingAt_25 : decode cX0_writingAt 25 = .ok (.iload_n 3, 1) := by decide +kernel
theorem dX0_writingAt_26 : decode cX0_writingAt 26 = .ok (.aload_n 0, 1) := by decide +kernel
theorem dX0_writingAt_27 : decode cX0_writingAt 27 = .ok (.getfield 17, 3) := by decide +kernel
theorem dX0_writingAt_30 : decode cX0_writingAt 30 = .ok (.arraylength, 1) := by decide +kernel
theorem dX0_writingAt_31 : decode cX0_writingAt 31 = .ok (.if_icmp .ge 12, 3) := by decide +kernel
theorem dX0_writingAt_34 : decode cX0_writingAt 34 = .ok (.aload_n 0, 1) := by decide +kernel
theorem dX0_writingAt_35 : decode cX0_writingAt 35 = .ok (.getfield 17, 3) := by decide +kernel
theorem dX0_writingAt_38 : decode cX0_writingAt 38 = .ok (.iload_n 3, 1) := by decide +kernel
theorem dX0_writingAt_39 : decode cX0_writingAt 39 = .ok (.aaload, 1) := by decide +kernel
theorem dX0_writingAt_40 : decode cX0_writingAt 40 = .ok (.goto 4, 3) := by decide +kernel
theorem dX0_writingAt_43 : decode cX0_writingAt 43 = .ok (.aconst_null, 1) := by decide +kernel
theorem dX0_writingAt_44 : decode cX0_writingAt 44 = .ok (.areturn, 1) := by decide +kernel
theorem dX1_init_0 : decode cX1_init 0 = .ok (.aload_n 0, 1) := by decide +kernel
theorem dX1_init_1 : decode cX1_init 1 = .ok (.invokespecial 3, 3) := by decide +kernel
theorem dX1_init_4 : decode cX1_init 4 = .ok (.aload_n 0, 1) := by decide +kernel
theorem dX1_init_5 : decode cX1_init 5 = .ok (.iconst 4, 1) := by decide +kernel
theorem dX1_init_6 : decode cX1_init 6 = .ok (.newarray .int, 2) := by decide +kernel
theorem dX1_init_8 : decode cX1_init 8 = .ok (.putfield 9, 3) := by decide +kernel
theorem dX1_init_11 : decode cX1_init 11 = .ok (.iconst 0, 1) := by decide +kernel
theorem dX1_init_12 : decode cX1_init 12 = .ok (.istore_n 1, 1) := by decide +kernel
theorem dX1_init_13 : decode cX1_init 13 = .ok (.iload_n 1, 1) := by decide +kernel
theorem dX1_init_14 : decode cX1_init 14 = .ok (.aload_n 0, 1) := by decide +kernel
theorem dX1_init_15 : decode cX1_init 15 = .ok (.getfield 9, 3) := by decide +kernel
theorem dX1_init_18 : decode cX1_init 18 = .ok (.arraylength, 1) := by decide +kernel
theorem dX1_init_19 : decode cX1_init 19 = .ok (.if_icmp .ge 16, 3) := by decide +kernel
theorem dX1_init_22 : decode cX1_init 22 = .ok (.aload_n 0, 1) := by decide +kernel
theorem dX1_init_23 : decode cX1_init 23 = .ok (.getfield 9, 3) := by decide +kernel
theorem dX1_init_26 : decode cX1_init 26 = .ok (.iload_n 1, 1) := by decide +kernel
theorem dX1_init_27 : decode cX1_init 27 = .ok (.iconst (-1), 1) := by decide +kernel
theorem dX1_init_28 : decode cX1_init 28 = .ok (.iastore, 1) := by decide +kernel
theorem dX1_init_29 : decode cX1_init 29 = .ok (.iinc 1 1, 3) := by decide +kernel
theorem dX1_init_32 : decode cX1_init 32 = .ok (.goto (-19), 3) := by decide +kernel
theorem dX1_init_35 : decode cX1_init 35 = .ok (.return_, 1) := by decide +kernel
theorem dX1_knowsOn_0 : decode cX1_knowsOn 0 = .ok (.iload_n 1, 1) := by decide +kernel
theorem dX1_knowsOn_1 : decode cX1_knowsOn 1 = .ok (.ifCond .lt 36, 3) := by decide +kernel
theorem dX1_knowsOn_4 : decode cX1_knowsOn 4 = .ok (.iload_n 1, 1) := by decide +kernel
theorem dX1_knowsOn_5 : decode cX1_knowsOn 5 = .ok (.aload_n 0, 1) := by decide +kernel
theorem dX1_knowsOn_6 : decode cX1_knowsOn 6 = .ok (.getfield 9, 3) := by decide +kernel
theorem dX1_knowsOn_9 : decode cX1_knowsOn 9 = .ok (.arraylength, 1) := by decide +kernel
theorem dX1_knowsOn_10 : decode cX1_knowsOn 10 = .ok (.if_icmp .ge 27, 3) := by decide +kernel
theorem dX1_knowsOn_13 : decode cX1_knowsOn 13 = .ok (.aload_n 0, 1) := by decide +kernel
theorem dX1_knowsOn_14 : decode cX1_knowsOn 14 = .ok (.getfield 9, 3) := by decide +kernel
theorem dX1_knowsOn_17 : decode cX1_knowsOn 17 = .ok (.iload_n 1, 1) := by decide +kernel
theorem dX1_knowsOn_18 : decode cX1_knowsOn 18 = .ok (.iaload, 1) := by decide +kernel
theorem dX1_knowsOn_19 : decode cX1_knowsOn 19 = .ok (.iconst (-1), 1) := by decide +kernel
theorem dX1_knowsOn_20 : decode cX1_knowsOn 20 = .ok (.if_icmp .eq 17, 3) := by decide +kernel
theorem dX1_knowsOn_23 : decode cX1_knowsOn 23 = .ok (.aload_n 0, 1) := by decide +kernel
theorem dX1_knowsOn_24 : decode cX1_knowsOn 24 = .ok (.getfield 9, 3) := by decide +kernel
theorem dX1_knowsOn_27 : decode cX1_knowsOn 27 = .ok (.iload_n 1, 1) := by decide +kernel
theorem dX1_knowsOn_28 : decode cX1_knowsOn 28 = .ok (.iaload, 1) := by decide +kernel
theorem dX1_knowsOn_29 : decode cX1_knowsOn 29 = .ok (.iload_n 2, 1) := by decide +kernel
theorem dX1_knowsOn_30 : decode cX1_knowsOn 30 = .ok (.if_icmp .gt 7, 3) := by decide +kernel
theorem dX1_knowsOn_33 : decode cX1_knowsOn 33 = .ok (.iconst 1, 1) := by decide +kernel
theorem dX1_knowsOn_34 : decode cX1_knowsOn 34 = .ok (.goto 4, 3) := by decide +kernel
theorem dX1_knowsOn_37 : decode cX1_knowsOn 37 = .ok (.iconst 0, 1) := by decide +kernel
theorem dX1_knowsOn_38 : decode cX1_knowsOn 38 = .ok (.ireturn, 1) := by decide +kernel
theorem dX1_takeUp_0 : decode cX1_takeUp 0 = .ok (.iload_n 1, 1) := by decide +kernel
theorem dX1_takeUp_1 : decode cX1_takeUp 1 = .ok (.ifCond .lt 19, 3) := by decide +kernel
theorem dX1_takeUp_4 : decode cX1_takeUp 4 = .ok (.iload_n 1, 1) := by decide +kernel
theorem dX1_takeUp_5 : decode cX1_takeUp 5 = .ok (.aload_n 0, 1) := by decide +kernel
theorem dX1_takeUp_6 : decode cX1_takeUp 6 = .ok (.getfield 9, 3) := by decide +kernel
theorem dX1_takeUp_9 : decode cX1_takeUp 9 = .ok (.arraylength, 1) := by decide +kernel
theorem dX1_takeUp_10 : decode cX1_takeUp 10 = .ok (.if_icmp .ge 10, 3) := by decide +kernel
theorem dX1_takeUp_13 : decode cX1_takeUp 13 = .ok (.aload_n 0, 1) := by decide +kernel
theorem dX1_takeUp_14 : decode cX1_takeUp 14 = .ok (.getfield 9, 3) := by decide +kernel
theorem dX1_takeUp_17 : decode cX1_takeUp 17 = .ok (.iload_n 1, 1) := by decide +kernel
theorem dX1_takeUp_18 : decode cX1_takeUp 18 = .ok (.iload_n 2, 1) := by decide +kernel
theorem dX1_takeUp_19 : decode cX1_takeUp 19 = .ok (.iastore, 1) := by decide +kernel
theorem dX1_takeUp_20 : decode cX1_takeUp 20 = .ok (.return_, 1) := by decide +kernel
theorem dX1_countKnown_0 : decode cX1_countKnown 0 = .ok (.iconst 0, 1) := by decide +kernel
theorem dX1_countKnown_1 : decode cX1_countKnown 1 = .ok (.istore_n 1, 1) := by decide +kernel
theorem dX1_countKnown_2 : decode cX1_countKnown 2 = .ok (.iconst 0, 1) := by decide +kernel
theorem dX1_countKnown_3 : decode cX1_countKnown 3 = .ok (.istore_n 2, 1) := by decide +kernel
theorem dX1_countKnown_4 : decode cX1_countKnown 4 = .ok (.iload_n 2, 1) := by decide +kernel
theorem dX1_countKnown_5 : decode cX1_countKnown 5 = .ok (.aload_n 0, 1) := by decide +kernel
theorem dX1_countKnown_6 : decode cX1_countKnown 6 = .ok (.getfield 9, 3) := by decide +kernel
theorem dX1_countKnown_9 : decode cX1_countKnown 9 = .ok (.arraylength, 1) := by decide +kernel
theorem dX1_countKnown_10 : decode cX1_countKnown 10 = .ok (.if_icmp .ge 22, 3) := by decide +kernel
theorem dX1_countKnown_13 : decode cX1_countKnown 13 = .ok (.aload_n 0, 1) := by decide +kernel
theorem dX1_countKnown_14 : decode cX1_countKnown 14 = .ok (.getfield 9, 3) := by decide +kernel
theorem dX1_countKnown_17 : decode cX1_countKnown 17 = .ok (.iload_n 2, 1) := by decide +kernel
theorem dX1_countKnown_18 : decode cX1_countKnown 18 = .ok (.iaload, 1) := by decide +kernel
theorem dX1_countKnown_19 : decode cX1_countKnown 19 = .ok (.iconst (-1), 1) := by decide +kernel
theorem dX1_countKnown_20 : decode cX1_countKnown 20 = .ok (.if_icmp .eq 6, 3) := by decide +kernel
theorem dX1_countKnown_23 : decode cX1_countKnown 23 = .ok (.iinc 1 1, 3) := by decide +kernel
theorem dX1_countKnown_26 : decode cX1_countKnown 26 = .ok (.iinc 2 1, 3) := by decide +kernel
theorem dX1_countKnown_29 : decode cX1_countKnown 29 = .ok (.goto (-25), 3) := by decide +kernel
theorem dX1_countKnown_32 : decode cX1_countKnown 32 = .ok (.iload_n 1, 1) := by decide +kernel
theorem dX1_countKnown_33 : decode cX1_countKnown 33 = .ok (.ireturn, 1) := by decide +kernel
theorem dX2_init_0 : decode cX2_init 0 = .ok (.aload_n 0, 1) := by decide +kernel
theorem dX2_init_1 : decode cX2_init 1 = .ok (.invokespecial 3, 3) := by decide +kernel
theorem dX2_init_4 : decode cX2_init 4 = .ok (.return_, 1) := by decide +kernel
