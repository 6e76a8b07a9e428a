theorem dX0_init_0 : decode cX0_init 0 = .ok (.aload_n 0, 1) := by decide +kernel
theorem dX0_init_1 : decode cX0_init 1 = .ok (.invokespecial 3, 3) := by decide +kernel
theorem dX0_init_4 : decode cX0_init 4 = .ok (.aload_n 0, 1) := by decide +kernel
theorem dX0_init_5 : decode cX0_init 5 = .ok (.lconst 1, 1) := by decide +kernel
theorem dX0_init_6 : decode cX0_init 6 = .ok (.putfield 9, 3) := by decide +kernel
theorem dX0_init_9 : decode cX0_init 9 = .ok (.return_, 1) := by decide +kernel
theorem dX0_clearToZero_0 : decode cX0_clearToZero 0 = .ok (.aload_n 0, 1) := by decide +kernel
theorem dX0_clearToZero_1 : decode cX0_clearToZero 1 = .ok (.lconst 0, 1) := by decide +kernel
theorem dX0_clearToZero_2 : decode cX0_clearToZero 2 = .ok (.putfield 15, 3) := by decide +kernel
theorem dX0_clearToZero_5 : decode cX0_clearToZero 5 = .ok (.aload_n 0, 1) := by decide +kernel
theorem dX0_clearToZero_6 : decode cX0_clearToZero 6 = .ok (.lconst 1, 1) := by decide +kernel
theorem dX0_clearToZero_7 : decode cX0_clearToZero 7 = .ok (.putfield 9, 3) := by decide +kernel
theorem dX0_clearToZero_10 : decode cX0_clearToZero 10 = .ok (.return_, 1) := by decide +kernel
theorem dX0_add_0 : decode cX0_add 0 = .ok (.lload_n 1, 1) := by decide +kernel
theorem dX0_add_1 : decode cX0_add 1 = .ok (.lload_n 3, 1) := by decide +kernel
theorem dX0_add_2 : decode cX0_add 2 = .ok (.invokestatic 18, 3) := by decide +kernel
theorem dX0_add_5 : decode cX0_add 5 = .ok (.lstore 5, 2) := by decide +kernel
theorem dX0_add_7 : decode cX0_add 7 = .ok (.lload 5, 2) := by decide +kernel
theorem dX0_add_9 : decode cX0_add 9 = .ok (.lconst 0, 1) := by decide +kernel
theorem dX0_add_10 : decode cX0_add 10 = .ok (.lcmp, 1) := by decide +kernel
theorem dX0_add_11 : decode cX0_add 11 = .ok (.ifCond .ne 4, 3) := by decide +kernel
theorem dX0_add_14 : decode cX0_add 14 = .ok (.return_, 1) := by decide +kernel
theorem dX0_add_15 : decode cX0_add 15 = .ok (.lload_n 1, 1) := by decide +kernel
theorem dX0_add_16 : decode cX0_add 16 = .ok (.lload 5, 2) := by decide +kernel
theorem dX0_add_18 : decode cX0_add 18 = .ok (.ldiv, 1) := by decide +kernel
theorem dX0_add_19 : decode cX0_add 19 = .ok (.lstore 7, 2) := by decide +kernel
theorem dX0_add_21 : decode cX0_add 21 = .ok (.lload_n 3, 1) := by decide +kernel
theorem dX0_add_22 : decode cX0_add 22 = .ok (.lload 5, 2) := by decide +kernel
theorem dX0_add_24 : decode cX0_add 24 = .ok (.ldiv, 1) := by decide +kernel
theorem dX0_add_25 : decode cX0_add 25 = .ok (.lstore 9, 2) := by decide +kernel
theorem dX0_add_27 : decode cX0_add 27 = .ok (.aload_n 0, 1) := by decide +kernel
theorem dX0_add_28 : decode cX0_add 28 = .ok (.aload_n 0, 1) := by decide +kernel
theorem dX0_add_29 : decode cX0_add 29 = .ok (.getfield 15, 3) := by decide +kernel
theorem dX0_add_32 : decode cX0_add 32 = .ok (.lload 9, 2) := by decide +kernel
theorem dX0_add_34 : decode cX0_add 34 = .ok (.lmul, 1) := by decide +kernel
theorem dX0_add_35 : decode cX0_add 35 = .ok (.lload 7, 2) := by decide +kernel
theorem dX0_add_37 : decode cX0_add 37 = .ok (.aload_n 0, 1) := by decide +kernel
theorem dX0_add_38 : decode cX0_add 38 = .ok (.getfield 9, 3) := by decide +kernel
theorem dX0_add_41 : decode cX0_add 41 = .ok (.lmul, 1) := by decide +kernel
theorem dX0_add_42 : decode cX0_add 42 = .ok (.ladd, 1) := by decide +kernel
theorem dX0_add_43 : decode cX0_add 43 = .ok (.putfield 15, 3) := by decide +kernel
theorem dX0_add_46 : decode cX0_add 46 = .ok (.aload_n 0, 1) := by decide +kernel
theorem dX0_add_47 : decode cX0_add 47 = .ok (.aload_n 0, 1) := by decide +kernel
theorem dX0_add_48 : decode cX0_add 48 = .ok (.getfield 9, 3) := by decide +kernel
theorem dX0_add_51 : decode cX0_add 51 = .ok (.lload 9, 2) := by decide +kernel
theorem dX0_add_53 : decode cX0_add 53 = .ok (.lmul, 1) := by decide +kernel
theorem dX0_add_54 : decode cX0_add 54 = .ok (.putfield 9, 3) := by decide +kernel
theorem dX0_add_57 : decode cX0_add 57 = .ok (.aload_n 0, 1) := by decide +kernel
theorem dX0_add_58 : decode cX0_add 58 = .ok (.invokevirtual 22, 3) := by decide +kernel
theorem dX0_add_61 : decode cX0_add 61 = .ok (.return_, 1) := by decide +kernel
theorem dX0_lessen_0 : decode cX0_lessen 0 = .ok (.aload_n 0, 1) := by decide +kernel
theorem dX0_lessen_1 : decode cX0_lessen 1 = .ok (.getfield 15, 3) := by decide +kernel
theorem dX0_lessen_4 : decode cX0_lessen 4 = .ok (.aload_n 0, 1) := by decide +kernel
theorem dX0_lessen_5 : decode cX0_lessen 5 = .ok (.getfield 9, 3) := by decide +kernel
theorem dX0_lessen_8 : decode cX0_lessen 8 = .ok (.invokestatic 18, 3) := by decide +kernel
theorem dX0_lessen_11 : decode cX0_lessen 11 = .ok (.lstore_n 1, 1) := by decide +kernel
theorem dX0_lessen_12 : decode cX0_lessen 12 = .ok (.lload_n 1, 1) := by decide +kernel
theorem dX0_lessen_13 : decode cX0_lessen 13 = .ok (.lconst 1, 1) := by decide +kernel
theorem dX0_lessen_14 : decode cX0_lessen 14 = .ok (.lcmp, 1) := by decide +kernel
theorem dX0_lessen_15 : decode cX0_lessen 15 = .ok (.ifCond .le 23, 3) := by decide +kernel
theorem dX0_lessen_18 : decode cX0_lessen 18 = .ok (.aload_n 0, 1) := by decide +kernel
theorem dX0_lessen_19 : decode cX0_lessen 19 = .ok (.aload_n 0, 1) := by decide +kernel
theorem dX0_lessen_20 : decode cX0_lessen 20 = .ok (.getfield 15, 3) := by decide +kernel
theorem dX0_lessen_23 : decode cX0_lessen 23 = .ok (.lload_n 1, 1) := by decide +kernel
theorem dX0_lessen_24 : decode cX0_lessen 24 = .ok (.ldiv, 1) := by decide +kernel
theorem dX0_lessen_25 : decode cX0_lessen 25 = .ok (.putfield 15, 3) := by decide +kernel
theorem dX0_lessen_28 : decode cX0_lessen 28 = .ok (.aload_n 0, 1) := by decide +kernel
theorem dX0_lessen_29 : decode cX0_lessen 29 = .ok (.aload_n 0, 1) := by decide +kernel
theorem dX0_lessen_30 : decode cX0_lessen 30 = .ok (.getfield 9, 3) := by decide +kernel
theorem dX0_lessen_33 : decode cX0_lessen 33 = .ok (.lload_n 1, 1) := by decide +kernel
theorem dX0_lessen_34 : decode cX0_lessen 34 = .ok (.ldiv, 1) := by decide +kernel
theorem dX0_lessen_35 : decode cX0_lessen 35 = .ok (.putfield 9, 3) := by decide +kernel
theorem dX0_lessen_38 : decode cX0_lessen 38 = .ok (.return_, 1) := by decide +kernel
theorem dX0_commonDivisor_0 : decode cX0_commonDivisor 0 = .ok (.lload_n 0, 1) := by decide +kernel
theorem dX0_commonDivisor_1 : decode cX0_commonDivisor 1 = .ok (.lstore 4, 2) := by decide +kernel
theorem dX0_commonDivisor_3 : decode cX0_commonDivisor 3 = .ok (.lload_n 2, 1) := by decide +kernel
theorem dX0_commonDivisor_4 : decode cX0_commonDivisor 4 = .ok (.lstore 6, 2) := by decide +kernel
theorem dX0_commonDivisor_6 : decode cX0_commonDivisor 6 = .ok (.iconst 0, 1) := by decide +kernel
theorem dX0_commonDivisor_7 : decode cX0_commonDivisor 7 = .ok (.istore 8, 2) := by decide +kernel
theorem dX0_commonDivisor_9 : decode cX0_commonDivisor 9 = .ok (.iload 8, 2) := by decide +kernel
theorem dX0_commonDivisor_11 : decode cX0_commonDivisor 11 = .ok (.bipush 100, 2) := by decide +kernel
theorem dX0_commonDivisor_13 : decode cX0_commonDivisor 13 = .ok (.if_icmp .ge 31, 3) := by decide +kernel
theorem dX0_commonDivisor_16 : decode cX0_commonDivisor 16 = .ok (.lload 6, 2) := by decide +kernel
theorem dX0_commonDivisor_18 : decode cX0_commonDivisor 18 = .ok (.lconst 0, 1) := by decide +kernel
theorem dX0_commonDivisor_19 : decode cX0_commonDivisor 19 = .ok (.lcmp, 1) := by decide +kernel
theorem dX0_commonDivisor_20 : decode cX0_commonDivisor 20 = .ok (.ifCond .eq 24, 3) := by decide +kernel
theorem dX0_commonDivisor_23 : decode cX0_commonDivisor 23 = .ok (.lload 4, 2) := by decide +kernel
theorem dX0_commonDivisor_25 : decode cX0_commonDivisor 25 = .ok (.lload 6, 2) := by decide +kernel
theorem dX0_commonDivisor_27 : decode cX0_commonDivisor 27 = .ok (.lrem, 1) := by decide +kernel
theorem dX0_commonDivisor_28 : decode cX0_commonDivisor 28 = .ok (.lstore 9, 2) := by decide +kernel
theorem dX0_commonDivisor_30 : decode cX0_commonDivisor 30 = .ok (.lload 6, 2) := by decide +kernel
theorem dX0_commonDivisor_32 : decode cX0_commonDivisor 32 = .ok (.lstore 4, 2) := by decide +kernel
theorem dX0_commonDivisor_34 : decode cX0_commonDivisor 34 = .ok (.lload 9, 2) := by decide +kernel
theorem dX0_commonDivisor_36 : decode cX0_commonDivisor 36 = .ok (.lstore 6, 2) := by decide +kernel
theorem dX0_commonDivisor_38 : decode cX0_commonDivisor 38 = .ok (.iinc 8 1, 3) := by decide +kernel
theorem dX0_commonDivisor_41 : decode cX0_commonDivisor 41 = .ok (.goto (-32), 3) := by decide +kernel
theorem dX0_commonDivisor_44 : decode cX0_commonDivisor 44 = .ok (.lload 4, 2) := by decide +kernel
theorem dX0_commonDivisor_46 : decode cX0_commonDivisor 46 = .ok (.lreturn, 1) := by decide +kernel
theorem dX0_tell_0 : decode cX0_tell 0 = .ok (.iload_n 1, 1) := by decide +kernel
theorem dX0_tell_1 : decode cX0_tell 1 = .ok (.ifCond .ne 10, 3) := by decide +kernel
theorem dX0_tell_4 : decode cX0_tell 4 = .ok (.aload_n 0, 1) := by decide +kernel
theorem dX0_tell_5 : decode cX0_tell 5 = .ok (.getfield 15, 3) := by decide +kernel
theorem dX0_tell_8 : decode cX0_tell 8 = .ok (.goto 7, 3) := by decide +kernel
theorem dX0_tell_11 : decode cX0_tell 11 = .ok (.aload_n 0, 1) := by decide +kernel
theorem dX0_tell_12 : decode cX0_tell 12 = .ok (.getfield 9, 3) := by decide +kernel
theorem dX0_tell_15 : decode cX0_tell 15 = .ok (.lreturn, 1) := by decide +kernel
theorem dX0_roundedDown_0 : decode cX0_roundedDown 0 = .ok (.aload_n 0, 1) := by decide +kernel
theorem dX0_roundedDown_1 : decode cX0_roundedDown 1 = .ok (.getfield 9, 3) := by decide +kernel
theorem dX0_roundedDown_4 : decode cX0_roundedDown 4 = .ok (.lconst 0, 1) := by decide +kernel
theorem dX0_roundedDown_5 : decode cX0_roundedDown 5 = .ok (.lcmp, 1) := by decide +kernel
theorem dX0_roundedDown_6 : decode cX0_roundedDown 6 = .ok (.ifCond .ne 7, 3) := by decide +kernel
theorem dX0_roundedDown_9 : decode cX0_roundedDown 9 = .ok (.lconst 0, 1) := by decide +kernel
theorem dX0_roundedDown_10 : decode cX0_roundedDown 10 = .ok (.goto 12, 3) := by decide +kernel
theorem dX0_roundedDown_13 : decode cX0_roundedDown 13 = .ok (.aload_n 0, 1) := by decide +kernel
theorem dX0_roundedDown_14 : decode cX0_roundedDown 14 = .ok (.getfield 15, 3) := by decide +kernel
theorem dX0_roundedDown_17 : decode cX0_roundedDown 17 = .ok (.aload_n 0, 1) := by decide +kernel
theorem dX0_roundedDown_18 : decode cX0_roundedDown 18 = .ok (.getfield 9, 3) := by decide +kernel
theorem dX0_roundedDown_21 : decode cX0_roundedDown 21 = .ok (.ldiv, 1) := by decide +kernel
theorem dX0_roundedDown_22 : decode cX0_roundedDown 22 = .ok (.lreturn, 1) := by decide +kernel
theorem dX0_circledDown_0 : decode cX0_circledDown 0 = .ok (.aload_n 0, 1) := by decide +kernel
theorem dX0_circledDown_1 : decode cX0_circledDown 1 = .ok (.ldc2_w 25, 3) := by decide +kernel
theorem dX0_circledDown_4 : decode cX0_circledDown 4 = .ok (.invokevirtual 27, 3) := by decide +kernel
theorem dX0_circledDown_7 : decode cX0_circledDown 7 = .ok (.ldc2_w 31, 3) := by decide +kernel
theorem dX0_circledDown_10 : decode cX0_circledDown 10 = .ok (.ldiv, 1) := by decide +kernel
theorem dX0_circledDown_11 : decode cX0_circledDown 11 = .ok (.lreturn, 1) := by decide +kernel
theorem dX0_circledUp_0 : decode cX0_circledUp 0 = .ok (.aload_n 0, 1) := by decide +kernel
theorem dX0_circledUp_1 : decode cX0_circledUp 1 = .ok (.ldc2_w 33, 3) := by decide +kernel
theorem dX0_circledUp_4 : decode cX0_circledUp 4 = .ok (.invokevirtual 35, 3) := by decide +kernel
theorem dX0_circledUp_7 : decode cX0_circledUp 7 = .ok (.ldc2_w 31, 3) := by decide +kernel
theorem dX0_circledUp_10 : decode cX0_circledUp 10 = .ok (.ladd, 1) := by decide +kernel
theorem dX0_circledUp_11 : decode cX0_circledUp 11 = .ok (.lconst 1, 1) := by decide +kernel
theorem dX0_circledUp_12 : decode cX0_circledUp 12 = .ok (.lsub, 1) := by decide +kernel
theorem dX0_circledUp_13 : decode cX0_circledUp 13 = .ok (.ldc2_w 31, 3) := by decide +kernel
theorem dX0_circledUp_16 : decode cX0_circledUp 16 = .ok (.ldiv, 1) := by decide +kernel
theorem dX0_circledUp_17 : decode cX0_circledUp 17 = .ok (.lreturn, 1) := by decide +kernel
theorem dX0_timesDown_0 : decode cX0_timesDown 0 = .ok (.aload_n 0, 1) := by decide +kernel
theorem dX0_timesDown_1 : decode cX0_timesDown 1 = .ok (.getfield 9, 3) := by decide +kernel
theorem dX0_timesDown_4 : decode cX0_timesDown 4 = .ok (.lconst 0, 1) := by decide +kernel
theorem dX0_timesDown_5 : decode cX0_timesDown 5 = .ok (.lcmp, 1) := by decide +kernel
theorem dX0_timesDown_6 : decode cX0_timesDown 6 = .ok (.ifCond .ne 5, 3) := by decide +kernel
theorem dX0_timesDown_9 : decode cX0_timesDown 9 = .ok (.lconst 0, 1) := by decide +kernel
theorem dX0_timesDown_10 : decode cX0_timesDown 10 = .ok (.lreturn, 1) := by decide +kernel
theorem dX0_timesDown_11 : decode cX0_timesDown 11 = .ok (.aload_n 0, 1) := by decide +kernel
theorem dX0_timesDown_12 : decode cX0_timesDown 12 = .ok (.getfield 15, 3) := by decide +kernel
theorem dX0_timesDown_15 : decode cX0_timesDown 15 = .ok (.aload_n 0, 1) := by decide +kernel
theorem dX0_timesDown_16 : decode cX0_timesDown 16 = .ok (.getfield 9, 3) := by decide +kernel
theorem dX0_timesDown_19 : decode cX0_timesDown 19 = .ok (.ldiv, 1) := by decide +kernel
theorem dX0_timesDown_20 : decode cX0_timesDown 20 = .ok (.lload_n 1, 1) := by decide +kernel
theorem dX0_timesDown_21 : decode cX0_timesDown 21 = .ok (.lmul, 1) := by decide +kernel
theorem dX0_timesDown_22 : decode cX0_timesDown 22 = .ok (.aload_n 0, 1) := by decide +kernel
theorem dX0_timesDown_23 : decode cX0_timesDown 23 = .ok (.getfield 15, 3) := by decide +kernel
theorem dX0_timesDown_26 : decode cX0_timesDown 26 = .ok (.aload_n 0, 1) := by decide +kernel
theorem dX0_timesDown_27 : decode cX0_timesDown 27 = .ok (.getfield 9, 3) := by decide +kernel
theorem dX0_timesDown_30 : decode cX0_timesDown 30 = .ok (.lrem, 1) := by decide +kernel
theorem dX0_timesDown_31 : decode cX0_timesDown 31 = .ok (.lload_n 1, 1) := by decide +kernel
theorem dX0_timesDown_32 : decode cX0_timesDown 32 = .ok (.lmul, 1) := by decide +kernel
theorem dX0_timesDown_33 : decode cX0_timesDown 33 = .ok (.aload_n 0, 1) := by decide +kernel
theorem dX0_timesDown_34 : decode cX0_timesDown 34 = .ok (.getfield 9, 3) := by decide +kernel
theorem dX0_timesDown_37 : decode cX0_timesDown 37 = .ok (.ldiv, 1) := by decide +kernel
theorem dX0_timesDown_38 : decode cX0_timesDown 38 = .ok (.ladd, 1) := by decide +kernel
theorem dX0_timesDown_39 : decode cX0_timesDown 39 = .ok (.lreturn, 1) := by decide +kernel
theorem dX0_timesUp_0 : decode cX0_timesUp 0 = .ok (.aload_n 0, 1) := by decide +kernel
theorem dX0_timesUp_1 : decode cX0_timesUp 1 = .ok (.getfield 9, 3) := by decide +kernel
theorem dX0_timesUp_4 : decode cX0_timesUp 4 = .ok (.lconst 0, 1) := by decide +kernel
theorem dX0_timesUp_5 : decode cX0_timesUp 5 = .ok (.lcmp, 1) := by decide +kernel
theorem dX0_timesUp_6 : decode cX0_timesUp 6 = .ok (.ifCond .ne 5, 3) := by decide +kernel
theorem dX0_timesUp_9 : decode cX0_timesUp 9 = .ok (.lconst 0, 1) := by decide +kernel
theorem dX0_timesUp_10 : decode cX0_timesUp 10 = .ok (.lreturn, 1) := by decide +kernel
theorem dX0_timesUp_11 : decode cX0_timesUp 11 = .ok (.aload_n 0, 1) := by decide +kernel
theorem dX0_timesUp_12 : decode cX0_timesUp 12 = .ok (.getfield 15, 3) := by decide +kernel
theorem dX0_timesUp_15 : decode cX0_timesUp 15 = .ok (.aload_n 0, 1) := by decide +kernel
theorem dX0_timesUp_16 : decode cX0_timesUp 16 = .ok (.getfield 9, 3) := by decide +kernel
theorem dX0_timesUp_19 : decode cX0_timesUp 19 = .ok (.ldiv, 1) := by decide +kernel
theorem dX0_timesUp_20 : decode cX0_timesUp 20 = .ok (.lload_n 1, 1) := by decide +kernel
theorem dX0_timesUp_21 : decode cX0_timesUp 21 = .ok (.lmul, 1) := by decide +kernel
theorem dX0_timesUp_22 : decode cX0_timesUp 22 = .ok (.aload_n 0, 1) := by decide +kernel
theorem dX0_timesUp_23 : decode cX0_timesUp 23 = .ok (.getfield 15, 3) := by decide +kernel
theorem dX0_timesUp_26 : decode cX0_timesUp 26 = .ok (.aload_n 0, 1) := by decide +kernel
theorem dX0_timesUp_27 : decode cX0_timesUp 27 = .ok (.getfield 9, 3) := by decide +kernel
theorem dX0_timesUp_30 : decode cX0_timesUp 30 = .ok (.lrem, 1) := by decide +kernel
theorem dX0_timesUp_31 : decode cX0_timesUp 31 = .ok (.lload_n 1, 1) := by decide +kernel
theorem dX0_timesUp_32 : decode cX0_timesUp 32 = .ok (.lmul, 1) := by decide +kernel
theorem dX0_timesUp_33 : decode cX0_timesUp 33 = .ok (.aload_n 0, 1) := by decide +kernel
theorem dX0_timesUp_34 : decode cX0_timesUp 34 = .ok (.getfield 9, 3) := by decide +kernel
theorem dX0_timesUp_37 : decode cX0_timesUp 37 = .ok (.ladd, 1) := by decide +kernel
theorem dX0_timesUp_38 : decode cX0_timesUp 38 = .ok (.lconst 1, 1) := by decide +kernel
theorem dX0_timesUp_39 : decode cX0_timesUp 39 = .ok (.lsub, 1) := by decide +kernel
theorem dX0_timesUp_40 : decode cX0_timesUp 40 = .ok (.aload_n 0, 1) := by decide +kernel
theorem dX0_timesUp_41 : decode cX0_timesUp 41 = .ok (.getfield 9, 3) := by decide +kernel
theorem dX0_timesUp_44 : decode cX0_timesUp 44 = .ok (.ldiv, 1) := by decide +kernel
theorem dX0_timesUp_45 : decode cX0_timesUp 45 = .ok (.ladd, 1) := by decide +kernel
theorem dX0_timesUp_46 : decode cX0_timesUp 46 = .ok (.lreturn, 1) := by decide +kernel
theorem dX1_init_0 : decode cX1_init 0 = .ok (.aload_n 0, 1) := by decide +kernel
theorem dX1_init_1 : decode cX1_init 1 = .ok (.invokespecial 3, 3) := by decide +kernel
theorem dX1_init_4 : decode cX1_init 4 = .ok (.aload_n 0, 1) := by decide +kernel
theorem dX1_init_5 : decode cX1_init 5 = .ok (.bipush 12, 2) := by decide +kernel
theorem dX1_init_7 : decode cX1_init 7 = .ok (.newarray .int, 2) := by decide +kernel
theorem dX1_init_9 : decode cX1_init 9 = .ok (.putfield 9, 3) := by decide +kernel
theorem dX1_init_12 : decode cX1_init 12 = .ok (.aload_n 0, 1) := by decide +kernel
theorem dX1_init_13 : decode cX1_init 13 = .ok (.bipush 12, 2) := by decide +kernel
theorem dX1_init_15 : decode cX1_init 15 = .ok (.newarray .int, 2) := by decide +kernel
theorem dX1_init_17 : decode cX1_init 17 = .ok (.putfield 15, 3) := by decide +kernel
theorem dX1_init_20 : decode cX1_init 20 = .ok (.return_, 1) := by decide +kernel
theorem dX1_isClosed_0 : decode cX1_isClosed 0 = .ok (.aload_n 0, 1) := by decide +kernel
theorem dX1_isClosed_1 : decode cX1_isClosed 1 = .ok (.getfield 18, 3) := by decide +kernel
theorem dX1_isClosed_4 : decode cX1_isClosed 4 = .ok (.ifCond .ne 12, 3) := by decide +kernel
theorem dX1_isClosed_7 : decode cX1_isClosed 7 = .ok (.aload_n 0, 1) := by decide +kernel
theorem dX1_isClosed_8 : decode cX1_isClosed 8 = .ok (.getfield 22, 3) := by decide +kernel
theorem dX1_isClosed_11 : decode cX1_isClosed 11 = .ok (.bipush 12, 2) := by decide +kernel
theorem dX1_isClosed_13 : decode cX1_isClosed 13 = .ok (.if_icmp .lt 7, 3) := by decide +kernel
theorem dX1_isClosed_16 : decode cX1_isClosed 16 = .ok (.iconst 1, 1) := by decide +kernel
theorem dX1_isClosed_17 : decode cX1_isClosed 17 = .ok (.goto 4, 3) := by decide +kernel
theorem dX1_isClosed_20 : decode cX1_isClosed 20 = .ok (.iconst 0, 1) := by decide +kernel
theorem dX1_isClosed_21 : decode cX1_isClosed 21 = .ok (.ireturn, 1) := by decide +kernel
theorem dX1_addCorner_0 : decode cX1_addCorner 0 = .ok (.aload_n 0, 1) := by decide +kernel
theorem dX1_addCorner_1 : decode cX1_addCorner 1 = .ok (.invokevirtual 26, 3) := by decide +kernel
theorem dX1_addCorner_4 : decode cX1_addCorner 4 = .ok (.ifCond .ne 12, 3) := by decide +kernel
theorem dX1_addCorner_7 : decode cX1_addCorner 7 = .ok (.aload_n 0, 1) := by decide +kernel
theorem dX1_addCorner_8 : decode cX1_addCorner 8 = .ok (.iload_n 1, 1) := by decide +kernel
theorem dX1_addCorner_9 : decode cX1_addCorner 9 = .ok (.iload_n 2, 1) := by decide +kernel
theorem dX1_addCorner_10 : decode cX1_addCorner 10 = .ok (.invokevirtual 30, 3) := by decide +kernel
theorem dX1_addCorner_13 : decode cX1_addCorner 13 = .ok (.ifCond .ne 5, 3) := by decide +kernel
theorem dX1_addCorner_16 : decode cX1_addCorner 16 = .ok (.iconst 0, 1) := by decide +kernel
theorem dX1_addCorner_17 : decode cX1_addCorner 17 = .ok (.ireturn, 1) := by decide +kernel
theorem dX1_addCorner_18 : decode cX1_addCorner 18 = .ok (.aload_n 0, 1) := by decide +kernel
theorem dX1_addCorner_19 : decode cX1_addCorner 19 = .ok (.getfield 9, 3) := by decide +kernel
theorem dX1_addCorner_22 : decode cX1_addCorner 22 = .ok (.aload_n 0, 1) := by decide +kernel
theorem dX1_addCorner_23 : decode cX1_addCorner 23 = .ok (.getfield 22, 3) := by decide +kernel
theorem dX1_addCorner_26 : decode cX1_addCorner 26 = .ok (.iload_n 1, 1) := by decide +kernel
theorem dX1_addCorner_27 : decode cX1_addCorner 27 = .ok (.iastore, 1) := by decide +kernel
theorem dX1_addCorner_28 : decode cX1_addCorner 28 = .ok (.aload_n 0, 1) := by decide +kernel
theorem dX1_addCorner_29 : decode cX1_addCorner 29 = .ok (.getfield 15, 3) := by decide +kernel
theorem dX1_addCorner_32 : decode cX1_addCorner 32 = .ok (.aload_n 0, 1) := by decide +kernel
theorem dX1_addCorner_33 : decode cX1_addCorner 33 = .ok (.getfield 22, 3) := by decide +kernel
theorem dX1_addCorner_36 : decode cX1_addCorner 36 = .ok (.iload_n 2, 1) := by decide +kernel
theorem dX1_addCorner_37 : decode cX1_addCorner 37 = .ok (.iastore, 1) := by decide +kernel
theorem dX1_addCorner_38 : decode cX1_addCorner 38 = .ok (.aload_n 0, 1) := by decide +kernel
theorem dX1_addCorner_39 : decode cX1_addCorner 39 = .ok (.dup, 1) := by decide +kernel
theorem dX1_addCorner_40 : decode cX1_addCorner 40 = .ok (.getfield 22, 3) := by decide +kernel
theorem dX1_addCorner_43 : decode cX1_addCorner 43 = .ok (.iconst 1, 1) := by decide +kernel
theorem dX1_addCorner_44 : decode cX1_addCorner 44 = .ok (.iadd, 1) := by decide +kernel
theorem dX1_addCorner_45 : decode cX1_addCorner 45 = .ok (.putfield 22, 3) := by decide +kernel
theorem dX1_addCorner_48 : decode cX1_addCorner 48 = .ok (.iconst 1, 1) := by decide +kernel
theorem dX1_addCorner_49 : decode cX1_addCorner 49 = .ok (.ireturn, 1) := by decide +kernel
theorem dX1_canFollow_0 : decode cX1_canFollow 0 = .ok (.aload_n 0, 1) := by decide +kernel
theorem dX1_canFollow_1 : decode cX1_canFollow 1 = .ok (.getfield 22, 3) := by decide +kernel
theorem dX1_canFollow_4 : decode cX1_canFollow 4 = .ok (.ifCond .ne 5, 3) := by decide +kernel
theorem dX1_canFollow_7 : decode cX1_canFollow 7 = .ok (.iconst 1, 1) := by decide +kernel
theorem dX1_canFollow_8 : decode cX1_canFollow 8 = .ok (.ireturn, 1) := by decide +kernel
theorem dX1_canFollow_9 : decode cX1_canFollow 9 = .ok (.aload_n 0, 1) := by decide +kernel
theorem dX1_canFollow_10 : decode cX1_canFollow 10 = .ok (.getfield 22, 3) := by decide +kernel
theorem dX1_canFollow_13 : decode cX1_canFollow 13 = .ok (.iconst 1, 1) := by decide +kernel
theorem dX1_canFollow_14 : decode cX1_canFollow 14 = .ok (.isub, 1) := by decide +kernel
theorem dX1_canFollow_15 : decode cX1_canFollow 15 = .ok (.istore_n 3, 1) := by decide +kernel
theorem dX1_canFollow_16 : decode cX1_canFollow 16 = .ok (.iload_n 1, 1) := by decide +kernel
theorem dX1_canFollow_17 : decode cX1_canFollow 17 = .ok (.aload_n 0, 1) := by decide +kernel
theorem dX1_canFollow_18 : decode cX1_canFollow 18 = .ok (.getfield 9, 3) := by decide +kernel
theorem dX1_canFollow_21 : decode cX1_canFollow 21 = .ok (.iload_n 3, 1) := by decide +kernel
theorem dX1_canFollow_22 : decode cX1_canFollow 22 = .ok (.iaload, 1) := by decide +kernel
theorem dX1_canFollow_23 : decode cX1_canFollow 23 = .ok (.if_icmp .eq 19, 3) := by decide +kernel
theorem dX1_canFollow_26 : decode cX1_canFollow 26 = .ok (.iload_n 1, 1) := by decide +kernel
theorem dX1_canFollow_27 : decode cX1_canFollow 27 = .ok (.aload_n 0, 1) := by decide +kernel
theorem dX1_canFollow_28 : decode cX1_canFollow 28 = .ok (.getfield 9, 3) := by decide +kernel
theorem dX1_canFollow_31 : decode cX1_canFollow 31 = .ok (.iload_n 3, 1) := by decide +kernel
theorem dX1_canFollow_32 : decode cX1_canFollow 32 = .ok (.iaload, 1) := by decide +kernel
theorem dX1_canFollow_33 : decode cX1_canFollow 33 = .ok (.if_icmp .le 7, 3) := by decide +kernel
theorem dX1_canFollow_36 : decode cX1_canFollow 36 = .ok (.iconst 1, 1) := by decide +kernel
theorem dX1_canFollow_37 : decode cX1_canFollow 37 = .ok (.goto 4, 3) := by decide +kernel
theorem dX1_canFollow_40 : decode cX1_canFollow 40 = .ok (.iconst 0, 1) := by decide +kernel
theorem dX1_canFollow_41 : decode cX1_canFollow 41 = .ok (.ireturn, 1) := by decide +kernel
theorem dX1_canFollow_42 : decode cX1_canFollow 42 = .ok (.iload_n 3, 1) := by decide +kernel
theorem dX1_canFollow_43 : decode cX1_canFollow 43 = .ok (.ifCond .le 19, 3) := by decide +kernel
theorem dX1_canFollow_46 : decode cX1_canFollow 46 = .ok (.aload_n 0, 1) := by decide +kernel
theorem dX1_canFollow_47 : decode cX1_canFollow 47 = .ok (.getfield 9, 3) := by decide +kernel
theorem dX1_canFollow_50 : decode cX1_canFollow 50 = .ok (.iload_n 3, 1) := by decide +kernel
theorem dX1_canFollow_51 : decode cX1_canFollow 51 = .ok (.iconst 1, 1) := by decide +kernel
theorem dX1_canFollow_52 : decode cX1_canFollow 52 = .ok (.isub, 1) := by decide +kernel
theorem dX1_canFollow_53 : decode cX1_canFollow 53 = .ok (.iaload, 1) := by decide +kernel
theorem dX1_canFollow_54 : decode cX1_canFollow 54 = .ok (.iload_n 1, 1) := by decide +kernel
theorem dX1_canFollow_55 : decode cX1_canFollow 55 = .ok (.if_icmp .ne 7, 3) := by decide +kernel
theorem dX1_canFollow_58 : decode cX1_canFollow 58 = .ok (.iconst 1, 1) := by decide +kernel
theorem dX1_canFollow_59 : decode cX1_canFollow 59 = .ok (.goto 4, 3) := by decide +kernel
theorem dX1_canFollow_62 : decode cX1_canFollow 62 = .ok (.iconst 0, 1) := by decide +kernel
theorem dX1_canFollow_63 : decode cX1_canFollow 63 = .ok (.istore 4, 2) := by decide +kernel
theorem dX1_canFollow_65 : decode cX1_canFollow 65 = .ok (.iload 4, 2) := by decide +kernel
theorem dX1_canFollow_67 : decode cX1_canFollow 67 = .ok (.ifCond .ne 17, 3) := by decide +kernel
theorem dX1_canFollow_70 : decode cX1_canFollow 70 = .ok (.iload_n 2, 1) := by decide +kernel
theorem dX1_canFollow_71 : decode cX1_canFollow 71 = .ok (.aload_n 0, 1) := by decide +kernel
theorem dX1_canFollow_72 : decode cX1_canFollow 72 = .ok (.getfield 15, 3) := by decide +kernel
theorem dX1_canFollow_75 : decode cX1_canFollow 75 = .ok (.iload_n 3, 1) := by decide +kernel
theorem dX1_canFollow_76 : decode cX1_canFollow 76 = .ok (.iaload, 1) := by decide +kernel
theorem dX1_canFollow_77 : decode cX1_canFollow 77 = .ok (.if_icmp .eq 7, 3) := by decide +kernel
theorem dX1_canFollow_80 : decode cX1_canFollow 80 = .ok (.iconst 1, 1) := by decide +kernel
theorem dX1_canFollow_81 : decode cX1_canFollow 81 = .ok (.goto 4, 3) := by decide +kernel
theorem dX1_canFollow_84 : decode cX1_canFollow 84 = .ok (.iconst 0, 1) := by decide +kernel
theorem dX1_canFollow_85 : decode cX1_canFollow 85 = .ok (.ireturn, 1) := by decide +kernel
theorem dX1_radiusAt_0 : decode cX1_radiusAt 0 = .ok (.iconst (-1), 1) := by decide +kernel
theorem dX1_radiusAt_1 : decode cX1_radiusAt 1 = .ok (.istore_n 2, 1) := by decide +kernel
theorem dX1_radiusAt_2 : decode cX1_radiusAt 2 = .ok (.iconst 0, 1) := by decide +kernel
theorem dX1_radiusAt_3 : decode cX1_radiusAt 3 = .ok (.istore_n 3, 1) := by decide +kernel
theorem dX1_radiusAt_4 : decode cX1_radiusAt 4 = .ok (.iload_n 3, 1) := by decide +kernel
theorem dX1_radiusAt_5 : decode cX1_radiusAt 5 = .ok (.aload_n 0, 1) := by decide +kernel
theorem dX1_radiusAt_6 : decode cX1_radiusAt 6 = .ok (.getfield 22, 3) := by decide +kernel
theorem dX1_radiusAt_9 : decode cX1_radiusAt 9 = .ok (.if_icmp .ge 87, 3) := by decide +kernel
theorem dX1_radiusAt_12 : decode cX1_radiusAt 12 = .ok (.aload_n 0, 1) := by decide +kernel
theorem dX1_radiusAt_13 : decode cX1_radiusAt 13 = .ok (.getfield 9, 3) := by decide +kernel
theorem dX1_radiusAt_16 : decode cX1_radiusAt 16 = .ok (.iload_n 3, 1) := by decide +kernel
theorem dX1_radiusAt_17 : decode cX1_radiusAt 17 = .ok (.iaload, 1) := by decide +kernel
theorem dX1_radiusAt_18 : decode cX1_radiusAt 18 = .ok (.iload_n 1, 1) := by decide +kernel
theorem dX1_radiusAt_19 : decode cX1_radiusAt 19 = .ok (.if_icmp .ne 17, 3) := by decide +kernel
theorem dX1_radiusAt_22 : decode cX1_radiusAt 22 = .ok (.iload_n 2, 1) := by decide +kernel
theorem dX1_radiusAt_23 : decode cX1_radiusAt 23 = .ok (.aload_n 0, 1) := by decide +kernel
theorem dX1_radiusAt_24 : decode cX1_radiusAt 24 = .ok (.getfield 15, 3) := by decide +kernel
theorem dX1_radiusAt_27 : decode cX1_radiusAt 27 = .ok (.iload_n 3, 1) := by decide +kernel
theorem dX1_radiusAt_28 : decode cX1_radiusAt 28 = .ok (.iaload, 1) := by decide +kernel
theorem dX1_radiusAt_29 : decode cX1_radiusAt 29 = .ok (.invokestatic 34, 3) := by decide +kernel
theorem dX1_radiusAt_32 : decode cX1_radiusAt 32 = .ok (.istore_n 2, 1) := by decide +kernel
theorem dX1_radiusAt_33 : decode cX1_radiusAt 33 = .ok (.goto 57, 3) := by decide +kernel
theorem dX1_radiusAt_36 : decode cX1_radiusAt 36 = .ok (.iload_n 3, 1) := by decide +kernel
theorem dX1_radiusAt_37 : decode cX1_radiusAt 37 = .ok (.ifCond .le 53, 3) := by decide +kernel
theorem dX1_radiusAt_40 : decode cX1_radiusAt 40 = .ok (.aload_n 0, 1) := by decide +kernel
theorem dX1_radiusAt_41 : decode cX1_radiusAt 41 = .ok (.getfield 9, 3) := by decide +kernel
theorem dX1_radiusAt_44 : decode cX1_radiusAt 44 = .ok (.iload_n 3, 1) := by decide +kernel
theorem dX1_radiusAt_45 : decode cX1_radiusAt 45 = .ok (.iconst 1, 1) := by decide +kernel
theorem dX1_radiusAt_46 : decode cX1_radiusAt 46 = .ok (.isub, 1) := by decide +kernel
theorem dX1_radiusAt_47 : decode cX1_radiusAt 47 = .ok (.iaload, 1) := by decide +kernel
theorem dX1_radiusAt_48 : decode cX1_radiusAt 48 = .ok (.iload_n 1, 1) := by decide +kernel
theorem dX1_radiusAt_49 : decode cX1_radiusAt 49 = .ok (.if_icmp .ge 41, 3) := by decide +kernel
theorem dX1_radiusAt_52 : decode cX1_radiusAt 52 = .ok (.iload_n 1, 1) := by decide +kernel
theorem dX1_radiusAt_53 : decode cX1_radiusAt 53 = .ok (.aload_n 0, 1) := by decide +kernel
theorem dX1_radiusAt_54 : decode cX1_radiusAt 54 = .ok (.getfield 9, 3) := by decide +kernel
theorem dX1_radiusAt_57 : decode cX1_radiusAt 57 = .ok (.iload_n 3, 1) := by decide +kernel
theorem dX1_radiusAt_58 : decode cX1_radiusAt 58 = .ok (.iaload, 1) := by decide +kernel
theorem dX1_radiusAt_59 : decode cX1_radiusAt 59 = .ok (.if_icmp .ge 31, 3) := by decide +kernel
theorem dX1_radiusAt_62 : decode cX1_radiusAt 62 = .ok (.aload_n 0, 1) := by decide +kernel
theorem dX1_radiusAt_63 : decode cX1_radiusAt 63 = .ok (.getfield 9, 3) := by decide +kernel
theorem dX1_radiusAt_66 : decode cX1_radiusAt 66 = .ok (.iload_n 3, 1) := by decide +kernel
theorem dX1_radiusAt_67 : decode cX1_radiusAt 67 = .ok (.iaload, 1) := by decide +kernel
theorem dX1_radiusAt_68 : decode cX1_radiusAt 68 = .ok (.aload_n 0, 1) := by decide +kernel
theorem dX1_radiusAt_69 : decode cX1_radiusAt 69 = .ok (.getfield 9, 3) := by decide +kernel
theorem dX1_radiusAt_72 : decode cX1_radiusAt 72 = .ok (.iload_n 3, 1) := by decide +kernel
theorem dX1_radiusAt_73 : decode cX1_radiusAt 73 = .ok (.iconst 1, 1) := by decide +kernel
theorem dX1_radiusAt_74 : decode cX1_radiusAt 74 = .ok (.isub, 1) := by decide +kernel
theorem dX1_radiusAt_75 : decode cX1_radiusAt 75 = .ok (.iaload, 1) := by decide +kernel
theorem dX1_radiusAt_76 : decode cX1_radiusAt 76 = .ok (.isub, 1) := by decide +kernel
theorem dX1_radiusAt_77 : decode cX1_radiusAt 77 = .ok (.istore 4, 2) := by decide +kernel
theorem dX1_radiusAt_79 : decode cX1_radiusAt 79 = .ok (.aload_n 0, 1) := by decide +kernel
theorem dX1_radiusAt_80 : decode cX1_radiusAt 80 = .ok (.iload_n 3, 1) := by decide +kernel
theorem dX1_radiusAt_81 : decode cX1_radiusAt 81 = .ok (.iconst 0, 1) := by decide +kernel
theorem dX1_radiusAt_82 : decode cX1_radiusAt 82 = .ok (.iload_n 1, 1) := by decide +kernel
theorem dX1_radiusAt_83 : decode cX1_radiusAt 83 = .ok (.invokevirtual 40, 3) := by decide +kernel
theorem dX1_radiusAt_86 : decode cX1_radiusAt 86 = .ok (.iload 4, 2) := by decide +kernel
theorem dX1_radiusAt_88 : decode cX1_radiusAt 88 = .ok (.idiv, 1) := by decide +kernel
theorem dX1_radiusAt_89 : decode cX1_radiusAt 89 = .ok (.ireturn, 1) := by decide +kernel
theorem dX1_radiusAt_90 : decode cX1_radiusAt 90 = .ok (.iinc 3 1, 3) := by decide +kernel
theorem dX1_radiusAt_93 : decode cX1_radiusAt 93 = .ok (.goto (-89), 3) := by decide +kernel
theorem dX1_radiusAt_96 : decode cX1_radiusAt 96 = .ok (.iload_n 2, 1) := by decide +kernel
theorem dX1_radiusAt_97 : decode cX1_radiusAt 97 = .ok (.ireturn, 1) := by decide +kernel
theorem dX1_radiusOrZero_0 : decode cX1_radiusOrZero 0 = .ok (.iconst 0, 1) := by decide +kernel
theorem dX1_radiusOrZero_1 : decode cX1_radiusOrZero 1 = .ok (.aload_n 0, 1) := by decide +kernel
theorem dX1_radiusOrZero_2 : decode cX1_radiusOrZero 2 = .ok (.iload_n 1, 1) := by decide +kernel
theorem dX1_radiusOrZero_3 : decode cX1_radiusOrZero 3 = .ok (.invokevirtual 44, 3) := by decide +kernel
theorem dX1_radiusOrZero_6 : decode cX1_radiusOrZero 6 = .ok (.invokestatic 34, 3) := by decide +kernel
theorem dX1_radiusOrZero_9 : decode cX1_radiusOrZero 9 = .ok (.ireturn, 1) := by decide +kernel
theorem dX1_scaledRadius_0 : decode cX1_scaledRadius 0 = .ok (.iconst 0, 1) := by decide +kernel
theorem dX1_scaledRadius_1 : decode cX1_scaledRadius 1 = .ok (.aload_n 0, 1) := by decide +kernel
theorem dX1_scaledRadius_2 : decode cX1_scaledRadius 2 = .ok (.getfield 15, 3) := by decide +kernel
theorem dX1_scaledRadius_5 : decode cX1_scaledRadius 5 = .ok (.iload_n 1, 1) := by decide +kernel
theorem dX1_scaledRadius_6 : decode cX1_scaledRadius 6 = .ok (.iconst 1, 1) := by decide +kernel
theorem dX1_scaledRadius_7 : decode cX1_scaledRadius 7 = .ok (.isub, 1) := by decide +kernel
theorem dX1_scaledRadius_8 : decode cX1_scaledRadius 8 = .ok (.iaload, 1) := by decide +kernel
theorem dX1_scaledRadius_9 : decode cX1_scaledRadius 9 = .ok (.iload_n 2, 1) := by decide +kernel
theorem dX1_scaledRadius_10 : decode cX1_scaledRadius 10 = .ok (.isub, 1) := by decide +kernel
theorem dX1_scaledRadius_11 : decode cX1_scaledRadius 11 = .ok (.invokestatic 34, 3) := by decide +kernel
theorem dX1_scaledRadius_14 : decode cX1_scaledRadius 14 = .ok (.istore 4, 2) := by decide +kernel
theorem dX1_scaledRadius_16 : decode cX1_scaledRadius 16 = .ok (.iconst 0, 1) := by decide +kernel
theorem dX1_scaledRadius_17 : decode cX1_scaledRadius 17 = .ok (.aload_n 0, 1) := by decide +kernel
theorem dX1_scaledRadius_18 : decode cX1_scaledRadius 18 = .ok (.getfield 15, 3) := by decide +kernel
theorem dX1_scaledRadius_21 : decode cX1_scaledRadius 21 = .ok (.iload_n 1, 1) := by decide +kernel
theorem dX1_scaledRadius_22 : decode cX1_scaledRadius 22 = .ok (.iaload, 1) := by decide +kernel
theorem dX1_scaledRadius_23 : decode cX1_scaledRadius 23 = .ok (.iload_n 2, 1) := by decide +kernel
theorem dX1_scaledRadius_24 : decode cX1_scaledRadius 24 = .ok (.isub, 1) := by decide +kernel
theorem dX1_scaledRadius_25 : decode cX1_scaledRadius 25 = .ok (.invokestatic 34, 3) := by decide +kernel
theorem dX1_scaledRadius_28 : decode cX1_scaledRadius 28 = .ok (.istore 5, 2) := by decide +kernel
theorem dX1_scaledRadius_30 : decode cX1_scaledRadius 30 = .ok (.iload 4, 2) := by decide +kernel
theorem dX1_scaledRadius_32 : decode cX1_scaledRadius 32 = .ok (.aload_n 0, 1) := by decide +kernel
theorem dX1_scaledRadius_33 : decode cX1_scaledRadius 33 = .ok (.getfield 9, 3) := by decide +kernel
theorem dX1_scaledRadius_36 : decode cX1_scaledRadius 36 = .ok (.iload_n 1, 1) := by decide +kernel
theorem dX1_scaledRadius_37 : decode cX1_scaledRadius 37 = .ok (.iaload, 1) := by decide +kernel
theorem dX1_scaledRadius_38 : decode cX1_scaledRadius 38 = .ok (.iload_n 3, 1) := by decide +kernel
theorem dX1_scaledRadius_39 : decode cX1_scaledRadius 39 = .ok (.isub, 1) := by decide +kernel
theorem dX1_scaledRadius_40 : decode cX1_scaledRadius 40 = .ok (.imul, 1) := by decide +kernel
theorem dX1_scaledRadius_41 : decode cX1_scaledRadius 41 = .ok (.iload 5, 2) := by decide +kernel
theorem dX1_scaledRadius_43 : decode cX1_scaledRadius 43 = .ok (.iload_n 3, 1) := by decide +kernel
theorem dX1_scaledRadius_44 : decode cX1_scaledRadius 44 = .ok (.aload_n 0, 1) := by decide +kernel
theorem dX1_scaledRadius_45 : decode cX1_scaledRadius 45 = .ok (.getfield 9, 3) := by decide +kernel
theorem dX1_scaledRadius_48 : decode cX1_scaledRadius 48 = .ok (.iload_n 1, 1) := by decide +kernel
theorem dX1_scaledRadius_49 : decode cX1_scaledRadius 49 = .ok (.iconst 1, 1) := by decide +kernel
theorem dX1_scaledRadius_50 : decode cX1_scaledRadius 50 = .ok (.isub, 1) := by decide +kernel
theorem dX1_scaledRadius_51 : decode cX1_scaledRadius 51 = .ok (.iaload, 1) := by decide +kernel
theorem dX1_scaledRadius_52 : decode cX1_scaledRadius 52 = .ok (.isub, 1) := by decide +kernel
theorem dX1_scaledRadius_53 : decode cX1_scaledRadius 53 = .ok (.imul, 1) := by decide +kernel
theorem dX1_scaledRadius_54 : decode cX1_scaledRadius 54 = .ok (.iadd, 1) := by decide +kernel
theorem dX1_scaledRadius_55 : decode cX1_scaledRadius 55 = .ok (.ireturn, 1) := by decide +kernel
theorem dX1_measure_0 : decode cX1_measure 0 = .ok (.aload_n 1, 1) := by decide +kernel
theorem dX1_measure_1 : decode cX1_measure 1 = .ok (.invokevirtual 48, 3) := by decide +kernel
theorem dX1_measure_4 : decode cX1_measure 4 = .ok (.aload_n 0, 1) := by decide +kernel
theorem dX1_measure_5 : decode cX1_measure 5 = .ok (.aload_n 1, 1) := by decide +kernel
theorem dX1_measure_6 : decode cX1_measure 6 = .ok (.iconst 0, 1) := by decide +kernel
theorem dX1_measure_7 : decode cX1_measure 7 = .ok (.iconst 0, 1) := by decide +kernel
theorem dX1_measure_8 : decode cX1_measure 8 = .ok (.iload_n 2, 1) := by decide +kernel
theorem dX1_measure_9 : decode cX1_measure 9 = .ok (.invokevirtual 53, 3) := by decide +kernel
theorem dX1_measure_12 : decode cX1_measure 12 = .ok (.return_, 1) := by decide +kernel
theorem dX1_measureHeld_0 : decode cX1_measureHeld 0 = .ok (.aload_n 1, 1) := by decide +kernel
theorem dX1_measureHeld_1 : decode cX1_measureHeld 1 = .ok (.invokevirtual 48, 3) := by decide +kernel
theorem dX1_measureHeld_4 : decode cX1_measureHeld 4 = .ok (.aload_n 0, 1) := by decide +kernel
theorem dX1_measureHeld_5 : decode cX1_measureHeld 5 = .ok (.getfield 22, 3) := by decide +kernel
theorem dX1_measureHeld_8 : decode cX1_measureHeld 8 = .ok (.ifCond .le 24, 3) := by decide +kernel
theorem dX1_measureHeld_11 : decode cX1_measureHeld 11 = .ok (.aload_n 0, 1) := by decide +kernel
theorem dX1_measureHeld_12 : decode cX1_measureHeld 12 = .ok (.aload_n 1, 1) := by decide +kernel
theorem dX1_measureHeld_13 : decode cX1_measureHeld 13 = .ok (.aload_n 0, 1) := by decide +kernel
theorem dX1_measureHeld_14 : decode cX1_measureHeld 14 = .ok (.getfield 57, 3) := by decide +kernel
theorem dX1_measureHeld_17 : decode cX1_measureHeld 17 = .ok (.aload_n 0, 1) := by decide +kernel
theorem dX1_measureHeld_18 : decode cX1_measureHeld 18 = .ok (.getfield 9, 3) := by decide +kernel
theorem dX1_measureHeld_21 : decode cX1_measureHeld 21 = .ok (.iconst 0, 1) := by decide +kernel
theorem dX1_measureHeld_22 : decode cX1_measureHeld 22 = .ok (.iaload, 1) := by decide +kernel
theorem dX1_measureHeld_23 : decode cX1_measureHeld 23 = .ok (.aload_n 0, 1) := by decide +kernel
theorem dX1_measureHeld_24 : decode cX1_measureHeld 24 = .ok (.getfield 57, 3) := by decide +kernel
theorem dX1_measureHeld_27 : decode cX1_measureHeld 27 = .ok (.iadd, 1) := by decide +kernel
theorem dX1_measureHeld_28 : decode cX1_measureHeld 28 = .ok (.iload_n 2, 1) := by decide +kernel
theorem dX1_measureHeld_29 : decode cX1_measureHeld 29 = .ok (.invokevirtual 53, 3) := by decide +kernel
theorem dX1_measureHeld_32 : decode cX1_measureHeld 32 = .ok (.return_, 1) := by decide +kernel
theorem dX1_addPieces_0 : decode cX1_addPieces 0 = .ok (.iconst 1, 1) := by decide +kernel
theorem dX1_addPieces_1 : decode cX1_addPieces 1 = .ok (.istore 5, 2) := by decide +kernel
theorem dX1_addPieces_3 : decode cX1_addPieces 3 = .ok (.iload 5, 2) := by decide +kernel
theorem dX1_addPieces_5 : decode cX1_addPieces 5 = .ok (.aload_n 0, 1) := by decide +kernel
theorem dX1_addPieces_6 : decode cX1_addPieces 6 = .ok (.getfield 22, 3) := by decide +kernel
theorem dX1_addPieces_9 : decode cX1_addPieces 9 = .ok (.if_icmp .ge 57, 3) := by decide +kernel
theorem dX1_addPieces_12 : decode cX1_addPieces 12 = .ok (.iload_n 3, 1) := by decide +kernel
theorem dX1_addPieces_13 : decode cX1_addPieces 13 = .ok (.aload_n 0, 1) := by decide +kernel
theorem dX1_addPieces_14 : decode cX1_addPieces 14 = .ok (.getfield 9, 3) := by decide +kernel
theorem dX1_addPieces_17 : decode cX1_addPieces 17 = .ok (.iload 5, 2) := by decide +kernel
theorem dX1_addPieces_19 : decode cX1_addPieces 19 = .ok (.iconst 1, 1) := by decide +kernel
theorem dX1_addPieces_20 : decode cX1_addPieces 20 = .ok (.isub, 1) := by decide +kernel
theorem dX1_addPieces_21 : decode cX1_addPieces 21 = .ok (.iaload, 1) := by decide +kernel
theorem dX1_addPieces_22 : decode cX1_addPieces 22 = .ok (.invokestatic 34, 3) := by decide +kernel
theorem dX1_addPieces_25 : decode cX1_addPieces 25 = .ok (.istore 6, 2) := by decide +kernel
theorem dX1_addPieces_27 : decode cX1_addPieces 27 = .ok (.iload 4, 2) := by decide +kernel
theorem dX1_addPieces_29 : decode cX1_addPieces 29 = .ok (.aload_n 0, 1) := by decide +kernel
theorem dX1_addPieces_30 : decode cX1_addPieces 30 = .ok (.getfield 9, 3) := by decide +kernel
theorem dX1_addPieces_33 : decode cX1_addPieces 33 = .ok (.iload 5, 2) := by decide +kernel
theorem dX1_addPieces_35 : decode cX1_addPieces 35 = .ok (.iaload, 1) := by decide +kernel
theorem dX1_addPieces_36 : decode cX1_addPieces 36 = .ok (.invokestatic 60, 3) := by decide +kernel
theorem dX1_addPieces_39 : decode cX1_addPieces 39 = .ok (.istore 7, 2) := by decide +kernel
theorem dX1_addPieces_41 : decode cX1_addPieces 41 = .ok (.iload 6, 2) := by decide +kernel
theorem dX1_addPieces_43 : decode cX1_addPieces 43 = .ok (.iload 7, 2) := by decide +kernel
theorem dX1_addPieces_45 : decode cX1_addPieces 45 = .ok (.if_icmp .ge 15, 3) := by decide +kernel
theorem dX1_addPieces_48 : decode cX1_addPieces 48 = .ok (.aload_n 0, 1) := by decide +kernel
theorem dX1_addPieces_49 : decode cX1_addPieces 49 = .ok (.aload_n 1, 1) := by decide +kernel
theorem dX1_addPieces_50 : decode cX1_addPieces 50 = .ok (.iload 5, 2) := by decide +kernel
theorem dX1_addPieces_52 : decode cX1_addPieces 52 = .ok (.iload_n 2, 1) := by decide +kernel
theorem dX1_addPieces_53 : decode cX1_addPieces 53 = .ok (.iload 6, 2) := by decide +kernel
theorem dX1_addPieces_55 : decode cX1_addPieces 55 = .ok (.iload 7, 2) := by decide +kernel
theorem dX1_addPieces_57 : decode cX1_addPieces 57 = .ok (.invokevirtual 63, 3) := by decide +kernel
theorem dX1_addPieces_60 : decode cX1_addPieces 60 = .ok (.iinc 5 1, 3) := by decide +kernel
theorem dX1_addPieces_63 : decode cX1_addPieces 63 = .ok (.goto (-60), 3) := by decide +kernel
theorem dX1_addPieces_66 : decode cX1_addPieces 66 = .ok (.return_, 1) := by decide +kernel
theorem dX1_addPiece_0 : decode cX1_addPiece 0 = .ok (.aload_n 0, 1) := by decide +kernel
theorem dX1_addPiece_1 : decode cX1_addPiece 1 = .ok (.getfield 9, 3) := by decide +kernel
theorem dX1_addPiece_4 : decode cX1_addPiece 4 = .ok (.iload_n 2, 1) := by decide +kernel
theorem dX1_addPiece_5 : decode cX1_addPiece 5 = .ok (.iaload, 1) := by decide +kernel
theorem dX1_addPiece_6 : decode cX1_addPiece 6 = .ok (.aload_n 0, 1) := by decide +kernel
theorem dX1_addPiece_7 : decode cX1_addPiece 7 = .ok (.getfield 9, 3) := by decide +kernel
theorem dX1_addPiece_10 : decode cX1_addPiece 10 = .ok (.iload_n 2, 1) := by decide +kernel
theorem dX1_addPiece_11 : decode cX1_addPiece 11 = .ok (.iconst 1, 1) := by decide +kernel
theorem dX1_addPiece_12 : decode cX1_addPiece 12 = .ok (.isub, 1) := by decide +kernel
theorem dX1_addPiece_13 : decode cX1_addPiece 13 = .ok (.iaload, 1) := by decide +kernel
theorem dX1_addPiece_14 : decode cX1_addPiece 14 = .ok (.isub, 1) := by decide +kernel
theorem dX1_addPiece_15 : decode cX1_addPiece 15 = .ok (.i2l, 1) := by decide +kernel
theorem dX1_addPiece_16 : decode cX1_addPiece 16 = .ok (.lstore 6, 2) := by decide +kernel
theorem dX1_addPiece_18 : decode cX1_addPiece 18 = .ok (.aload_n 0, 1) := by decide +kernel
theorem dX1_addPiece_19 : decode cX1_addPiece 19 = .ok (.iload_n 2, 1) := by decide +kernel
theorem dX1_addPiece_20 : decode cX1_addPiece 20 = .ok (.iload_n 3, 1) := by decide +kernel
theorem dX1_addPiece_21 : decode cX1_addPiece 21 = .ok (.iload 4, 2) := by decide +kernel
theorem dX1_addPiece_23 : decode cX1_addPiece 23 = .ok (.invokevirtual 40, 3) := by decide +kernel
theorem dX1_addPiece_26 : decode cX1_addPiece 26 = .ok (.i2l, 1) := by decide +kernel
theorem dX1_addPiece_27 : decode cX1_addPiece 27 = .ok (.lstore 8, 2) := by decide +kernel
theorem dX1_addPiece_29 : decode cX1_addPiece 29 = .ok (.aload_n 0, 1) := by decide +kernel
theorem dX1_addPiece_30 : decode cX1_addPiece 30 = .ok (.iload_n 2, 1) := by decide +kernel
theorem dX1_addPiece_31 : decode cX1_addPiece 31 = .ok (.iload_n 3, 1) := by decide +kernel
theorem dX1_addPiece_32 : decode cX1_addPiece 32 = .ok (.iload 5, 2) := by decide +kernel
theorem dX1_addPiece_34 : decode cX1_addPiece 34 = .ok (.invokevirtual 40, 3) := by decide +kernel
theorem dX1_addPiece_37 : decode cX1_addPiece 37 = .ok (.i2l, 1) := by decide +kernel
theorem dX1_addPiece_38 : decode cX1_addPiece 38 = .ok (.lstore 10, 2) := by decide +kernel
theorem dX1_addPiece_40 : decode cX1_addPiece 40 = .ok (.aload_n 1, 1) := by decide +kernel
theorem dX1_addPiece_41 : decode cX1_addPiece 41 = .ok (.iload 5, 2) := by decide +kernel
theorem dX1_addPiece_43 : decode cX1_addPiece 43 = .ok (.iload 4, 2) := by decide +kernel
theorem dX1_addPiece_45 : decode cX1_addPiece 45 = .ok (.isub, 1) := by decide +kernel
theorem dX1_addPiece_46 : decode cX1_addPiece 46 = .ok (.i2l, 1) := by decide +kernel
theorem dX1_addPiece_47 : decode cX1_addPiece 47 = .ok (.lload 8, 2) := by decide +kernel
theorem dX1_addPiece_49 : decode cX1_addPiece 49 = .ok (.lload 8, 2) := by decide +kernel
theorem dX1_addPiece_51 : decode cX1_addPiece 51 = .ok (.lmul, 1) := by decide +kernel
theorem dX1_addPiece_52 : decode cX1_addPiece 52 = .ok (.lload 8, 2) := by decide +kernel
theorem dX1_addPiece_54 : decode cX1_addPiece 54 = .ok (.lload 10, 2) := by decide +kernel
theorem dX1_addPiece_56 : decode cX1_addPiece 56 = .ok (.lmul, 1) := by decide +kernel
theorem dX1_addPiece_57 : decode cX1_addPiece 57 = .ok (.ladd, 1) := by decide +kernel
theorem dX1_addPiece_58 : decode cX1_addPiece 58 = .ok (.lload 10, 2) := by decide +kernel
theorem dX1_addPiece_60 : decode cX1_addPiece 60 = .ok (.lload 10, 2) := by decide +kernel
theorem dX1_addPiece_62 : decode cX1_addPiece 62 = .ok (.lmul, 1) := by decide +kernel
theorem dX1_addPiece_63 : decode cX1_addPiece 63 = .ok (.ladd, 1) := by decide +kernel
theorem dX1_addPiece_64 : decode cX1_addPiece 64 = .ok (.lmul, 1) := by decide +kernel
theorem dX1_addPiece_65 : decode cX1_addPiece 65 = .ok (.ldc2_w 67, 3) := by decide +kernel
theorem dX1_addPiece_68 : decode cX1_addPiece 68 = .ok (.lload 6, 2) := by decide +kernel
theorem dX1_addPiece_70 : decode cX1_addPiece 70 = .ok (.lmul, 1) := by decide +kernel
theorem dX1_addPiece_71 : decode cX1_addPiece 71 = .ok (.lload 6, 2) := by decide +kernel
theorem dX1_addPiece_73 : decode cX1_addPiece 73 = .ok (.lmul, 1) := by decide +kernel
theorem dX1_addPiece_74 : decode cX1_addPiece 74 = .ok (.invokevirtual 69, 3) := by decide +kernel
theorem dX1_addPiece_77 : decode cX1_addPiece 77 = .ok (.return_, 1) := by decide +kernel
theorem dX1_cutAt_0 : decode cX1_cutAt 0 = .ok (.aload_n 0, 1) := by decide +kernel
theorem dX1_cutAt_1 : decode cX1_cutAt 1 = .ok (.getfield 18, 3) := by decide +kernel
theorem dX1_cutAt_4 : decode cX1_cutAt 4 = .ok (.ifCond .ne 35, 3) := by decide +kernel
theorem dX1_cutAt_7 : decode cX1_cutAt 7 = .ok (.aload_n 0, 1) := by decide +kernel
theorem dX1_cutAt_8 : decode cX1_cutAt 8 = .ok (.getfield 22, 3) := by decide +kernel
theorem dX1_cutAt_11 : decode cX1_cutAt 11 = .ok (.ifCond .eq 28, 3) := by decide +kernel
theorem dX1_cutAt_14 : decode cX1_cutAt 14 = .ok (.iload_n 1, 1) := by decide +kernel
theorem dX1_cutAt_15 : decode cX1_cutAt 15 = .ok (.aload_n 0, 1) := by decide +kernel
theorem dX1_cutAt_16 : decode cX1_cutAt 16 = .ok (.getfield 9, 3) := by decide +kernel
theorem dX1_cutAt_19 : decode cX1_cutAt 19 = .ok (.iconst 0, 1) := by decide +kernel
theorem dX1_cutAt_20 : decode cX1_cutAt 20 = .ok (.iaload, 1) := by decide +kernel
theorem dX1_cutAt_21 : decode cX1_cutAt 21 = .ok (.if_icmp .le 18, 3) := by decide +kernel
theorem dX1_cutAt_24 : decode cX1_cutAt 24 = .ok (.iload_n 1, 1) := by decide +kernel
theorem dX1_cutAt_25 : decode cX1_cutAt 25 = .ok (.aload_n 0, 1) := by decide +kernel
theorem dX1_cutAt_26 : decode cX1_cutAt 26 = .ok (.getfield 9, 3) := by decide +kernel
theorem dX1_cutAt_29 : decode cX1_cutAt 29 = .ok (.aload_n 0, 1) := by decide +kernel
theorem dX1_cutAt_30 : decode cX1_cutAt 30 = .ok (.getfield 22, 3) := by decide +kernel
theorem dX1_cutAt_33 : decode cX1_cutAt 33 = .ok (.iconst 1, 1) := by decide +kernel
theorem dX1_cutAt_34 : decode cX1_cutAt 34 = .ok (.isub, 1) := by decide +kernel
theorem dX1_cutAt_35 : decode cX1_cutAt 35 = .ok (.iaload, 1) := by decide +kernel
theorem dX1_cutAt_36 : decode cX1_cutAt 36 = .ok (.if_icmp .lt 5, 3) := by decide +kernel
theorem dX1_cutAt_39 : decode cX1_cutAt 39 = .ok (.iconst 0, 1) := by decide +kernel
theorem dX1_cutAt_40 : decode cX1_cutAt 40 = .ok (.ireturn, 1) := by decide +kernel
theorem dX1_cutAt_41 : decode cX1_cutAt 41 = .ok (.aload_n 0, 1) := by decide +kernel
theorem dX1_cutAt_42 : decode cX1_cutAt 42 = .ok (.iload_n 1, 1) := by decide +kernel
theorem dX1_cutAt_43 : decode cX1_cutAt 43 = .ok (.invokevirtual 44, 3) := by decide +kernel
theorem dX1_cutAt_46 : decode cX1_cutAt 46 = .ok (.istore_n 2, 1) := by decide +kernel
theorem dX1_cutAt_47 : decode cX1_cutAt 47 = .ok (.aload_n 0, 1) := by decide +kernel
theorem dX1_cutAt_48 : decode cX1_cutAt 48 = .ok (.iload_n 1, 1) := by decide +kernel
theorem dX1_cutAt_49 : decode cX1_cutAt 49 = .ok (.invokevirtual 73, 3) := by decide +kernel
theorem dX1_cutAt_52 : decode cX1_cutAt 52 = .ok (.istore_n 3, 1) := by decide +kernel
theorem dX1_cutAt_53 : decode cX1_cutAt 53 = .ok (.aload_n 0, 1) := by decide +kernel
theorem dX1_cutAt_54 : decode cX1_cutAt 54 = .ok (.iconst 1, 1) := by decide +kernel
theorem dX1_cutAt_55 : decode cX1_cutAt 55 = .ok (.putfield 18, 3) := by decide +kernel
theorem dX1_cutAt_58 : decode cX1_cutAt 58 = .ok (.iload_n 3, 1) := by decide +kernel
theorem dX1_cutAt_59 : decode cX1_cutAt 59 = .ok (.ifCond .le 38, 3) := by decide +kernel
theorem dX1_cutAt_62 : decode cX1_cutAt 62 = .ok (.iload_n 3, 1) := by decide +kernel
theorem dX1_cutAt_63 : decode cX1_cutAt 63 = .ok (.bipush 12, 2) := by decide +kernel
theorem dX1_cutAt_65 : decode cX1_cutAt 65 = .ok (.if_icmp .ge 32, 3) := by decide +kernel
theorem dX1_cutAt_68 : decode cX1_cutAt 68 = .ok (.aload_n 0, 1) := by decide +kernel
theorem dX1_cutAt_69 : decode cX1_cutAt 69 = .ok (.getfield 9, 3) := by decide +kernel
theorem dX1_cutAt_72 : decode cX1_cutAt 72 = .ok (.iload_n 3, 1) := by decide +kernel
theorem dX1_cutAt_73 : decode cX1_cutAt 73 = .ok (.iconst 1, 1) := by decide +kernel
theorem dX1_cutAt_74 : decode cX1_cutAt 74 = .ok (.isub, 1) := by decide +kernel
theorem dX1_cutAt_75 : decode cX1_cutAt 75 = .ok (.iaload, 1) := by decide +kernel
theorem dX1_cutAt_76 : decode cX1_cutAt 76 = .ok (.iload_n 1, 1) := by decide +kernel
theorem dX1_cutAt_77 : decode cX1_cutAt 77 = .ok (.if_icmp .eq 20, 3) := by decide +kernel
theorem dX1_cutAt_80 : decode cX1_cutAt 80 = .ok (.aload_n 0, 1) := by decide +kernel
theorem dX1_cutAt_81 : decode cX1_cutAt 81 = .ok (.getfield 9, 3) := by decide +kernel
theorem dX1_cutAt_84 : decode cX1_cutAt 84 = .ok (.iload_n 3, 1) := by decide +kernel
theorem dX1_cutAt_85 : decode cX1_cutAt 85 = .ok (.iload_n 1, 1) := by decide +kernel
theorem dX1_cutAt_86 : decode cX1_cutAt 86 = .ok (.iastore, 1) := by decide +kernel
theorem dX1_cutAt_87 : decode cX1_cutAt 87 = .ok (.aload_n 0, 1) := by decide +kernel
theorem dX1_cutAt_88 : decode cX1_cutAt 88 = .ok (.getfield 15, 3) := by decide +kernel
theorem dX1_cutAt_91 : decode cX1_cutAt 91 = .ok (.iload_n 3, 1) := by decide +kernel
theorem dX1_cutAt_92 : decode cX1_cutAt 92 = .ok (.iload_n 2, 1) := by decide +kernel
theorem dX1_cutAt_93 : decode cX1_cutAt 93 = .ok (.iastore, 1) := by decide +kernel
theorem dX1_cutAt_94 : decode cX1_cutAt 94 = .ok (.iinc 3 1, 3) := by decide +kernel
theorem dX1_cutAt_97 : decode cX1_cutAt 97 = .ok (.aload_n 0, 1) := by decide +kernel
theorem dX1_cutAt_98 : decode cX1_cutAt 98 = .ok (.iload_n 3, 1) := by decide +kernel
theorem dX1_cutAt_99 : decode cX1_cutAt 99 = .ok (.putfield 22, 3) := by decide +kernel
theorem dX1_cutAt_102 : decode cX1_cutAt 102 = .ok (.iconst 1, 1) := by decide +kernel
theorem dX1_cutAt_103 : decode cX1_cutAt 103 = .ok (.ireturn, 1) := by decide +kernel
theorem dX1_countUpTo_0 : decode cX1_countUpTo 0 = .ok (.iconst 0, 1) := by decide +kernel
theorem dX1_countUpTo_1 : decode cX1_countUpTo 1 = .ok (.istore_n 2, 1) := by decide +kernel
theorem dX1_countUpTo_2 : decode cX1_countUpTo 2 = .ok (.iconst 0, 1) := by decide +kernel
theorem dX1_countUpTo_3 : decode cX1_countUpTo 3 = .ok (.istore_n 3, 1) := by decide +kernel
theorem dX1_countUpTo_4 : decode cX1_countUpTo 4 = .ok (.iload_n 3, 1) := by decide +kernel
theorem dX1_countUpTo_5 : decode cX1_countUpTo 5 = .ok (.aload_n 0, 1) := by decide +kernel
theorem dX1_countUpTo_6 : decode cX1_countUpTo 6 = .ok (.getfield 22, 3) := by decide +kernel
theorem dX1_countUpTo_9 : decode cX1_countUpTo 9 = .ok (.if_icmp .ge 22, 3) := by decide +kernel
theorem dX1_countUpTo_12 : decode cX1_countUpTo 12 = .ok (.aload_n 0, 1) := by decide +kernel
theorem dX1_countUpTo_13 : decode cX1_countUpTo 13 = .ok (.getfield 9, 3) := by decide +kernel
theorem dX1_countUpTo_16 : decode cX1_countUpTo 16 = .ok (.iload_n 3, 1) := by decide +kernel
theorem dX1_countUpTo_17 : decode cX1_countUpTo 17 = .ok (.iaload, 1) := by decide +kernel
theorem dX1_countUpTo_18 : decode cX1_countUpTo 18 = .ok (.iload_n 1, 1) := by decide +kernel
theorem dX1_countUpTo_19 : decode cX1_countUpTo 19 = .ok (.if_icmp .gt 6, 3) := by decide +kernel
theorem dX1_countUpTo_22 : decode cX1_countUpTo 22 = .ok (.iinc 2 1, 3) := by decide +kernel
theorem dX1_countUpTo_25 : decode cX1_countUpTo 25 = .ok (.iinc 3 1, 3) := by decide +kernel
theorem dX1_countUpTo_28 : decode cX1_countUpTo 28 = .ok (.goto (-24), 3) := by decide +kernel
theorem dX1_countUpTo_31 : decode cX1_countUpTo 31 = .ok (.iload_n 2, 1) := by decide +kernel
theorem dX1_countUpTo_32 : decode cX1_countUpTo 32 = .ok (.ireturn, 1) := by decide +kernel
theorem dX1_countOffAxis_0 : decode cX1_countOffAxis 0 = .ok (.iconst 0, 1) := by decide +kernel
theorem dX1_countOffAxis_1 : decode cX1_countOffAxis 1 = .ok (.istore_n 1, 1) := by decide +kernel
theorem dX1_countOffAxis_2 : decode cX1_countOffAxis 2 = .ok (.iconst 0, 1) := by decide +kernel
theorem dX1_countOffAxis_3 : decode cX1_countOffAxis 3 = .ok (.istore_n 2, 1) := by decide +kernel
theorem dX1_countOffAxis_4 : decode cX1_countOffAxis 4 = .ok (.iload_n 2, 1) := by decide +kernel
theorem dX1_countOffAxis_5 : decode cX1_countOffAxis 5 = .ok (.aload_n 0, 1) := by decide +kernel
theorem dX1_countOffAxis_6 : decode cX1_countOffAxis 6 = .ok (.getfield 22, 3) := by decide +kernel
theorem dX1_countOffAxis_9 : decode cX1_countOffAxis 9 = .ok (.if_icmp .ge 21, 3) := by decide +kernel
theorem dX1_countOffAxis_12 : decode cX1_countOffAxis 12 = .ok (.aload_n 0, 1) := by decide +kernel
theorem dX1_countOffAxis_13 : decode cX1_countOffAxis 13 = .ok (.getfield 15, 3) := by decide +kernel
theorem dX1_countOffAxis_16 : decode cX1_countOffAxis 16 = .ok (.iload_n 2, 1) := by decide +kernel
theorem dX1_countOffAxis_17 : decode cX1_countOffAxis 17 = .ok (.iaload, 1) := by decide +kernel
theorem dX1_countOffAxis_18 : decode cX1_countOffAxis 18 = .ok (.ifCond .eq 6, 3) := by decide +kernel
theorem dX1_countOffAxis_21 : decode cX1_countOffAxis 21 = .ok (.iinc 1 1, 3) := by decide +kernel
theorem dX1_countOffAxis_24 : decode cX1_countOffAxis 24 = .ok (.iinc 2 1, 3) := by decide +kernel
theorem dX1_countOffAxis_27 : decode cX1_countOffAxis 27 = .ok (.goto (-23), 3) := by decide +kernel
theorem dX1_countOffAxis_30 : decode cX1_countOffAxis 30 = .ok (.iload_n 1, 1) := by decide +kernel
theorem dX1_countOffAxis_31 : decode cX1_countOffAxis 31 = .ok (.ireturn, 1) := by decide +kernel
theorem dX1_findOffAxis_0 : decode cX1_findOffAxis 0 = .ok (.iconst 0, 1) := by decide +kernel
theorem dX1_findOffAxis_1 : decode cX1_findOffAxis 1 = .ok (.istore_n 2, 1) := by decide +kernel
theorem dX1_findOffAxis_2 : decode cX1_findOffAxis 2 = .ok (.iconst 0, 1) := by decide +kernel
theorem dX1_findOffAxis_3 : decode cX1_findOffAxis 3 = .ok (.istore_n 3, 1) := by decide +kernel
theorem dX1_findOffAxis_4 : decode cX1_findOffAxis 4 = .ok (.iload_n 3, 1) := by decide +kernel
theorem dX1_findOffAxis_5 : decode cX1_findOffAxis 5 = .ok (.aload_n 0, 1) := by decide +kernel
theorem dX1_findOffAxis_6 : decode cX1_findOffAxis 6 = .ok (.getfield 22, 3) := by decide +kernel
theorem dX1_findOffAxis_9 : decode cX1_findOffAxis 9 = .ok (.if_icmp .ge 31, 3) := by decide +kernel
theorem dX1_findOffAxis_12 : decode cX1_findOffAxis 12 = .ok (.aload_n 0, 1) := by decide +kernel
theorem dX1_findOffAxis_13 : decode cX1_findOffAxis 13 = .ok (.getfield 15, 3) := by decide +kernel
theorem dX1_findOffAxis_16 : decode cX1_findOffAxis 16 = .ok (.iload_n 3, 1) := by decide +kernel
theorem dX1_findOffAxis_17 : decode cX1_findOffAxis 17 = .ok (.iaload, 1) := by decide +kernel
theorem dX1_findOffAxis_18 : decode cX1_findOffAxis 18 = .ok (.ifCond .ne 6, 3) := by decide +kernel
theorem dX1_findOffAxis_21 : decode cX1_findOffAxis 21 = .ok (.goto 13, 3) := by decide +kernel
theorem dX1_findOffAxis_24 : decode cX1_findOffAxis 24 = .ok (.iload_n 2, 1) := by decide +kernel
theorem dX1_findOffAxis_25 : decode cX1_findOffAxis 25 = .ok (.iload_n 1, 1) := by decide +kernel
theorem dX1_findOffAxis_26 : decode cX1_findOffAxis 26 = .ok (.if_icmp .ne 5, 3) := by decide +kernel
theorem dX1_findOffAxis_29 : decode cX1_findOffAxis 29 = .ok (.iload_n 3, 1) := by decide +kernel
theorem dX1_findOffAxis_30 : decode cX1_findOffAxis 30 = .ok (.ireturn, 1) := by decide +kernel
theorem dX1_findOffAxis_31 : decode cX1_findOffAxis 31 = .ok (.iinc 2 1, 3) := by decide +kernel
theorem dX1_findOffAxis_34 : decode cX1_findOffAxis 34 = .ok (.iinc 3 1, 3) := by decide +kernel
theorem dX1_findOffAxis_37 : decode cX1_findOffAxis 37 = .ok (.goto (-33), 3) := by decide +kernel
theorem dX1_findOffAxis_40 : decode cX1_findOffAxis 40 = .ok (.iconst (-1), 1) := by decide +kernel
theorem dX1_findOffAxis_41 : decode cX1_findOffAxis 41 = .ok (.ireturn, 1) := by decide +kernel
