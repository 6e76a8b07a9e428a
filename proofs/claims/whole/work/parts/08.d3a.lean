theorem dX3_init_0 : decode cX3_init 0 = .ok (.aload_n 0, 1) := by decide +kernel
theorem dX3_init_1 : decode cX3_init 1 = .ok (.invokespecial 1, 3) := by decide +kernel
theorem dX3_init_4 : decode cX3_init 4 = .ok (.aload_n 0, 1) := by decide +kernel
theorem dX3_init_5 : decode cX3_init 5 = .ok (.bipush 6, 2) := by decide +kernel
theorem dX3_init_7 : decode cX3_init 7 = .ok (.newarray .int, 2) := by decide +kernel
theorem dX3_init_9 : decode cX3_init 9 = .ok (.putfield 7, 3) := by decide +kernel
theorem dX3_init_12 : decode cX3_init 12 = .ok (.aload_n 0, 1) := by decide +kernel
theorem dX3_init_13 : decode cX3_init 13 = .ok (.bipush 72, 2) := by decide +kernel
theorem dX3_init_15 : decode cX3_init 15 = .ok (.newarray .int, 2) := by decide +kernel
theorem dX3_init_17 : decode cX3_init 17 = .ok (.putfield 13, 3) := by decide +kernel
theorem dX3_init_20 : decode cX3_init 20 = .ok (.aload_n 0, 1) := by decide +kernel
theorem dX3_init_21 : decode cX3_init 21 = .ok (.bipush 72, 2) := by decide +kernel
theorem dX3_init_23 : decode cX3_init 23 = .ok (.newarray .int, 2) := by decide +kernel
theorem dX3_init_25 : decode cX3_init 25 = .ok (.putfield 16, 3) := by decide +kernel
theorem dX3_init_28 : decode cX3_init 28 = .ok (.aload_n 0, 1) := by decide +kernel
theorem dX3_init_29 : decode cX3_init 29 = .ok (.bipush 6, 2) := by decide +kernel
theorem dX3_init_31 : decode cX3_init 31 = .ok (.newarray .boolean, 2) := by decide +kernel
theorem dX3_init_33 : decode cX3_init 33 = .ok (.putfield 19, 3) := by decide +kernel
theorem dX3_init_36 : decode cX3_init 36 = .ok (.aload_n 0, 1) := by decide +kernel
theorem dX3_init_37 : decode cX3_init 37 = .ok (.bipush 6, 2) := by decide +kernel
theorem dX3_init_39 : decode cX3_init 39 = .ok (.newarray .int, 2) := by decide +kernel
theorem dX3_init_41 : decode cX3_init 41 = .ok (.putfield 23, 3) := by decide +kernel
theorem dX3_init_44 : decode cX3_init 44 = .ok (.aload_n 0, 1) := by decide +kernel
theorem dX3_init_45 : decode cX3_init 45 = .ok (.bipush 10, 2) := by decide +kernel
theorem dX3_init_47 : decode cX3_init 47 = .ok (.newarray .int, 2) := by decide +kernel
theorem dX3_init_49 : decode cX3_init 49 = .ok (.putfield 26, 3) := by decide +kernel
theorem dX3_init_52 : decode cX3_init 52 = .ok (.aload_n 0, 1) := by decide +kernel
theorem dX3_init_53 : decode cX3_init 53 = .ok (.bipush 20, 2) := by decide +kernel
theorem dX3_init_55 : decode cX3_init 55 = .ok (.newarray .int, 2) := by decide +kernel
theorem dX3_init_57 : decode cX3_init 57 = .ok (.putfield 29, 3) := by decide +kernel
theorem dX3_init_60 : decode cX3_init 60 = .ok (.aload_n 0, 1) := by decide +kernel
theorem dX3_init_61 : decode cX3_init 61 = .ok (.bipush 20, 2) := by decide +kernel
theorem dX3_init_63 : decode cX3_init 63 = .ok (.newarray .int, 2) := by decide +kernel
theorem dX3_init_65 : decode cX3_init 65 = .ok (.putfield 32, 3) := by decide +kernel
theorem dX3_init_68 : decode cX3_init 68 = .ok (.aload_n 0, 1) := by decide +kernel
theorem dX3_init_69 : decode cX3_init 69 = .ok (.bipush 60, 2) := by decide +kernel
theorem dX3_init_71 : decode cX3_init 71 = .ok (.newarray .int, 2) := by decide +kernel
theorem dX3_init_73 : decode cX3_init 73 = .ok (.putfield 35, 3) := by decide +kernel
theorem dX3_init_76 : decode cX3_init 76 = .ok (.aload_n 0, 1) := by decide +kernel
theorem dX3_init_77 : decode cX3_init 77 = .ok (.bipush 60, 2) := by decide +kernel
theorem dX3_init_79 : decode cX3_init 79 = .ok (.newarray .int, 2) := by decide +kernel
theorem dX3_init_81 : decode cX3_init 81 = .ok (.putfield 38, 3) := by decide +kernel
theorem dX3_init_84 : decode cX3_init 84 = .ok (.aload_n 0, 1) := by decide +kernel
theorem dX3_init_85 : decode cX3_init 85 = .ok (.bipush 60, 2) := by decide +kernel
theorem dX3_init_87 : decode cX3_init 87 = .ok (.newarray .int, 2) := by decide +kernel
theorem dX3_init_89 : decode cX3_init 89 = .ok (.putfield 41, 3) := by decide +kernel
theorem dX3_init_92 : decode cX3_init 92 = .ok (.aload_n 0, 1) := by decide +kernel
theorem dX3_init_93 : decode cX3_init 93 = .ok (.lconst 1, 1) := by decide +kernel
theorem dX3_init_94 : decode cX3_init 94 = .ok (.putfield 44, 3) := by decide +kernel
theorem dX3_init_97 : decode cX3_init 97 = .ok (.return_, 1) := by decide +kernel
theorem dX3_thrown_0 : decode cX3_thrown 0 = .ok (.aload_n 0, 1) := by decide +kernel
theorem dX3_thrown_1 : decode cX3_thrown 1 = .ok (.getfield 48, 3) := by decide +kernel
theorem dX3_thrown_4 : decode cX3_thrown 4 = .ok (.ireturn, 1) := by decide +kernel
theorem dX3_throwing_0 : decode cX3_throwing 0 = .ok (.aload_n 0, 1) := by decide +kernel
theorem dX3_throwing_1 : decode cX3_throwing 1 = .ok (.iload_n 1, 1) := by decide +kernel
theorem dX3_throwing_2 : decode cX3_throwing 2 = .ok (.ifCond .eq 7, 3) := by decide +kernel
theorem dX3_throwing_5 : decode cX3_throwing 5 = .ok (.iconst 1, 1) := by decide +kernel
theorem dX3_throwing_6 : decode cX3_throwing 6 = .ok (.goto 20, 3) := by decide +kernel
theorem dX3_throwing_9 : decode cX3_throwing 9 = .ok (.iload_n 2, 1) := by decide +kernel
theorem dX3_throwing_10 : decode cX3_throwing 10 = .ok (.ifCond .eq 7, 3) := by decide +kernel
theorem dX3_throwing_13 : decode cX3_throwing 13 = .ok (.iconst 2, 1) := by decide +kernel
theorem dX3_throwing_14 : decode cX3_throwing 14 = .ok (.goto 12, 3) := by decide +kernel
theorem dX3_throwing_17 : decode cX3_throwing 17 = .ok (.iload_n 3, 1) := by decide +kernel
theorem dX3_throwing_18 : decode cX3_throwing 18 = .ok (.ifCond .eq 7, 3) := by decide +kernel
theorem dX3_throwing_21 : decode cX3_throwing 21 = .ok (.iconst 3, 1) := by decide +kernel
theorem dX3_throwing_22 : decode cX3_throwing 22 = .ok (.goto 4, 3) := by decide +kernel
theorem dX3_throwing_25 : decode cX3_throwing 25 = .ok (.iconst 0, 1) := by decide +kernel
theorem dX3_throwing_26 : decode cX3_throwing 26 = .ok (.putfield 48, 3) := by decide +kernel
theorem dX3_throwing_29 : decode cX3_throwing 29 = .ok (.aload_n 0, 1) := by decide +kernel
theorem dX3_throwing_30 : decode cX3_throwing 30 = .ok (.getfield 48, 3) := by decide +kernel
theorem dX3_throwing_33 : decode cX3_throwing 33 = .ok (.ifCond .le 7, 3) := by decide +kernel
theorem dX3_throwing_36 : decode cX3_throwing 36 = .ok (.iconst 1, 1) := by decide +kernel
theorem dX3_throwing_37 : decode cX3_throwing 37 = .ok (.goto 4, 3) := by decide +kernel
theorem dX3_throwing_40 : decode cX3_throwing 40 = .ok (.iconst 0, 1) := by decide +kernel
theorem dX3_throwing_41 : decode cX3_throwing 41 = .ok (.ireturn, 1) := by decide +kernel
theorem dX3_in_0 : decode cX3_in 0 = .ok (.iload_n 0, 1) := by decide +kernel
theorem dX3_in_1 : decode cX3_in 1 = .ok (.iload_n 1, 1) := by decide +kernel
theorem dX3_in_2 : decode cX3_in 2 = .ok (.if_icmp .lt 12, 3) := by decide +kernel
theorem dX3_in_5 : decode cX3_in 5 = .ok (.iload_n 0, 1) := by decide +kernel
theorem dX3_in_6 : decode cX3_in 6 = .ok (.iload_n 2, 1) := by decide +kernel
theorem dX3_in_7 : decode cX3_in 7 = .ok (.if_icmp .gt 7, 3) := by decide +kernel
theorem dX3_in_10 : decode cX3_in 10 = .ok (.iconst 1, 1) := by decide +kernel
theorem dX3_in_11 : decode cX3_in 11 = .ok (.goto 4, 3) := by decide +kernel
theorem dX3_in_14 : decode cX3_in 14 = .ok (.iconst 0, 1) := by decide +kernel
theorem dX3_in_15 : decode cX3_in 15 = .ok (.ireturn, 1) := by decide +kernel
theorem dX3_isProfile_0 : decode cX3_isProfile 0 = .ok (.iload_n 1, 1) := by decide +kernel
theorem dX3_isProfile_1 : decode cX3_isProfile 1 = .ok (.iconst 0, 1) := by decide +kernel
theorem dX3_isProfile_2 : decode cX3_isProfile 2 = .ok (.aload_n 0, 1) := by decide +kernel
theorem dX3_isProfile_3 : decode cX3_isProfile 3 = .ok (.getfield 52, 3) := by decide +kernel
theorem dX3_isProfile_6 : decode cX3_isProfile 6 = .ok (.iconst 1, 1) := by decide +kernel
theorem dX3_isProfile_7 : decode cX3_isProfile 7 = .ok (.isub, 1) := by decide +kernel
theorem dX3_isProfile_8 : decode cX3_isProfile 8 = .ok (.invokestatic 55, 3) := by decide +kernel
theorem dX3_isProfile_11 : decode cX3_isProfile 11 = .ok (.ireturn, 1) := by decide +kernel
theorem dX3_height_0 : decode cX3_height 0 = .ok (.aload_n 0, 1) := by decide +kernel
theorem dX3_height_1 : decode cX3_height 1 = .ok (.getfield 13, 3) := by decide +kernel
theorem dX3_height_4 : decode cX3_height 4 = .ok (.bipush 12, 2) := by decide +kernel
theorem dX3_height_6 : decode cX3_height 6 = .ok (.iload_n 1, 1) := by decide +kernel
theorem dX3_height_7 : decode cX3_height 7 = .ok (.imul, 1) := by decide +kernel
theorem dX3_height_8 : decode cX3_height 8 = .ok (.iload_n 2, 1) := by decide +kernel
theorem dX3_height_9 : decode cX3_height 9 = .ok (.iadd, 1) := by decide +kernel
theorem dX3_height_10 : decode cX3_height 10 = .ok (.iaload, 1) := by decide +kernel
theorem dX3_height_11 : decode cX3_height 11 = .ok (.ireturn, 1) := by decide +kernel
theorem dX3_radiusAt_0 : decode cX3_radiusAt 0 = .ok (.aload_n 0, 1) := by decide +kernel
theorem dX3_radiusAt_1 : decode cX3_radiusAt 1 = .ok (.getfield 16, 3) := by decide +kernel
theorem dX3_radiusAt_4 : decode cX3_radiusAt 4 = .ok (.bipush 12, 2) := by decide +kernel
theorem dX3_radiusAt_6 : decode cX3_radiusAt 6 = .ok (.iload_n 1, 1) := by decide +kernel
theorem dX3_radiusAt_7 : decode cX3_radiusAt 7 = .ok (.imul, 1) := by decide +kernel
theorem dX3_radiusAt_8 : decode cX3_radiusAt 8 = .ok (.iload_n 2, 1) := by decide +kernel
theorem dX3_radiusAt_9 : decode cX3_radiusAt 9 = .ok (.iadd, 1) := by decide +kernel
theorem dX3_radiusAt_10 : decode cX3_radiusAt 10 = .ok (.iaload, 1) := by decide +kernel
theorem dX3_radiusAt_11 : decode cX3_radiusAt 11 = .ok (.ireturn, 1) := by decide +kernel
theorem dX3_profile_0 : decode cX3_profile 0 = .ok (.aload_n 0, 1) := by decide +kernel
theorem dX3_profile_1 : decode cX3_profile 1 = .ok (.aload_n 0, 1) := by decide +kernel
theorem dX3_profile_2 : decode cX3_profile 2 = .ok (.getfield 52, 3) := by decide +kernel
theorem dX3_profile_5 : decode cX3_profile 5 = .ok (.bipush 6, 2) := by decide +kernel
theorem dX3_profile_7 : decode cX3_profile 7 = .ok (.if_icmp .ne 7, 3) := by decide +kernel
theorem dX3_profile_10 : decode cX3_profile 10 = .ok (.iconst 1, 1) := by decide +kernel
theorem dX3_profile_11 : decode cX3_profile 11 = .ok (.goto 4, 3) := by decide +kernel
theorem dX3_profile_14 : decode cX3_profile 14 = .ok (.iconst 0, 1) := by decide +kernel
theorem dX3_profile_15 : decode cX3_profile 15 = .ok (.iconst 0, 1) := by decide +kernel
theorem dX3_profile_16 : decode cX3_profile 16 = .ok (.iconst 0, 1) := by decide +kernel
theorem dX3_profile_17 : decode cX3_profile 17 = .ok (.invokevirtual 59, 3) := by decide +kernel
theorem dX3_profile_20 : decode cX3_profile 20 = .ok (.ifCond .eq 5, 3) := by decide +kernel
theorem dX3_profile_23 : decode cX3_profile 23 = .ok (.iconst 0, 1) := by decide +kernel
theorem dX3_profile_24 : decode cX3_profile 24 = .ok (.ireturn, 1) := by decide +kernel
theorem dX3_profile_25 : decode cX3_profile 25 = .ok (.aload_n 0, 1) := by decide +kernel
theorem dX3_profile_26 : decode cX3_profile 26 = .ok (.dup, 1) := by decide +kernel
theorem dX3_profile_27 : decode cX3_profile 27 = .ok (.getfield 52, 3) := by decide +kernel
theorem dX3_profile_30 : decode cX3_profile 30 = .ok (.iconst 1, 1) := by decide +kernel
theorem dX3_profile_31 : decode cX3_profile 31 = .ok (.iadd, 1) := by decide +kernel
theorem dX3_profile_32 : decode cX3_profile 32 = .ok (.putfield 52, 3) := by decide +kernel
theorem dX3_profile_35 : decode cX3_profile 35 = .ok (.aload_n 0, 1) := by decide +kernel
theorem dX3_profile_36 : decode cX3_profile 36 = .ok (.getfield 52, 3) := by decide +kernel
theorem dX3_profile_39 : decode cX3_profile 39 = .ok (.iconst 1, 1) := by decide +kernel
theorem dX3_profile_40 : decode cX3_profile 40 = .ok (.isub, 1) := by decide +kernel
theorem dX3_profile_41 : decode cX3_profile 41 = .ok (.ireturn, 1) := by decide +kernel
theorem dX3_mayFollow_0 : decode cX3_mayFollow 0 = .ok (.aload_n 0, 1) := by decide +kernel
theorem dX3_mayFollow_1 : decode cX3_mayFollow 1 = .ok (.getfield 7, 3) := by decide +kernel
theorem dX3_mayFollow_4 : decode cX3_mayFollow 4 = .ok (.iload_n 1, 1) := by decide +kernel
theorem dX3_mayFollow_5 : decode cX3_mayFollow 5 = .ok (.iaload, 1) := by decide +kernel
theorem dX3_mayFollow_6 : decode cX3_mayFollow 6 = .ok (.istore 4, 2) := by decide +kernel
theorem dX3_mayFollow_8 : decode cX3_mayFollow 8 = .ok (.iload 4, 2) := by decide +kernel
theorem dX3_mayFollow_10 : decode cX3_mayFollow 10 = .ok (.ifCond .ne 5, 3) := by decide +kernel
theorem dX3_mayFollow_13 : decode cX3_mayFollow 13 = .ok (.iconst 1, 1) := by decide +kernel
theorem dX3_mayFollow_14 : decode cX3_mayFollow 14 = .ok (.ireturn, 1) := by decide +kernel
theorem dX3_mayFollow_15 : decode cX3_mayFollow 15 = .ok (.iload_n 2, 1) := by decide +kernel
theorem dX3_mayFollow_16 : decode cX3_mayFollow 16 = .ok (.aload_n 0, 1) := by decide +kernel
theorem dX3_mayFollow_17 : decode cX3_mayFollow 17 = .ok (.iload_n 1, 1) := by decide +kernel
theorem dX3_mayFollow_18 : decode cX3_mayFollow 18 = .ok (.iload 4, 2) := by decide +kernel
theorem dX3_mayFollow_20 : decode cX3_mayFollow 20 = .ok (.iconst 1, 1) := by decide +kernel
theorem dX3_mayFollow_21 : decode cX3_mayFollow 21 = .ok (.isub, 1) := by decide +kernel
theorem dX3_mayFollow_22 : decode cX3_mayFollow 22 = .ok (.invokevirtual 63, 3) := by decide +kernel
theorem dX3_mayFollow_25 : decode cX3_mayFollow 25 = .ok (.if_icmp .lt 29, 3) := by decide +kernel
theorem dX3_mayFollow_28 : decode cX3_mayFollow 28 = .ok (.iload_n 2, 1) := by decide +kernel
theorem dX3_mayFollow_29 : decode cX3_mayFollow 29 = .ok (.aload_n 0, 1) := by decide +kernel
theorem dX3_mayFollow_30 : decode cX3_mayFollow 30 = .ok (.iload_n 1, 1) := by decide +kernel
theorem dX3_mayFollow_31 : decode cX3_mayFollow 31 = .ok (.iload 4, 2) := by decide +kernel
theorem dX3_mayFollow_33 : decode cX3_mayFollow 33 = .ok (.iconst 1, 1) := by decide +kernel
theorem dX3_mayFollow_34 : decode cX3_mayFollow 34 = .ok (.isub, 1) := by decide +kernel
theorem dX3_mayFollow_35 : decode cX3_mayFollow 35 = .ok (.invokevirtual 63, 3) := by decide +kernel
theorem dX3_mayFollow_38 : decode cX3_mayFollow 38 = .ok (.if_icmp .ne 18, 3) := by decide +kernel
theorem dX3_mayFollow_41 : decode cX3_mayFollow 41 = .ok (.iload_n 3, 1) := by decide +kernel
theorem dX3_mayFollow_42 : decode cX3_mayFollow 42 = .ok (.aload_n 0, 1) := by decide +kernel
theorem dX3_mayFollow_43 : decode cX3_mayFollow 43 = .ok (.iload_n 1, 1) := by decide +kernel
theorem dX3_mayFollow_44 : decode cX3_mayFollow 44 = .ok (.iload 4, 2) := by decide +kernel
theorem dX3_mayFollow_46 : decode cX3_mayFollow 46 = .ok (.iconst 1, 1) := by decide +kernel
theorem dX3_mayFollow_47 : decode cX3_mayFollow 47 = .ok (.isub, 1) := by decide +kernel
theorem dX3_mayFollow_48 : decode cX3_mayFollow 48 = .ok (.invokevirtual 67, 3) := by decide +kernel
theorem dX3_mayFollow_51 : decode cX3_mayFollow 51 = .ok (.if_icmp .ne 5, 3) := by decide +kernel
theorem dX3_mayFollow_54 : decode cX3_mayFollow 54 = .ok (.iconst 0, 1) := by decide +kernel
theorem dX3_mayFollow_55 : decode cX3_mayFollow 55 = .ok (.ireturn, 1) := by decide +kernel
theorem dX3_mayFollow_56 : decode cX3_mayFollow 56 = .ok (.iload 4, 2) := by decide +kernel
theorem dX3_mayFollow_58 : decode cX3_mayFollow 58 = .ok (.iconst 2, 1) := by decide +kernel
theorem dX3_mayFollow_59 : decode cX3_mayFollow 59 = .ok (.if_icmp .lt 29, 3) := by decide +kernel
theorem dX3_mayFollow_62 : decode cX3_mayFollow 62 = .ok (.iload_n 2, 1) := by decide +kernel
theorem dX3_mayFollow_63 : decode cX3_mayFollow 63 = .ok (.aload_n 0, 1) := by decide +kernel
theorem dX3_mayFollow_64 : decode cX3_mayFollow 64 = .ok (.iload_n 1, 1) := by decide +kernel
theorem dX3_mayFollow_65 : decode cX3_mayFollow 65 = .ok (.iload 4, 2) := by decide +kernel
theorem dX3_mayFollow_67 : decode cX3_mayFollow 67 = .ok (.iconst 1, 1) := by decide +kernel
theorem dX3_mayFollow_68 : decode cX3_mayFollow 68 = .ok (.isub, 1) := by decide +kernel
theorem dX3_mayFollow_69 : decode cX3_mayFollow 69 = .ok (.invokevirtual 63, 3) := by decide +kernel
theorem dX3_mayFollow_72 : decode cX3_mayFollow 72 = .ok (.if_icmp .ne 16, 3) := by decide +kernel
theorem dX3_mayFollow_75 : decode cX3_mayFollow 75 = .ok (.iload_n 2, 1) := by decide +kernel
theorem dX3_mayFollow_76 : decode cX3_mayFollow 76 = .ok (.aload_n 0, 1) := by decide +kernel
theorem dX3_mayFollow_77 : decode cX3_mayFollow 77 = .ok (.iload_n 1, 1) := by decide +kernel
theorem dX3_mayFollow_78 : decode cX3_mayFollow 78 = .ok (.iload 4, 2) := by decide +kernel
theorem dX3_mayFollow_80 : decode cX3_mayFollow 80 = .ok (.iconst 2, 1) := by decide +kernel
theorem dX3_mayFollow_81 : decode cX3_mayFollow 81 = .ok (.isub, 1) := by decide +kernel
theorem dX3_mayFollow_82 : decode cX3_mayFollow 82 = .ok (.invokevirtual 63, 3) := by decide +kernel
theorem dX3_mayFollow_85 : decode cX3_mayFollow 85 = .ok (.if_icmp .eq 7, 3) := by decide +kernel
theorem dX3_mayFollow_88 : decode cX3_mayFollow 88 = .ok (.iconst 1, 1) := by decide +kernel
theorem dX3_mayFollow_89 : decode cX3_mayFollow 89 = .ok (.goto 4, 3) := by decide +kernel
theorem dX3_mayFollow_92 : decode cX3_mayFollow 92 = .ok (.iconst 0, 1) := by decide +kernel
theorem dX3_mayFollow_93 : decode cX3_mayFollow 93 = .ok (.ireturn, 1) := by decide +kernel
theorem dX3_append_0 : decode cX3_append 0 = .ok (.aload_n 0, 1) := by decide +kernel
theorem dX3_append_1 : decode cX3_append 1 = .ok (.getfield 13, 3) := by decide +kernel
theorem dX3_append_4 : decode cX3_append 4 = .ok (.bipush 12, 2) := by decide +kernel
theorem dX3_append_6 : decode cX3_append 6 = .ok (.iload_n 1, 1) := by decide +kernel
theorem dX3_append_7 : decode cX3_append 7 = .ok (.imul, 1) := by decide +kernel
theorem dX3_append_8 : decode cX3_append 8 = .ok (.aload_n 0, 1) := by decide +kernel
theorem dX3_append_9 : decode cX3_append 9 = .ok (.getfield 7, 3) := by decide +kernel
theorem dX3_append_12 : decode cX3_append 12 = .ok (.iload_n 1, 1) := by decide +kernel
theorem dX3_append_13 : decode cX3_append 13 = .ok (.iaload, 1) := by decide +kernel
theorem dX3_append_14 : decode cX3_append 14 = .ok (.iadd, 1) := by decide +kernel
theorem dX3_append_15 : decode cX3_append 15 = .ok (.iload_n 2, 1) := by decide +kernel
theorem dX3_append_16 : decode cX3_append 16 = .ok (.iastore, 1) := by decide +kernel
theorem dX3_append_17 : decode cX3_append 17 = .ok (.aload_n 0, 1) := by decide +kernel
theorem dX3_append_18 : decode cX3_append 18 = .ok (.getfield 16, 3) := by decide +kernel
theorem dX3_append_21 : decode cX3_append 21 = .ok (.bipush 12, 2) := by decide +kernel
theorem dX3_append_23 : decode cX3_append 23 = .ok (.iload_n 1, 1) := by decide +kernel
theorem dX3_append_24 : decode cX3_append 24 = .ok (.imul, 1) := by decide +kernel
theorem dX3_append_25 : decode cX3_append 25 = .ok (.aload_n 0, 1) := by decide +kernel
theorem dX3_append_26 : decode cX3_append 26 = .ok (.getfield 7, 3) := by decide +kernel
theorem dX3_append_29 : decode cX3_append 29 = .ok (.iload_n 1, 1) := by decide +kernel
theorem dX3_append_30 : decode cX3_append 30 = .ok (.iaload, 1) := by decide +kernel
theorem dX3_append_31 : decode cX3_append 31 = .ok (.iadd, 1) := by decide +kernel
theorem dX3_append_32 : decode cX3_append 32 = .ok (.iload_n 3, 1) := by decide +kernel
theorem dX3_append_33 : decode cX3_append 33 = .ok (.iastore, 1) := by decide +kernel
theorem dX3_append_34 : decode cX3_append 34 = .ok (.aload_n 0, 1) := by decide +kernel
theorem dX3_append_35 : decode cX3_append 35 = .ok (.getfield 7, 3) := by decide +kernel
theorem dX3_append_38 : decode cX3_append 38 = .ok (.iload_n 1, 1) := by decide +kernel
theorem dX3_append_39 : decode cX3_append 39 = .ok (.dup2, 1) := by decide +kernel
theorem dX3_append_40 : decode cX3_append 40 = .ok (.iaload, 1) := by decide +kernel
theorem dX3_append_41 : decode cX3_append 41 = .ok (.iconst 1, 1) := by decide +kernel
theorem dX3_append_42 : decode cX3_append 42 = .ok (.iadd, 1) := by decide +kernel
theorem dX3_append_43 : decode cX3_append 43 = .ok (.iastore, 1) := by decide +kernel
theorem dX3_append_44 : decode cX3_append 44 = .ok (.return_, 1) := by decide +kernel
theorem dX3_corner_0 : decode cX3_corner 0 = .ok (.aload_n 0, 1) := by decide +kernel
theorem dX3_corner_1 : decode cX3_corner 1 = .ok (.iload_n 1, 1) := by decide +kernel
theorem dX3_corner_2 : decode cX3_corner 2 = .ok (.invokevirtual 70, 3) := by decide +kernel
theorem dX3_corner_5 : decode cX3_corner 5 = .ok (.ifCond .ne 7, 3) := by decide +kernel
theorem dX3_corner_8 : decode cX3_corner 8 = .ok (.iconst 1, 1) := by decide +kernel
theorem dX3_corner_9 : decode cX3_corner 9 = .ok (.goto 4, 3) := by decide +kernel
theorem dX3_corner_12 : decode cX3_corner 12 = .ok (.iconst 0, 1) := by decide +kernel
theorem dX3_corner_13 : decode cX3_corner 13 = .ok (.istore 4, 2) := by decide +kernel
theorem dX3_corner_15 : decode cX3_corner 15 = .ok (.aload_n 0, 1) := by decide +kernel
theorem dX3_corner_16 : decode cX3_corner 16 = .ok (.iload 4, 2) := by decide +kernel
theorem dX3_corner_18 : decode cX3_corner 18 = .ok (.iload_n 2, 1) := by decide +kernel
theorem dX3_corner_19 : decode cX3_corner 19 = .ok (.iconst 0, 1) := by decide +kernel
theorem dX3_corner_20 : decode cX3_corner 20 = .ok (.sipush 400, 3) := by decide +kernel
theorem dX3_corner_23 : decode cX3_corner 23 = .ok (.invokestatic 55, 3) := by decide +kernel
theorem dX3_corner_26 : decode cX3_corner 26 = .ok (.ifCond .eq 14, 3) := by decide +kernel
theorem dX3_corner_29 : decode cX3_corner 29 = .ok (.iload_n 3, 1) := by decide +kernel
theorem dX3_corner_30 : decode cX3_corner 30 = .ok (.iconst 0, 1) := by decide +kernel
theorem dX3_corner_31 : decode cX3_corner 31 = .ok (.sipush 200, 3) := by decide +kernel
theorem dX3_corner_34 : decode cX3_corner 34 = .ok (.invokestatic 55, 3) := by decide +kernel
theorem dX3_corner_37 : decode cX3_corner 37 = .ok (.ifCond .ne 7, 3) := by decide +kernel
theorem dX3_corner_40 : decode cX3_corner 40 = .ok (.iconst 1, 1) := by decide +kernel
theorem dX3_corner_41 : decode cX3_corner 41 = .ok (.goto 4, 3) := by decide +kernel
theorem dX3_corner_44 : decode cX3_corner 44 = .ok (.iconst 0, 1) := by decide +kernel
theorem dX3_corner_45 : decode cX3_corner 45 = .ok (.iload 4, 2) := by decide +kernel
theorem dX3_corner_47 : decode cX3_corner 47 = .ok (.ifCond .ne 27, 3) := by decide +kernel
theorem dX3_corner_50 : decode cX3_corner 50 = .ok (.aload_n 0, 1) := by decide +kernel
theorem dX3_corner_51 : decode cX3_corner 51 = .ok (.getfield 7, 3) := by decide +kernel
theorem dX3_corner_54 : decode cX3_corner 54 = .ok (.iload_n 1, 1) := by decide +kernel
theorem dX3_corner_55 : decode cX3_corner 55 = .ok (.iaload, 1) := by decide +kernel
theorem dX3_corner_56 : decode cX3_corner 56 = .ok (.bipush 12, 2) := by decide +kernel
theorem dX3_corner_58 : decode cX3_corner 58 = .ok (.if_icmp .eq 12, 3) := by decide +kernel
theorem dX3_corner_61 : decode cX3_corner 61 = .ok (.aload_n 0, 1) := by decide +kernel
theorem dX3_corner_62 : decode cX3_corner 62 = .ok (.getfield 19, 3) := by decide +kernel
theorem dX3_corner_65 : decode cX3_corner 65 = .ok (.iload_n 1, 1) := by decide +kernel
theorem dX3_corner_66 : decode cX3_corner 66 = .ok (.baload, 1) := by decide +kernel
theorem dX3_corner_67 : decode cX3_corner 67 = .ok (.ifCond .eq 7, 3) := by decide +kernel
theorem dX3_corner_70 : decode cX3_corner 70 = .ok (.iconst 1, 1) := by decide +kernel
theorem dX3_corner_71 : decode cX3_corner 71 = .ok (.goto 4, 3) := by decide +kernel
theorem dX3_corner_74 : decode cX3_corner 74 = .ok (.iconst 0, 1) := by decide +kernel
theorem dX3_corner_75 : decode cX3_corner 75 = .ok (.invokevirtual 59, 3) := by decide +kernel
theorem dX3_corner_78 : decode cX3_corner 78 = .ok (.ifCond .eq 5, 3) := by decide +kernel
theorem dX3_corner_81 : decode cX3_corner 81 = .ok (.iconst 0, 1) := by decide +kernel
theorem dX3_corner_82 : decode cX3_corner 82 = .ok (.ireturn, 1) := by decide +kernel
theorem dX3_corner_83 : decode cX3_corner 83 = .ok (.aload_n 0, 1) := by decide +kernel
theorem dX3_corner_84 : decode cX3_corner 84 = .ok (.iload_n 1, 1) := by decide +kernel
theorem dX3_corner_85 : decode cX3_corner 85 = .ok (.iload_n 2, 1) := by decide +kernel
theorem dX3_corner_86 : decode cX3_corner 86 = .ok (.iload_n 3, 1) := by decide +kernel
theorem dX3_corner_87 : decode cX3_corner 87 = .ok (.invokevirtual 74, 3) := by decide +kernel
theorem dX3_corner_90 : decode cX3_corner 90 = .ok (.ifCond .ne 5, 3) := by decide +kernel
theorem dX3_corner_93 : decode cX3_corner 93 = .ok (.iconst 0, 1) := by decide +kernel
theorem dX3_corner_94 : decode cX3_corner 94 = .ok (.ireturn, 1) := by decide +kernel
theorem dX3_corner_95 : decode cX3_corner 95 = .ok (.aload_n 0, 1) := by decide +kernel
theorem dX3_corner_96 : decode cX3_corner 96 = .ok (.iload_n 1, 1) := by decide +kernel
theorem dX3_corner_97 : decode cX3_corner 97 = .ok (.iload_n 2, 1) := by decide +kernel
theorem dX3_corner_98 : decode cX3_corner 98 = .ok (.iload_n 3, 1) := by decide +kernel
theorem dX3_corner_99 : decode cX3_corner 99 = .ok (.invokevirtual 77, 3) := by decide +kernel
theorem dX3_corner_102 : decode cX3_corner 102 = .ok (.iconst 1, 1) := by decide +kernel
theorem dX3_corner_103 : decode cX3_corner 103 = .ok (.ireturn, 1) := by decide +kernel
theorem dX3_at_0 : decode cX3_at 0 = .ok (.aload_n 0, 1) := by decide +kernel
theorem dX3_at_1 : decode cX3_at 1 = .ok (.aload_n 0, 1) := by decide +kernel
theorem dX3_at_2 : decode cX3_at 2 = .ok (.iload_n 1, 1) := by decide +kernel
theorem dX3_at_3 : decode cX3_at 3 = .ok (.invokevirtual 70, 3) := by decide +kernel
theorem dX3_at_6 : decode cX3_at 6 = .ok (.ifCond .eq 28, 3) := by decide +kernel
theorem dX3_at_9 : decode cX3_at 9 = .ok (.iload_n 2, 1) := by decide +kernel
theorem dX3_at_10 : decode cX3_at 10 = .ok (.iconst (-1), 1) := by decide +kernel
theorem dX3_at_11 : decode cX3_at 11 = .ok (.aload_n 0, 1) := by decide +kernel
theorem dX3_at_12 : decode cX3_at 12 = .ok (.getfield 7, 3) := by decide +kernel
theorem dX3_at_15 : decode cX3_at 15 = .ok (.iload_n 1, 1) := by decide +kernel
theorem dX3_at_16 : decode cX3_at 16 = .ok (.iaload, 1) := by decide +kernel
theorem dX3_at_17 : decode cX3_at 17 = .ok (.iconst 1, 1) := by decide +kernel
theorem dX3_at_18 : decode cX3_at 18 = .ok (.isub, 1) := by decide +kernel
theorem dX3_at_19 : decode cX3_at 19 = .ok (.invokestatic 55, 3) := by decide +kernel
theorem dX3_at_22 : decode cX3_at 22 = .ok (.ifCond .eq 12, 3) := by decide +kernel
theorem dX3_at_25 : decode cX3_at 25 = .ok (.iload_n 3, 1) := by decide +kernel
theorem dX3_at_26 : decode cX3_at 26 = .ok (.iconst 0, 1) := by decide +kernel
theorem dX3_at_27 : decode cX3_at 27 = .ok (.iconst 1, 1) := by decide +kernel
theorem dX3_at_28 : decode cX3_at 28 = .ok (.invokestatic 55, 3) := by decide +kernel
theorem dX3_at_31 : decode cX3_at 31 = .ok (.ifCond .ne 7, 3) := by decide +kernel
theorem dX3_at_34 : decode cX3_at 34 = .ok (.iconst 1, 1) := by decide +kernel
theorem dX3_at_35 : decode cX3_at 35 = .ok (.goto 4, 3) := by decide +kernel
theorem dX3_at_38 : decode cX3_at 38 = .ok (.iconst 0, 1) := by decide +kernel
theorem dX3_at_39 : decode cX3_at 39 = .ok (.iconst 0, 1) := by decide +kernel
theorem dX3_at_40 : decode cX3_at 40 = .ok (.iconst 0, 1) := by decide +kernel
theorem dX3_at_41 : decode cX3_at 41 = .ok (.invokevirtual 59, 3) := by decide +kernel
theorem dX3_at_44 : decode cX3_at 44 = .ok (.ifCond .eq 5, 3) := by decide +kernel
theorem dX3_at_47 : decode cX3_at 47 = .ok (.iconst 0, 1) := by decide +kernel
theorem dX3_at_48 : decode cX3_at 48 = .ok (.ireturn, 1) := by decide +kernel
theorem dX3_at_49 : decode cX3_at 49 = .ok (.iload_n 2, 1) := by decide +kernel
theorem dX3_at_50 : decode cX3_at 50 = .ok (.iconst (-1), 1) := by decide +kernel
theorem dX3_at_51 : decode cX3_at 51 = .ok (.if_icmp .ne 10, 3) := by decide +kernel
theorem dX3_at_54 : decode cX3_at 54 = .ok (.aload_n 0, 1) := by decide +kernel
theorem dX3_at_55 : decode cX3_at 55 = .ok (.getfield 7, 3) := by decide +kernel
theorem dX3_at_58 : decode cX3_at 58 = .ok (.iload_n 1, 1) := by decide +kernel
theorem dX3_at_59 : decode cX3_at 59 = .ok (.iaload, 1) := by decide +kernel
theorem dX3_at_60 : decode cX3_at 60 = .ok (.ireturn, 1) := by decide +kernel
theorem dX3_at_61 : decode cX3_at 61 = .ok (.iload_n 3, 1) := by decide +kernel
theorem dX3_at_62 : decode cX3_at 62 = .ok (.ifCond .ne 12, 3) := by decide +kernel
theorem dX3_at_65 : decode cX3_at 65 = .ok (.aload_n 0, 1) := by decide +kernel
theorem dX3_at_66 : decode cX3_at 66 = .ok (.iload_n 1, 1) := by decide +kernel
theorem dX3_at_67 : decode cX3_at 67 = .ok (.iload_n 2, 1) := by decide +kernel
theorem dX3_at_68 : decode cX3_at 68 = .ok (.invokevirtual 63, 3) := by decide +kernel
theorem dX3_at_71 : decode cX3_at 71 = .ok (.goto 9, 3) := by decide +kernel
theorem dX3_at_74 : decode cX3_at 74 = .ok (.aload_n 0, 1) := by decide +kernel
theorem dX3_at_75 : decode cX3_at 75 = .ok (.iload_n 1, 1) := by decide +kernel
theorem dX3_at_76 : decode cX3_at 76 = .ok (.iload_n 2, 1) := by decide +kernel
theorem dX3_at_77 : decode cX3_at 77 = .ok (.invokevirtual 67, 3) := by decide +kernel
theorem dX3_at_80 : decode cX3_at 80 = .ok (.ireturn, 1) := by decide +kernel
theorem dX3_radiusOf_0 : decode cX3_radiusOf 0 = .ok (.iconst (-1), 1) := by decide +kernel
theorem dX3_radiusOf_1 : decode cX3_radiusOf 1 = .ok (.istore_n 3, 1) := by decide +kernel
theorem dX3_radiusOf_2 : decode cX3_radiusOf 2 = .ok (.iconst 0, 1) := by decide +kernel
theorem dX3_radiusOf_3 : decode cX3_radiusOf 3 = .ok (.istore 4, 2) := by decide +kernel
theorem dX3_radiusOf_5 : decode cX3_radiusOf 5 = .ok (.iload 4, 2) := by decide +kernel
theorem dX3_radiusOf_7 : decode cX3_radiusOf 7 = .ok (.aload_n 0, 1) := by decide +kernel
theorem dX3_radiusOf_8 : decode cX3_radiusOf 8 = .ok (.getfield 7, 3) := by decide +kernel
theorem dX3_radiusOf_11 : decode cX3_radiusOf 11 = .ok (.iload_n 1, 1) := by decide +kernel
theorem dX3_radiusOf_12 : decode cX3_radiusOf 12 = .ok (.iaload, 1) := by decide +kernel
theorem dX3_radiusOf_13 : decode cX3_radiusOf 13 = .ok (.if_icmp .ge 118, 3) := by decide +kernel
theorem dX3_radiusOf_16 : decode cX3_radiusOf 16 = .ok (.aload_n 0, 1) := by decide +kernel
theorem dX3_radiusOf_17 : decode cX3_radiusOf 17 = .ok (.iload_n 1, 1) := by decide +kernel
theorem dX3_radiusOf_18 : decode cX3_radiusOf 18 = .ok (.iload 4, 2) := by decide +kernel
theorem dX3_radiusOf_20 : decode cX3_radiusOf 20 = .ok (.invokevirtual 63, 3) := by decide +kernel
theorem dX3_radiusOf_23 : decode cX3_radiusOf 23 = .ok (.istore 5, 2) := by decide +kernel
theorem dX3_radiusOf_25 : decode cX3_radiusOf 25 = .ok (.aload_n 0, 1) := by decide +kernel
theorem dX3_radiusOf_26 : decode cX3_radiusOf 26 = .ok (.iload_n 1, 1) := by decide +kernel
theorem dX3_radiusOf_27 : decode cX3_radiusOf 27 = .ok (.iload 4, 2) := by decide +kernel
theorem dX3_radiusOf_29 : decode cX3_radiusOf 29 = .ok (.invokevirtual 67, 3) := by decide +kernel
theorem dX3_radiusOf_32 : decode cX3_radiusOf 32 = .ok (.istore 6, 2) := by decide +kernel
theorem dX3_radiusOf_34 : decode cX3_radiusOf 34 = .ok (.iload 5, 2) := by decide +kernel
theorem dX3_radiusOf_36 : decode cX3_radiusOf 36 = .ok (.iload_n 2, 1) := by decide +kernel
theorem dX3_radiusOf_37 : decode cX3_radiusOf 37 = .ok (.if_icmp .ne 12, 3) := by decide +kernel
theorem dX3_radiusOf_40 : decode cX3_radiusOf 40 = .ok (.iload 6, 2) := by decide +kernel
theorem dX3_radiusOf_42 : decode cX3_radiusOf 42 = .ok (.iload_n 3, 1) := by decide +kernel
theorem dX3_radiusOf_43 : decode cX3_radiusOf 43 = .ok (.if_icmp .le 6, 3) := by decide +kernel
theorem dX3_radiusOf_46 : decode cX3_radiusOf 46 = .ok (.iload 6, 2) := by decide +kernel
theorem dX3_radiusOf_48 : decode cX3_radiusOf 48 = .ok (.istore_n 3, 1) := by decide +kernel
theorem dX3_radiusOf_49 : decode cX3_radiusOf 49 = .ok (.iload 4, 2) := by decide +kernel
theorem dX3_radiusOf_51 : decode cX3_radiusOf 51 = .ok (.iconst 1, 1) := by decide +kernel
theorem dX3_radiusOf_52 : decode cX3_radiusOf 52 = .ok (.iadd, 1) := by decide +kernel
theorem dX3_radiusOf_53 : decode cX3_radiusOf 53 = .ok (.aload_n 0, 1) := by decide +kernel
theorem dX3_radiusOf_54 : decode cX3_radiusOf 54 = .ok (.getfield 7, 3) := by decide +kernel
theorem dX3_radiusOf_57 : decode cX3_radiusOf 57 = .ok (.iload_n 1, 1) := by decide +kernel
theorem dX3_radiusOf_58 : decode cX3_radiusOf 58 = .ok (.iaload, 1) := by decide +kernel
theorem dX3_radiusOf_59 : decode cX3_radiusOf 59 = .ok (.if_icmp .eq 66, 3) := by decide +kernel
theorem dX3_radiusOf_62 : decode cX3_radiusOf 62 = .ok (.iload 5, 2) := by decide +kernel
theorem dX3_radiusOf_64 : decode cX3_radiusOf 64 = .ok (.iload_n 2, 1) := by decide +kernel
theorem dX3_radiusOf_65 : decode cX3_radiusOf 65 = .ok (.if_icmp .ge 60, 3) := by decide +kernel
theorem dX3_radiusOf_68 : decode cX3_radiusOf 68 = .ok (.aload_n 0, 1) := by decide +kernel
theorem dX3_radiusOf_69 : decode cX3_radiusOf 69 = .ok (.iload_n 1, 1) := by decide +kernel
theorem dX3_radiusOf_70 : decode cX3_radiusOf 70 = .ok (.iload 4, 2) := by decide +kernel
theorem dX3_radiusOf_72 : decode cX3_radiusOf 72 = .ok (.iconst 1, 1) := by decide +kernel
theorem dX3_radiusOf_73 : decode cX3_radiusOf 73 = .ok (.iadd, 1) := by decide +kernel
theorem dX3_radiusOf_74 : decode cX3_radiusOf 74 = .ok (.invokevirtual 63, 3) := by decide +kernel
theorem dX3_radiusOf_77 : decode cX3_radiusOf 77 = .ok (.iload_n 2, 1) := by decide +kernel
theorem dX3_radiusOf_78 : decode cX3_radiusOf 78 = .ok (.if_icmp .gt 6, 3) := by decide +kernel
theorem dX3_radiusOf_81 : decode cX3_radiusOf 81 = .ok (.goto 44, 3) := by decide +kernel
theorem dX3_radiusOf_84 : decode cX3_radiusOf 84 = .ok (.aload_n 0, 1) := by decide +kernel
theorem dX3_radiusOf_85 : decode cX3_radiusOf 85 = .ok (.iload_n 1, 1) := by decide +kernel
theorem dX3_radiusOf_86 : decode cX3_radiusOf 86 = .ok (.iload 4, 2) := by decide +kernel
theorem dX3_radiusOf_88 : decode cX3_radiusOf 88 = .ok (.iconst 1, 1) := by decide +kernel
theorem dX3_radiusOf_89 : decode cX3_radiusOf 89 = .ok (.iadd, 1) := by decide +kernel
theorem dX3_radiusOf_90 : decode cX3_radiusOf 90 = .ok (.invokevirtual 63, 3) := by decide +kernel
theorem dX3_radiusOf_93 : decode cX3_radiusOf 93 = .ok (.iload 5, 2) := by decide +kernel
theorem dX3_radiusOf_95 : decode cX3_radiusOf 95 = .ok (.isub, 1) := by decide +kernel
theorem dX3_radiusOf_96 : decode cX3_radiusOf 96 = .ok (.istore 7, 2) := by decide +kernel
theorem dX3_radiusOf_98 : decode cX3_radiusOf 98 = .ok (.iload 6, 2) := by decide +kernel
theorem dX3_radiusOf_100 : decode cX3_radiusOf 100 = .ok (.iload 7, 2) := by decide +kernel
theorem dX3_radiusOf_102 : decode cX3_radiusOf 102 = .ok (.imul, 1) := by decide +kernel
theorem dX3_radiusOf_103 : decode cX3_radiusOf 103 = .ok (.aload_n 0, 1) := by decide +kernel
theorem dX3_radiusOf_104 : decode cX3_radiusOf 104 = .ok (.iload_n 1, 1) := by decide +kernel
theorem dX3_radiusOf_105 : decode cX3_radiusOf 105 = .ok (.iload 4, 2) := by decide +kernel
theorem dX3_radiusOf_107 : decode cX3_radiusOf 107 = .ok (.iconst 1, 1) := by decide +kernel
theorem dX3_radiusOf_108 : decode cX3_radiusOf 108 = .ok (.iadd, 1) := by decide +kernel
theorem dX3_radiusOf_109 : decode cX3_radiusOf 109 = .ok (.invokevirtual 67, 3) := by decide +kernel
theorem dX3_radiusOf_112 : decode cX3_radiusOf 112 = .ok (.iload 6, 2) := by decide +kernel
theorem dX3_radiusOf_114 : decode cX3_radiusOf 114 = .ok (.isub, 1) := by decide +kernel
theorem dX3_radiusOf_115 : decode cX3_radiusOf 115 = .ok (.iload_n 2, 1) := by decide +kernel
theorem dX3_radiusOf_116 : decode cX3_radiusOf 116 = .ok (.iload 5, 2) := by decide +kernel
theorem dX3_radiusOf_118 : decode cX3_radiusOf 118 = .ok (.isub, 1) := by decide +kernel
theorem dX3_radiusOf_119 : decode cX3_radiusOf 119 = .ok (.imul, 1) := by decide +kernel
theorem dX3_radiusOf_120 : decode cX3_radiusOf 120 = .ok (.iadd, 1) := by decide +kernel
theorem dX3_radiusOf_121 : decode cX3_radiusOf 121 = .ok (.iload 7, 2) := by decide +kernel
theorem dX3_radiusOf_123 : decode cX3_radiusOf 123 = .ok (.idiv, 1) := by decide +kernel
theorem dX3_radiusOf_124 : decode cX3_radiusOf 124 = .ok (.istore_n 3, 1) := by decide +kernel
theorem dX3_radiusOf_125 : decode cX3_radiusOf 125 = .ok (.iinc 4 1, 3) := by decide +kernel
theorem dX3_radiusOf_128 : decode cX3_radiusOf 128 = .ok (.goto (-123), 3) := by decide +kernel
theorem dX3_radiusOf_131 : decode cX3_radiusOf 131 = .ok (.iload_n 3, 1) := by decide +kernel
theorem dX3_radiusOf_132 : decode cX3_radiusOf 132 = .ok (.ireturn, 1) := by decide +kernel
theorem dX3_radius_0 : decode cX3_radius 0 = .ok (.aload_n 0, 1) := by decide +kernel
theorem dX3_radius_1 : decode cX3_radius 1 = .ok (.aload_n 0, 1) := by decide +kernel
theorem dX3_radius_2 : decode cX3_radius 2 = .ok (.iload_n 1, 1) := by decide +kernel
theorem dX3_radius_3 : decode cX3_radius 3 = .ok (.invokevirtual 70, 3) := by decide +kernel
theorem dX3_radius_6 : decode cX3_radius 6 = .ok (.ifCond .ne 7, 3) := by decide +kernel
theorem dX3_radius_9 : decode cX3_radius 9 = .ok (.iconst 1, 1) := by decide +kernel
theorem dX3_radius_10 : decode cX3_radius 10 = .ok (.goto 4, 3) := by decide +kernel
theorem dX3_radius_13 : decode cX3_radius 13 = .ok (.iconst 0, 1) := by decide +kernel
theorem dX3_radius_14 : decode cX3_radius 14 = .ok (.iconst 0, 1) := by decide +kernel
theorem dX3_radius_15 : decode cX3_radius 15 = .ok (.iconst 0, 1) := by decide +kernel
theorem dX3_radius_16 : decode cX3_radius 16 = .ok (.invokevirtual 59, 3) := by decide +kernel
theorem dX3_radius_19 : decode cX3_radius 19 = .ok (.ifCond .eq 5, 3) := by decide +kernel
theorem dX3_radius_22 : decode cX3_radius 22 = .ok (.iconst 0, 1) := by decide +kernel
theorem dX3_radius_23 : decode cX3_radius 23 = .ok (.ireturn, 1) := by decide +kernel
theorem dX3_radius_24 : decode cX3_radius 24 = .ok (.aload_n 0, 1) := by decide +kernel
theorem dX3_radius_25 : decode cX3_radius 25 = .ok (.iload_n 1, 1) := by decide +kernel
theorem dX3_radius_26 : decode cX3_radius 26 = .ok (.iload_n 2, 1) := by decide +kernel
theorem dX3_radius_27 : decode cX3_radius 27 = .ok (.invokevirtual 81, 3) := by decide +kernel
theorem dX3_radius_30 : decode cX3_radius 30 = .ok (.ireturn, 1) := by decide +kernel
theorem dX3_common_0 : decode cX3_common 0 = .ok (.lload_n 0, 1) := by decide +kernel
theorem dX3_common_1 : decode cX3_common 1 = .ok (.lstore 4, 2) := by decide +kernel
theorem dX3_common_3 : decode cX3_common 3 = .ok (.lload_n 2, 1) := by decide +kernel
theorem dX3_common_4 : decode cX3_common 4 = .ok (.lstore 6, 2) := by decide +kernel
theorem dX3_common_6 : decode cX3_common 6 = .ok (.lload 6, 2) := by decide +kernel
theorem dX3_common_8 : decode cX3_common 8 = .ok (.lconst 0, 1) := by decide +kernel
theorem dX3_common_9 : decode cX3_common 9 = .ok (.lcmp, 1) := by decide +kernel
theorem dX3_common_10 : decode cX3_common 10 = .ok (.ifCond .le 21, 3) := by decide +kernel
theorem dX3_common_13 : decode cX3_common 13 = .ok (.lload 4, 2) := by decide +kernel
theorem dX3_common_15 : decode cX3_common 15 = .ok (.lload 6, 2) := by decide +kernel
theorem dX3_common_17 : decode cX3_common 17 = .ok (.lrem, 1) := by decide +kernel
theorem dX3_common_18 : decode cX3_common 18 = .ok (.lstore 8, 2) := by decide +kernel
theorem dX3_common_20 : decode cX3_common 20 = .ok (.lload 6, 2) := by decide +kernel
theorem dX3_common_22 : decode cX3_common 22 = .ok (.lstore 4, 2) := by decide +kernel
theorem dX3_common_24 : decode cX3_common 24 = .ok (.lload 8, 2) := by decide +kernel
theorem dX3_common_26 : decode cX3_common 26 = .ok (.lstore 6, 2) := by decide +kernel
theorem dX3_common_28 : decode cX3_common 28 = .ok (.goto (-22), 3) := by decide +kernel
theorem dX3_common_31 : decode cX3_common 31 = .ok (.lload 4, 2) := by decide +kernel
theorem dX3_common_33 : decode cX3_common 33 = .ok (.lreturn, 1) := by decide +kernel
theorem dX3_lessen_0 : decode cX3_lessen 0 = .ok (.aload_n 0, 1) := by decide +kernel
theorem dX3_lessen_1 : decode cX3_lessen 1 = .ok (.getfield 84, 3) := by decide +kernel
theorem dX3_lessen_4 : decode cX3_lessen 4 = .ok (.aload_n 0, 1) := by decide +kernel
theorem dX3_lessen_5 : decode cX3_lessen 5 = .ok (.getfield 44, 3) := by decide +kernel
theorem dX3_lessen_8 : decode cX3_lessen 8 = .ok (.invokestatic 87, 3) := by decide +kernel
theorem dX3_lessen_11 : decode cX3_lessen 11 = .ok (.lstore_n 1, 1) := by decide +kernel
theorem dX3_lessen_12 : decode cX3_lessen 12 = .ok (.aload_n 0, 1) := by decide +kernel
theorem dX3_lessen_13 : decode cX3_lessen 13 = .ok (.aload_n 0, 1) := by decide +kernel
theorem dX3_lessen_14 : decode cX3_lessen 14 = .ok (.getfield 84, 3) := by decide +kernel
theorem dX3_lessen_17 : decode cX3_lessen 17 = .ok (.lload_n 1, 1) := by decide +kernel
theorem dX3_lessen_18 : decode cX3_lessen 18 = .ok (.ldiv, 1) := by decide +kernel
theorem dX3_lessen_19 : decode cX3_lessen 19 = .ok (.putfield 84, 3) := by decide +kernel
theorem dX3_lessen_22 : decode cX3_lessen 22 = .ok (.aload_n 0, 1) := by decide +kernel
theorem dX3_lessen_23 : decode cX3_lessen 23 = .ok (.aload_n 0, 1) := by decide +kernel
theorem dX3_lessen_24 : decode cX3_lessen 24 = .ok (.getfield 44, 3) := by decide +kernel
theorem dX3_lessen_27 : decode cX3_lessen 27 = .ok (.lload_n 1, 1) := by decide +kernel
theorem dX3_lessen_28 : decode cX3_lessen 28 = .ok (.ldiv, 1) := by decide +kernel
theorem dX3_lessen_29 : decode cX3_lessen 29 = .ok (.putfield 44, 3) := by decide +kernel
theorem dX3_lessen_32 : decode cX3_lessen 32 = .ok (.return_, 1) := by decide +kernel
theorem dX3_add_0 : decode cX3_add 0 = .ok (.aload_n 0, 1) := by decide +kernel
theorem dX3_add_1 : decode cX3_add 1 = .ok (.getfield 44, 3) := by decide +kernel
theorem dX3_add_4 : decode cX3_add 4 = .ok (.lload_n 3, 1) := by decide +kernel
theorem dX3_add_5 : decode cX3_add 5 = .ok (.invokestatic 87, 3) := by decide +kernel
theorem dX3_add_8 : decode cX3_add 8 = .ok (.lstore 5, 2) := by decide +kernel
theorem dX3_add_10 : decode cX3_add 10 = .ok (.aload_n 0, 1) := by decide +kernel
theorem dX3_add_11 : decode cX3_add 11 = .ok (.aload_n 0, 1) := by decide +kernel
theorem dX3_add_12 : decode cX3_add 12 = .ok (.getfield 84, 3) := by decide +kernel
theorem dX3_add_15 : decode cX3_add 15 = .ok (.lload_n 3, 1) := by decide +kernel
theorem dX3_add_16 : decode cX3_add 16 = .ok (.lload 5, 2) := by decide +kernel
theorem dX3_add_18 : decode cX3_add 18 = .ok (.ldiv, 1) := by decide +kernel
theorem dX3_add_19 : decode cX3_add 19 = .ok (.lmul, 1) := by decide +kernel
theorem dX3_add_20 : decode cX3_add 20 = .ok (.lload_n 1, 1) := by decide +kernel
theorem dX3_add_21 : decode cX3_add 21 = .ok (.aload_n 0, 1) := by decide +kernel
theorem dX3_add_22 : decode cX3_add 22 = .ok (.getfield 44, 3) := by decide +kernel
theorem dX3_add_25 : decode cX3_add 25 = .ok (.lload 5, 2) := by decide +kernel
theorem dX3_add_27 : decode cX3_add 27 = .ok (.ldiv, 1) := by decide +kernel
theorem dX3_add_28 : decode cX3_add 28 = .ok (.lmul, 1) := by decide +kernel
theorem dX3_add_29 : decode cX3_add 29 = .ok (.ladd, 1) := by decide +kernel
theorem dX3_add_30 : decode cX3_add 30 = .ok (.putfield 84, 3) := by decide +kernel
theorem dX3_add_33 : decode cX3_add 33 = .ok (.aload_n 0, 1) := by decide +kernel
theorem dX3_add_34 : decode cX3_add 34 = .ok (.aload_n 0, 1) := by decide +kernel
theorem dX3_add_35 : decode cX3_add 35 = .ok (.getfield 44, 3) := by decide +kernel
theorem dX3_add_38 : decode cX3_add 38 = .ok (.lload 5, 2) := by decide +kernel
theorem dX3_add_40 : decode cX3_add 40 = .ok (.ldiv, 1) := by decide +kernel
theorem dX3_add_41 : decode cX3_add 41 = .ok (.lload_n 3, 1) := by decide +kernel
theorem dX3_add_42 : decode cX3_add 42 = .ok (.lmul, 1) := by decide +kernel
theorem dX3_add_43 : decode cX3_add 43 = .ok (.putfield 44, 3) := by decide +kernel
theorem dX3_add_46 : decode cX3_add 46 = .ok (.aload_n 0, 1) := by decide +kernel
theorem dX3_add_47 : decode cX3_add 47 = .ok (.invokevirtual 91, 3) := by decide +kernel
theorem dX3_add_50 : decode cX3_add 50 = .ok (.return_, 1) := by decide +kernel
theorem dX3_less_0 : decode cX3_less 0 = .ok (.iload_n 0, 1) := by decide +kernel
theorem dX3_less_1 : decode cX3_less 1 = .ok (.iload_n 1, 1) := by decide +kernel
theorem dX3_less_2 : decode cX3_less 2 = .ok (.if_icmp .le 9, 3) := by decide +kernel
theorem dX3_less_5 : decode cX3_less 5 = .ok (.iload_n 0, 1) := by decide +kernel
theorem dX3_less_6 : decode cX3_less 6 = .ok (.iload_n 1, 1) := by decide +kernel
theorem dX3_less_7 : decode cX3_less 7 = .ok (.isub, 1) := by decide +kernel
theorem dX3_less_8 : decode cX3_less 8 = .ok (.goto 4, 3) := by decide +kernel
theorem dX3_less_11 : decode cX3_less 11 = .ok (.iconst 0, 1) := by decide +kernel
theorem dX3_less_12 : decode cX3_less 12 = .ok (.ireturn, 1) := by decide +kernel
theorem dX3_addPiece_0 : decode cX3_addPiece 0 = .ok (.aload_n 0, 1) := by decide +kernel
theorem dX3_addPiece_1 : decode cX3_addPiece 1 = .ok (.iload_n 1, 1) := by decide +kernel
theorem dX3_addPiece_2 : decode cX3_addPiece 2 = .ok (.iload_n 2, 1) := by decide +kernel
theorem dX3_addPiece_3 : decode cX3_addPiece 3 = .ok (.iconst 1, 1) := by decide +kernel
theorem dX3_addPiece_4 : decode cX3_addPiece 4 = .ok (.iadd, 1) := by decide +kernel
theorem dX3_addPiece_5 : decode cX3_addPiece 5 = .ok (.invokevirtual 63, 3) := by decide +kernel
theorem dX3_addPiece_8 : decode cX3_addPiece 8 = .ok (.aload_n 0, 1) := by decide +kernel
theorem dX3_addPiece_9 : decode cX3_addPiece 9 = .ok (.iload_n 1, 1) := by decide +kernel
theorem dX3_addPiece_10 : decode cX3_addPiece 10 = .ok (.iload_n 2, 1) := by decide +kernel
theorem dX3_addPiece_11 : decode cX3_addPiece 11 = .ok (.invokevirtual 63, 3) := by decide +kernel
theorem dX3_addPiece_14 : decode cX3_addPiece 14 = .ok (.isub, 1) := by decide +kernel
theorem dX3_addPiece_15 : decode cX3_addPiece 15 = .ok (.i2l, 1) := by decide +kernel
theorem dX3_addPiece_16 : decode cX3_addPiece 16 = .ok (.lstore 6, 2) := by decide +kernel
theorem dX3_addPiece_18 : decode cX3_addPiece 18 = .ok (.aload_n 0, 1) := by decide +kernel
theorem dX3_addPiece_19 : decode cX3_addPiece 19 = .ok (.iload_n 1, 1) := by decide +kernel
theorem dX3_addPiece_20 : decode cX3_addPiece 20 = .ok (.iload_n 2, 1) := by decide +kernel
theorem dX3_addPiece_21 : decode cX3_addPiece 21 = .ok (.invokevirtual 67, 3) := by decide +kernel
theorem dX3_addPiece_24 : decode cX3_addPiece 24 = .ok (.iload 5, 2) := by decide +kernel
theorem dX3_addPiece_26 : decode cX3_addPiece 26 = .ok (.invokestatic 94, 3) := by decide +kernel
theorem dX3_addPiece_29 : decode cX3_addPiece 29 = .ok (.i2l, 1) := by decide +kernel
theorem dX3_addPiece_30 : decode cX3_addPiece 30 = .ok (.lstore 8, 2) := by decide +kernel
theorem dX3_addPiece_32 : decode cX3_addPiece 32 = .ok (.aload_n 0, 1) := by decide +kernel
theorem dX3_addPiece_33 : decode cX3_addPiece 33 = .ok (.iload_n 1, 1) := by decide +kernel
theorem dX3_addPiece_34 : decode cX3_addPiece 34 = .ok (.iload_n 2, 1) := by decide +kernel
theorem dX3_addPiece_35 : decode cX3_addPiece 35 = .ok (.iconst 1, 1) := by decide +kernel
theorem dX3_addPiece_36 : decode cX3_addPiece 36 = .ok (.iadd, 1) := by decide +kernel
theorem dX3_addPiece_37 : decode cX3_addPiece 37 = .ok (.invokevirtual 67, 3) := by decide +kernel
theorem dX3_addPiece_40 : decode cX3_addPiece 40 = .ok (.iload 5, 2) := by decide +kernel
theorem dX3_addPiece_42 : decode cX3_addPiece 42 = .ok (.invokestatic 94, 3) := by decide +kernel
theorem dX3_addPiece_45 : decode cX3_addPiece 45 = .ok (.i2l, 1) := by decide +kernel
theorem dX3_addPiece_46 : decode cX3_addPiece 46 = .ok (.lstore 10, 2) := by decide +kernel
theorem dX3_addPiece_48 : decode cX3_addPiece 48 = .ok (.lload 8, 2) := by decide +kernel
theorem dX3_addPiece_50 : decode cX3_addPiece 50 = .ok (.lload 6, 2) := by decide +kernel
theorem dX3_addPiece_52 : decode cX3_addPiece 52 = .ok (.lmul, 1) := by decide +kernel
theorem dX3_addPiece_53 : decode cX3_addPiece 53 = .ok (.lload 10, 2) := by decide +kernel
theorem dX3_addPiece_55 : decode cX3_addPiece 55 = .ok (.lload 8, 2) := by decide +kernel
theorem dX3_addPiece_57 : decode cX3_addPiece 57 = .ok (.lsub, 1) := by decide +kernel
theorem dX3_addPiece_58 : decode cX3_addPiece 58 = .ok (.iload_n 3, 1) := by decide +kernel
theorem dX3_addPiece_59 : decode cX3_addPiece 59 = .ok (.aload_n 0, 1) := by decide +kernel
theorem dX3_addPiece_60 : decode cX3_addPiece 60 = .ok (.iload_n 1, 1) := by decide +kernel
theorem dX3_addPiece_61 : decode cX3_addPiece 61 = .ok (.iload_n 2, 1) := by decide +kernel
theorem dX3_addPiece_62 : decode cX3_addPiece 62 = .ok (.invokevirtual 63, 3) := by decide +kernel
theorem dX3_addPiece_65 : decode cX3_addPiece 65 = .ok (.isub, 1) := by decide +kernel
theorem dX3_addPiece_66 : decode cX3_addPiece 66 = .ok (.i2l, 1) := by decide +kernel
theorem dX3_addPiece_67 : decode cX3_addPiece 67 = .ok (.lmul, 1) := by decide +kernel
theorem dX3_addPiece_68 : decode cX3_addPiece 68 = .ok (.ladd, 1) := by decide +kernel
theorem dX3_addPiece_69 : decode cX3_addPiece 69 = .ok (.lstore 12, 2) := by decide +kernel
theorem dX3_addPiece_71 : decode cX3_addPiece 71 = .ok (.lload 8, 2) := by decide +kernel
theorem dX3_addPiece_73 : decode cX3_addPiece 73 = .ok (.lload 6, 2) := by decide +kernel
theorem dX3_addPiece_75 : decode cX3_addPiece 75 = .ok (.lmul, 1) := by decide +kernel
theorem dX3_addPiece_76 : decode cX3_addPiece 76 = .ok (.lload 10, 2) := by decide +kernel
theorem dX3_addPiece_78 : decode cX3_addPiece 78 = .ok (.lload 8, 2) := by decide +kernel
theorem dX3_addPiece_80 : decode cX3_addPiece 80 = .ok (.lsub, 1) := by decide +kernel
theorem dX3_addPiece_81 : decode cX3_addPiece 81 = .ok (.iload 4, 2) := by decide +kernel
theorem dX3_addPiece_83 : decode cX3_addPiece 83 = .ok (.aload_n 0, 1) := by decide +kernel
theorem dX3_addPiece_84 : decode cX3_addPiece 84 = .ok (.iload_n 1, 1) := by decide +kernel
theorem dX3_addPiece_85 : decode cX3_addPiece 85 = .ok (.iload_n 2, 1) := by decide +kernel
theorem dX3_addPiece_86 : decode cX3_addPiece 86 = .ok (.invokevirtual 63, 3) := by decide +kernel
theorem dX3_addPiece_89 : decode cX3_addPiece 89 = .ok (.isub, 1) := by decide +kernel
theorem dX3_addPiece_90 : decode cX3_addPiece 90 = .ok (.i2l, 1) := by decide +kernel
theorem dX3_addPiece_91 : decode cX3_addPiece 91 = .ok (.lmul, 1) := by decide +kernel
theorem dX3_addPiece_92 : decode cX3_addPiece 92 = .ok (.ladd, 1) := by decide +kernel
theorem dX3_addPiece_93 : decode cX3_addPiece 93 = .ok (.lstore 14, 2) := by decide +kernel
theorem dX3_addPiece_95 : decode cX3_addPiece 95 = .ok (.aload_n 0, 1) := by decide +kernel
theorem dX3_addPiece_96 : decode cX3_addPiece 96 = .ok (.iload 4, 2) := by decide +kernel
theorem dX3_addPiece_98 : decode cX3_addPiece 98 = .ok (.iload_n 3, 1) := by decide +kernel
theorem dX3_addPiece_99 : decode cX3_addPiece 99 = .ok (.isub, 1) := by decide +kernel
theorem dX3_addPiece_100 : decode cX3_addPiece 100 = .ok (.i2l, 1) := by decide +kernel
theorem dX3_addPiece_101 : decode cX3_addPiece 101 = .ok (.lload 12, 2) := by decide +kernel
theorem dX3_addPiece_103 : decode cX3_addPiece 103 = .ok (.lload 12, 2) := by decide +kernel
theorem dX3_addPiece_105 : decode cX3_addPiece 105 = .ok (.lmul, 1) := by decide +kernel
theorem dX3_addPiece_106 : decode cX3_addPiece 106 = .ok (.lload 12, 2) := by decide +kernel
theorem dX3_addPiece_108 : decode cX3_addPiece 108 = .ok (.lload 14, 2) := by decide +kernel
theorem dX3_addPiece_110 : decode cX3_addPiece 110 = .ok (.lmul, 1) := by decide +kernel
theorem dX3_addPiece_111 : decode cX3_addPiece 111 = .ok (.ladd, 1) := by decide +kernel
theorem dX3_addPiece_112 : decode cX3_addPiece 112 = .ok (.lload 14, 2) := by decide +kernel
theorem dX3_addPiece_114 : decode cX3_addPiece 114 = .ok (.lload 14, 2) := by decide +kernel
theorem dX3_addPiece_116 : decode cX3_addPiece 116 = .ok (.lmul, 1) := by decide +kernel
theorem dX3_addPiece_117 : decode cX3_addPiece 117 = .ok (.ladd, 1) := by decide +kernel
theorem dX3_addPiece_118 : decode cX3_addPiece 118 = .ok (.lmul, 1) := by decide +kernel
theorem dX3_addPiece_119 : decode cX3_addPiece 119 = .ok (.ldc2_w 97, 3) := by decide +kernel
theorem dX3_addPiece_122 : decode cX3_addPiece 122 = .ok (.lload 6, 2) := by decide +kernel
theorem dX3_addPiece_124 : decode cX3_addPiece 124 = .ok (.lmul, 1) := by decide +kernel
theorem dX3_addPiece_125 : decode cX3_addPiece 125 = .ok (.lload 6, 2) := by decide +kernel
theorem dX3_addPiece_127 : decode cX3_addPiece 127 = .ok (.lmul, 1) := by decide +kernel
theorem dX3_addPiece_128 : decode cX3_addPiece 128 = .ok (.invokevirtual 99, 3) := by decide +kernel
theorem dX3_addPiece_131 : decode cX3_addPiece 131 = .ok (.return_, 1) := by decide +kernel
theorem dX3_sum_0 : decode cX3_sum 0 = .ok (.aload_n 0, 1) := by decide +kernel
theorem dX3_sum_1 : decode cX3_sum 1 = .ok (.lconst 0, 1) := by decide +kernel
theorem dX3_sum_2 : decode cX3_sum 2 = .ok (.putfield 84, 3) := by decide +kernel
theorem dX3_sum_5 : decode cX3_sum 5 = .ok (.aload_n 0, 1) := by decide +kernel
theorem dX3_sum_6 : decode cX3_sum 6 = .ok (.lconst 1, 1) := by decide +kernel
theorem dX3_sum_7 : decode cX3_sum 7 = .ok (.putfield 44, 3) := by decide +kernel
theorem dX3_sum_10 : decode cX3_sum 10 = .ok (.iconst 0, 1) := by decide +kernel
theorem dX3_sum_11 : decode cX3_sum 11 = .ok (.istore 5, 2) := by decide +kernel
theorem dX3_sum_13 : decode cX3_sum 13 = .ok (.iload 5, 2) := by decide +kernel
theorem dX3_sum_15 : decode cX3_sum 15 = .ok (.iconst 1, 1) := by decide +kernel
theorem dX3_sum_16 : decode cX3_sum 16 = .ok (.iadd, 1) := by decide +kernel
theorem dX3_sum_17 : decode cX3_sum 17 = .ok (.aload_n 0, 1) := by decide +kernel
theorem dX3_sum_18 : decode cX3_sum 18 = .ok (.getfield 7, 3) := by decide +kernel
theorem dX3_sum_21 : decode cX3_sum 21 = .ok (.iload_n 1, 1) := by decide +kernel
theorem dX3_sum_22 : decode cX3_sum 22 = .ok (.iaload, 1) := by decide +kernel
theorem dX3_sum_23 : decode cX3_sum 23 = .ok (.if_icmp .ge 81, 3) := by decide +kernel
theorem dX3_sum_26 : decode cX3_sum 26 = .ok (.aload_n 0, 1) := by decide +kernel
theorem dX3_sum_27 : decode cX3_sum 27 = .ok (.iload_n 1, 1) := by decide +kernel
theorem dX3_sum_28 : decode cX3_sum 28 = .ok (.iload 5, 2) := by decide +kernel
theorem dX3_sum_30 : decode cX3_sum 30 = .ok (.invokevirtual 63, 3) := by decide +kernel
theorem dX3_sum_33 : decode cX3_sum 33 = .ok (.iload_n 2, 1) := by decide +kernel
theorem dX3_sum_34 : decode cX3_sum 34 = .ok (.if_icmp .le 13, 3) := by decide +kernel
theorem dX3_sum_37 : decode cX3_sum 37 = .ok (.aload_n 0, 1) := by decide +kernel
theorem dX3_sum_38 : decode cX3_sum 38 = .ok (.iload_n 1, 1) := by decide +kernel
theorem dX3_sum_39 : decode cX3_sum 39 = .ok (.iload 5, 2) := by decide +kernel
theorem dX3_sum_41 : decode cX3_sum 41 = .ok (.invokevirtual 63, 3) := by decide +kernel
theorem dX3_sum_44 : decode cX3_sum 44 = .ok (.goto 4, 3) := by decide +kernel
theorem dX3_sum_47 : decode cX3_sum 47 = .ok (.iload_n 2, 1) := by decide +kernel
theorem dX3_sum_48 : decode cX3_sum 48 = .ok (.istore 6, 2) := by decide +kernel
theorem dX3_sum_50 : decode cX3_sum 50 = .ok (.aload_n 0, 1) := by decide +kernel
theorem dX3_sum_51 : decode cX3_sum 51 = .ok (.iload_n 1, 1) := by decide +kernel
theorem dX3_sum_52 : decode cX3_sum 52 = .ok (.iload 5, 2) := by decide +kernel
theorem dX3_sum_54 : decode cX3_sum 54 = .ok (.iconst 1, 1) := by decide +kernel
theorem dX3_sum_55 : decode cX3_sum 55 = .ok (.iadd, 1) := by decide +kernel
theorem dX3_sum_56 : decode cX3_sum 56 = .ok (.invokevirtual 63, 3) := by decide +kernel
theorem dX3_sum_59 : decode cX3_sum 59 = .ok (.iload_n 3, 1) := by decide +kernel
theorem dX3_sum_60 : decode cX3_sum 60 = .ok (.if_icmp .ge 15, 3) := by decide +kernel
theorem dX3_sum_63 : decode cX3_sum 63 = .ok (.aload_n 0, 1) := by decide +kernel
theorem dX3_sum_64 : decode cX3_sum 64 = .ok (.iload_n 1, 1) := by decide +kernel
theorem dX3_sum_65 : decode cX3_sum 65 = .ok (.iload 5, 2) := by decide +kernel
theorem dX3_sum_67 : decode cX3_sum 67 = .ok (.iconst 1, 1) := by decide +kernel
theorem dX3_sum_68 : decode cX3_sum 68 = .ok (.iadd, 1) := by decide +kernel
theorem dX3_sum_69 : decode cX3_sum 69 = .ok (.invokevirtual 63, 3) := by decide +kernel
theorem dX3_sum_72 : decode cX3_sum 72 = .ok (.goto 4, 3) := by decide +kernel
theorem dX3_sum_75 : decode cX3_sum 75 = .ok (.iload_n 3, 1) := by decide +kernel
theorem dX3_sum_76 : decode cX3_sum 76 = .ok (.istore 7, 2) := by decide +kernel
theorem dX3_sum_78 : decode cX3_sum 78 = .ok (.iload 6, 2) := by decide +kernel
theorem dX3_sum_80 : decode cX3_sum 80 = .ok (.iload 7, 2) := by decide +kernel
theorem dX3_sum_82 : decode cX3_sum 82 = .ok (.if_icmp .ge 16, 3) := by decide +kernel
theorem dX3_sum_85 : decode cX3_sum 85 = .ok (.aload_n 0, 1) := by decide +kernel
theorem dX3_sum_86 : decode cX3_sum 86 = .ok (.iload_n 1, 1) := by decide +kernel
theorem dX3_sum_87 : decode cX3_sum 87 = .ok (.iload 5, 2) := by decide +kernel
theorem dX3_sum_89 : decode cX3_sum 89 = .ok (.iload 6, 2) := by decide +kernel
theorem dX3_sum_91 : decode cX3_sum 91 = .ok (.iload 7, 2) := by decide +kernel
theorem dX3_sum_93 : decode cX3_sum 93 = .ok (.iload 4, 2) := by decide +kernel
theorem dX3_sum_95 : decode cX3_sum 95 = .ok (.invokevirtual 103, 3) := by decide +kernel
theorem dX3_sum_98 : decode cX3_sum 98 = .ok (.iinc 5 1, 3) := by decide +kernel
theorem dX3_sum_101 : decode cX3_sum 101 = .ok (.goto (-88), 3) := by decide +kernel
theorem dX3_sum_104 : decode cX3_sum 104 = .ok (.return_, 1) := by decide +kernel
theorem dX3_volume_0 : decode cX3_volume 0 = .ok (.aload_n 0, 1) := by decide +kernel
theorem dX3_volume_1 : decode cX3_volume 1 = .ok (.aload_n 0, 1) := by decide +kernel
theorem dX3_volume_2 : decode cX3_volume 2 = .ok (.iload_n 1, 1) := by decide +kernel
theorem dX3_volume_3 : decode cX3_volume 3 = .ok (.invokevirtual 70, 3) := by decide +kernel
theorem dX3_volume_6 : decode cX3_volume 6 = .ok (.ifCond .eq 12, 3) := by decide +kernel
theorem dX3_volume_9 : decode cX3_volume 9 = .ok (.iload_n 3, 1) := by decide +kernel
theorem dX3_volume_10 : decode cX3_volume 10 = .ok (.iconst 0, 1) := by decide +kernel
theorem dX3_volume_11 : decode cX3_volume 11 = .ok (.iconst 1, 1) := by decide +kernel
theorem dX3_volume_12 : decode cX3_volume 12 = .ok (.invokestatic 55, 3) := by decide +kernel
theorem dX3_volume_15 : decode cX3_volume 15 = .ok (.ifCond .ne 7, 3) := by decide +kernel
theorem dX3_volume_18 : decode cX3_volume 18 = .ok (.iconst 1, 1) := by decide +kernel
theorem dX3_volume_19 : decode cX3_volume 19 = .ok (.goto 4, 3) := by decide +kernel
theorem dX3_volume_22 : decode cX3_volume 22 = .ok (.iconst 0, 1) := by decide +kernel
theorem dX3_volume_23 : decode cX3_volume 23 = .ok (.iconst 0, 1) := by decide +kernel
theorem dX3_volume_24 : decode cX3_volume 24 = .ok (.iconst 0, 1) := by decide +kernel
theorem dX3_volume_25 : decode cX3_volume 25 = .ok (.invokevirtual 59, 3) := by decide +kernel
theorem dX3_volume_28 : decode cX3_volume 28 = .ok (.ifCond .eq 5, 3) := by decide +kernel
theorem dX3_volume_31 : decode cX3_volume 31 = .ok (.lconst 0, 1) := by decide +kernel
theorem dX3_volume_32 : decode cX3_volume 32 = .ok (.lreturn, 1) := by decide +kernel
theorem dX3_volume_33 : decode cX3_volume 33 = .ok (.aload_n 0, 1) := by decide +kernel
theorem dX3_volume_34 : decode cX3_volume 34 = .ok (.iload_n 1, 1) := by decide +kernel
theorem dX3_volume_35 : decode cX3_volume 35 = .ok (.iconst 0, 1) := by decide +kernel
theorem dX3_volume_36 : decode cX3_volume 36 = .ok (.iload_n 2, 1) := by decide +kernel
theorem dX3_volume_37 : decode cX3_volume 37 = .ok (.iconst 0, 1) := by decide +kernel
theorem dX3_volume_38 : decode cX3_volume 38 = .ok (.invokevirtual 107, 3) := by decide +kernel
theorem dX3_volume_41 : decode cX3_volume 41 = .ok (.iload_n 3, 1) := by decide +kernel
theorem dX3_volume_42 : decode cX3_volume 42 = .ok (.ifCond .ne 10, 3) := by decide +kernel
theorem dX3_volume_45 : decode cX3_volume 45 = .ok (.aload_n 0, 1) := by decide +kernel
theorem dX3_volume_46 : decode cX3_volume 46 = .ok (.getfield 84, 3) := by decide +kernel
theorem dX3_volume_49 : decode cX3_volume 49 = .ok (.goto 7, 3) := by decide +kernel
theorem dX3_volume_52 : decode cX3_volume 52 = .ok (.aload_n 0, 1) := by decide +kernel
theorem dX3_volume_53 : decode cX3_volume 53 = .ok (.getfield 44, 3) := by decide +kernel
theorem dX3_volume_56 : decode cX3_volume 56 = .ok (.lreturn, 1) := by decide +kernel
theorem dX3_sumHeld_0 : decode cX3_sumHeld 0 = .ok (.aload_n 0, 1) := by decide +kernel
theorem dX3_sumHeld_1 : decode cX3_sumHeld 1 = .ok (.lconst 0, 1) := by decide +kernel
theorem dX3_sumHeld_2 : decode cX3_sumHeld 2 = .ok (.putfield 84, 3) := by decide +kernel
theorem dX3_sumHeld_5 : decode cX3_sumHeld 5 = .ok (.aload_n 0, 1) := by decide +kernel
theorem dX3_sumHeld_6 : decode cX3_sumHeld 6 = .ok (.lconst 1, 1) := by decide +kernel
theorem dX3_sumHeld_7 : decode cX3_sumHeld 7 = .ok (.putfield 44, 3) := by decide +kernel
theorem dX3_sumHeld_10 : decode cX3_sumHeld 10 = .ok (.aload_n 0, 1) := by decide +kernel
theorem dX3_sumHeld_11 : decode cX3_sumHeld 11 = .ok (.getfield 7, 3) := by decide +kernel
theorem dX3_sumHeld_14 : decode cX3_sumHeld 14 = .ok (.iload_n 1, 1) := by decide +kernel
theorem dX3_sumHeld_15 : decode cX3_sumHeld 15 = .ok (.iaload, 1) := by decide +kernel
theorem dX3_sumHeld_16 : decode cX3_sumHeld 16 = .ok (.ifCond .le 28, 3) := by decide +kernel
theorem dX3_sumHeld_19 : decode cX3_sumHeld 19 = .ok (.aload_n 0, 1) := by decide +kernel
theorem dX3_sumHeld_20 : decode cX3_sumHeld 20 = .ok (.iload_n 1, 1) := by decide +kernel
theorem dX3_sumHeld_21 : decode cX3_sumHeld 21 = .ok (.aload_n 0, 1) := by decide +kernel
theorem dX3_sumHeld_22 : decode cX3_sumHeld 22 = .ok (.iload_n 1, 1) := by decide +kernel
theorem dX3_sumHeld_23 : decode cX3_sumHeld 23 = .ok (.iconst 0, 1) := by decide +kernel
theorem dX3_sumHeld_24 : decode cX3_sumHeld 24 = .ok (.invokevirtual 63, 3) := by decide +kernel
theorem dX3_sumHeld_27 : decode cX3_sumHeld 27 = .ok (.aload_n 0, 1) := by decide +kernel
theorem dX3_sumHeld_28 : decode cX3_sumHeld 28 = .ok (.getfield 23, 3) := by decide +kernel
theorem dX3_sumHeld_31 : decode cX3_sumHeld 31 = .ok (.iload_n 1, 1) := by decide +kernel
theorem dX3_sumHeld_32 : decode cX3_sumHeld 32 = .ok (.iaload, 1) := by decide +kernel
theorem dX3_sumHeld_33 : decode cX3_sumHeld 33 = .ok (.iadd, 1) := by decide +kernel
theorem dX3_sumHeld_34 : decode cX3_sumHeld 34 = .ok (.iload_n 2, 1) := by decide +kernel
theorem dX3_sumHeld_35 : decode cX3_sumHeld 35 = .ok (.aload_n 0, 1) := by decide +kernel
theorem dX3_sumHeld_36 : decode cX3_sumHeld 36 = .ok (.getfield 23, 3) := by decide +kernel
theorem dX3_sumHeld_39 : decode cX3_sumHeld 39 = .ok (.iload_n 1, 1) := by decide +kernel
theorem dX3_sumHeld_40 : decode cX3_sumHeld 40 = .ok (.iaload, 1) := by decide +kernel
theorem dX3_sumHeld_41 : decode cX3_sumHeld 41 = .ok (.invokevirtual 107, 3) := by decide +kernel
theorem dX3_sumHeld_44 : decode cX3_sumHeld 44 = .ok (.return_, 1) := by decide +kernel
theorem dX3_holds_0 : decode cX3_holds 0 = .ok (.aload_n 0, 1) := by decide +kernel
theorem dX3_holds_1 : decode cX3_holds 1 = .ok (.aload_n 0, 1) := by decide +kernel
theorem dX3_holds_2 : decode cX3_holds 2 = .ok (.iload_n 1, 1) := by decide +kernel
theorem dX3_holds_3 : decode cX3_holds 3 = .ok (.invokevirtual 70, 3) := by decide +kernel
theorem dX3_holds_6 : decode cX3_holds 6 = .ok (.ifCond .eq 12, 3) := by decide +kernel
theorem dX3_holds_9 : decode cX3_holds 9 = .ok (.iload_n 3, 1) := by decide +kernel
theorem dX3_holds_10 : decode cX3_holds 10 = .ok (.iconst 0, 1) := by decide +kernel
theorem dX3_holds_11 : decode cX3_holds 11 = .ok (.iconst 1, 1) := by decide +kernel
theorem dX3_holds_12 : decode cX3_holds 12 = .ok (.invokestatic 55, 3) := by decide +kernel
theorem dX3_holds_15 : decode cX3_holds 15 = .ok (.ifCond .ne 7, 3) := by decide +kernel
theorem dX3_holds_18 : decode cX3_holds 18 = .ok (.iconst 1, 1) := by decide +kernel
theorem dX3_holds_19 : decode cX3_holds 19 = .ok (.goto 4, 3) := by decide +kernel
theorem dX3_holds_22 : decode cX3_holds 22 = .ok (.iconst 0, 1) := by decide +kernel
theorem dX3_holds_23 : decode cX3_holds 23 = .ok (.iconst 0, 1) := by decide +kernel
theorem dX3_holds_24 : decode cX3_holds 24 = .ok (.iconst 0, 1) := by decide +kernel
theorem dX3_holds_25 : decode cX3_holds 25 = .ok (.invokevirtual 59, 3) := by decide +kernel
theorem dX3_holds_28 : decode cX3_holds 28 = .ok (.ifCond .eq 5, 3) := by decide +kernel
theorem dX3_holds_31 : decode cX3_holds 31 = .ok (.lconst 0, 1) := by decide +kernel
theorem dX3_holds_32 : decode cX3_holds 32 = .ok (.lreturn, 1) := by decide +kernel
theorem dX3_holds_33 : decode cX3_holds 33 = .ok (.aload_n 0, 1) := by decide +kernel
theorem dX3_holds_34 : decode cX3_holds 34 = .ok (.iload_n 1, 1) := by decide +kernel
theorem dX3_holds_35 : decode cX3_holds 35 = .ok (.iload_n 2, 1) := by decide +kernel
theorem dX3_holds_36 : decode cX3_holds 36 = .ok (.invokevirtual 111, 3) := by decide +kernel
theorem dX3_holds_39 : decode cX3_holds 39 = .ok (.iload_n 3, 1) := by decide +kernel
theorem dX3_holds_40 : decode cX3_holds 40 = .ok (.ifCond .ne 10, 3) := by decide +kernel
theorem dX3_holds_43 : decode cX3_holds 43 = .ok (.aload_n 0, 1) := by decide +kernel
theorem dX3_holds_44 : decode cX3_holds 44 = .ok (.getfield 84, 3) := by decide +kernel
theorem dX3_holds_47 : decode cX3_holds 47 = .ok (.goto 7, 3) := by decide +kernel
theorem dX3_holds_50 : decode cX3_holds 50 = .ok (.aload_n 0, 1) := by decide +kernel
theorem dX3_holds_51 : decode cX3_holds 51 = .ok (.getfield 44, 3) := by decide +kernel
theorem dX3_holds_54 : decode cX3_holds 54 = .ok (.lreturn, 1) := by decide +kernel
theorem dX3_times_0 : decode cX3_times 0 = .ok (.aload_n 0, 1) := by decide +kernel
theorem dX3_times_1 : decode cX3_times 1 = .ok (.getfield 84, 3) := by decide +kernel
theorem dX3_times_4 : decode cX3_times 4 = .ok (.aload_n 0, 1) := by decide +kernel
theorem dX3_times_5 : decode cX3_times 5 = .ok (.getfield 44, 3) := by decide +kernel
theorem dX3_times_8 : decode cX3_times 8 = .ok (.ldiv, 1) := by decide +kernel
theorem dX3_times_9 : decode cX3_times 9 = .ok (.lload_n 1, 1) := by decide +kernel
theorem dX3_times_10 : decode cX3_times 10 = .ok (.lmul, 1) := by decide +kernel
theorem dX3_times_11 : decode cX3_times 11 = .ok (.lstore 4, 2) := by decide +kernel
theorem dX3_times_13 : decode cX3_times 13 = .ok (.aload_n 0, 1) := by decide +kernel
theorem dX3_times_14 : decode cX3_times 14 = .ok (.getfield 84, 3) := by decide +kernel
theorem dX3_times_17 : decode cX3_times 17 = .ok (.aload_n 0, 1) := by decide +kernel
theorem dX3_times_18 : decode cX3_times 18 = .ok (.getfield 44, 3) := by decide +kernel
theorem dX3_times_21 : decode cX3_times 21 = .ok (.lrem, 1) := by decide +kernel
theorem dX3_times_22 : decode cX3_times 22 = .ok (.lstore 6, 2) := by decide +kernel
theorem dX3_times_24 : decode cX3_times 24 = .ok (.lload 6, 2) := by decide +kernel
theorem dX3_times_26 : decode cX3_times 26 = .ok (.lload_n 1, 1) := by decide +kernel
theorem dX3_times_27 : decode cX3_times 27 = .ok (.ldc2_w 115, 3) := by decide +kernel
theorem dX3_times_30 : decode cX3_times 30 = .ok (.ldiv, 1) := by decide +kernel
theorem dX3_times_31 : decode cX3_times 31 = .ok (.lmul, 1) := by decide +kernel
theorem dX3_times_32 : decode cX3_times 32 = .ok (.lstore 8, 2) := by decide +kernel
theorem dX3_times_34 : decode cX3_times 34 = .ok (.lload 8, 2) := by decide +kernel
theorem dX3_times_36 : decode cX3_times 36 = .ok (.aload_n 0, 1) := by decide +kernel
theorem dX3_times_37 : decode cX3_times 37 = .ok (.getfield 44, 3) := by decide +kernel
theorem dX3_times_40 : decode cX3_times 40 = .ok (.lrem, 1) := by decide +kernel
theorem dX3_times_41 : decode cX3_times 41 = .ok (.ldc2_w 115, 3) := by decide +kernel
theorem dX3_times_44 : decode cX3_times 44 = .ok (.lmul, 1) := by decide +kernel
theorem dX3_times_45 : decode cX3_times 45 = .ok (.lload 6, 2) := by decide +kernel
theorem dX3_times_47 : decode cX3_times 47 = .ok (.lload_n 1, 1) := by decide +kernel
theorem dX3_times_48 : decode cX3_times 48 = .ok (.ldc2_w 115, 3) := by decide +kernel
theorem dX3_times_51 : decode cX3_times 51 = .ok (.lrem, 1) := by decide +kernel
theorem dX3_times_52 : decode cX3_times 52 = .ok (.lmul, 1) := by decide +kernel
theorem dX3_times_53 : decode cX3_times 53 = .ok (.ladd, 1) := by decide +kernel
theorem dX3_times_54 : decode cX3_times 54 = .ok (.lstore 10, 2) := by decide +kernel
theorem dX3_times_56 : decode cX3_times 56 = .ok (.lload 4, 2) := by decide +kernel
theorem dX3_times_58 : decode cX3_times 58 = .ok (.lload 8, 2) := by decide +kernel
theorem dX3_times_60 : decode cX3_times 60 = .ok (.aload_n 0, 1) := by decide +kernel
theorem dX3_times_61 : decode cX3_times 61 = .ok (.getfield 44, 3) := by decide +kernel
theorem dX3_times_64 : decode cX3_times 64 = .ok (.ldiv, 1) := by decide +kernel
theorem dX3_times_65 : decode cX3_times 65 = .ok (.ldc2_w 115, 3) := by decide +kernel
theorem dX3_times_68 : decode cX3_times 68 = .ok (.lmul, 1) := by decide +kernel
theorem dX3_times_69 : decode cX3_times 69 = .ok (.ladd, 1) := by decide +kernel
theorem dX3_times_70 : decode cX3_times 70 = .ok (.lload 10, 2) := by decide +kernel
theorem dX3_times_72 : decode cX3_times 72 = .ok (.aload_n 0, 1) := by decide +kernel
theorem dX3_times_73 : decode cX3_times 73 = .ok (.getfield 44, 3) := by decide +kernel
theorem dX3_times_76 : decode cX3_times 76 = .ok (.ldiv, 1) := by decide +kernel
theorem dX3_times_77 : decode cX3_times 77 = .ok (.ladd, 1) := by decide +kernel
theorem dX3_times_78 : decode cX3_times 78 = .ok (.lstore 12, 2) := by decide +kernel
theorem dX3_times_80 : decode cX3_times 80 = .ok (.lload 10, 2) := by decide +kernel
theorem dX3_times_82 : decode cX3_times 82 = .ok (.aload_n 0, 1) := by decide +kernel
theorem dX3_times_83 : decode cX3_times 83 = .ok (.getfield 44, 3) := by decide +kernel
theorem dX3_times_86 : decode cX3_times 86 = .ok (.lrem, 1) := by decide +kernel
theorem dX3_times_87 : decode cX3_times 87 = .ok (.lconst 0, 1) := by decide +kernel
theorem dX3_times_88 : decode cX3_times 88 = .ok (.lcmp, 1) := by decide +kernel
theorem dX3_times_89 : decode cX3_times 89 = .ok (.ifCond .gt 14, 3) := by decide +kernel
theorem dX3_times_92 : decode cX3_times 92 = .ok (.lload 12, 2) := by decide +kernel
theorem dX3_times_94 : decode cX3_times 94 = .ok (.ldc2_w 117, 3) := by decide +kernel
theorem dX3_times_97 : decode cX3_times 97 = .ok (.lrem, 1) := by decide +kernel
theorem dX3_times_98 : decode cX3_times 98 = .ok (.lconst 0, 1) := by decide +kernel
theorem dX3_times_99 : decode cX3_times 99 = .ok (.lcmp, 1) := by decide +kernel
theorem dX3_times_100 : decode cX3_times 100 = .ok (.ifCond .le 7, 3) := by decide +kernel
theorem dX3_times_103 : decode cX3_times 103 = .ok (.iconst 1, 1) := by decide +kernel
theorem dX3_times_104 : decode cX3_times 104 = .ok (.goto 4, 3) := by decide +kernel
theorem dX3_times_107 : decode cX3_times 107 = .ok (.iconst 0, 1) := by decide +kernel
theorem dX3_times_108 : decode cX3_times 108 = .ok (.istore 14, 2) := by decide +kernel
theorem dX3_times_110 : decode cX3_times 110 = .ok (.lload 12, 2) := by decide +kernel
theorem dX3_times_112 : decode cX3_times 112 = .ok (.ldc2_w 117, 3) := by decide +kernel
theorem dX3_times_115 : decode cX3_times 115 = .ok (.ldiv, 1) := by decide +kernel
theorem dX3_times_116 : decode cX3_times 116 = .ok (.iload_n 3, 1) := by decide +kernel
theorem dX3_times_117 : decode cX3_times 117 = .ok (.ifCond .eq 12, 3) := by decide +kernel
theorem dX3_times_120 : decode cX3_times 120 = .ok (.iload 14, 2) := by decide +kernel
theorem dX3_times_122 : decode cX3_times 122 = .ok (.ifCond .eq 7, 3) := by decide +kernel
theorem dX3_times_125 : decode cX3_times 125 = .ok (.lconst 1, 1) := by decide +kernel
theorem dX3_times_126 : decode cX3_times 126 = .ok (.goto 4, 3) := by decide +kernel
theorem dX3_times_129 : decode cX3_times 129 = .ok (.lconst 0, 1) := by decide +kernel
theorem dX3_times_130 : decode cX3_times 130 = .ok (.ladd, 1) := by decide +kernel
theorem dX3_times_131 : decode cX3_times 131 = .ok (.lreturn, 1) := by decide +kernel
theorem dX3_enclose_0 : decode cX3_enclose 0 = .ok (.aload_n 0, 1) := by decide +kernel
theorem dX3_enclose_1 : decode cX3_enclose 1 = .ok (.iload_n 1, 1) := by decide +kernel
theorem dX3_enclose_2 : decode cX3_enclose 2 = .ok (.sipush 400, 3) := by decide +kernel
theorem dX3_enclose_5 : decode cX3_enclose 5 = .ok (.invokevirtual 111, 3) := by decide +kernel
theorem dX3_enclose_8 : decode cX3_enclose 8 = .ok (.iload_n 2, 1) := by decide +kernel
theorem dX3_enclose_9 : decode cX3_enclose 9 = .ok (.ifCond .ne 14, 3) := by decide +kernel
theorem dX3_enclose_12 : decode cX3_enclose 12 = .ok (.aload_n 0, 1) := by decide +kernel
theorem dX3_enclose_13 : decode cX3_enclose 13 = .ok (.ldc2_w 119, 3) := by decide +kernel
theorem dX3_enclose_16 : decode cX3_enclose 16 = .ok (.iconst 0, 1) := by decide +kernel
theorem dX3_enclose_17 : decode cX3_enclose 17 = .ok (.invokevirtual 121, 3) := by decide +kernel
theorem dX3_enclose_20 : decode cX3_enclose 20 = .ok (.goto 11, 3) := by decide +kernel
theorem dX3_enclose_23 : decode cX3_enclose 23 = .ok (.aload_n 0, 1) := by decide +kernel
theorem dX3_enclose_24 : decode cX3_enclose 24 = .ok (.ldc2_w 125, 3) := by decide +kernel
theorem dX3_enclose_27 : decode cX3_enclose 27 = .ok (.iconst 1, 1) := by decide +kernel
theorem dX3_enclose_28 : decode cX3_enclose 28 = .ok (.invokevirtual 121, 3) := by decide +kernel
theorem dX3_enclose_31 : decode cX3_enclose 31 = .ok (.lreturn, 1) := by decide +kernel
theorem dX3_enclosed_0 : decode cX3_enclosed 0 = .ok (.aload_n 0, 1) := by decide +kernel
theorem dX3_enclosed_1 : decode cX3_enclosed 1 = .ok (.aload_n 0, 1) := by decide +kernel
theorem dX3_enclosed_2 : decode cX3_enclosed 2 = .ok (.iload_n 1, 1) := by decide +kernel
theorem dX3_enclosed_3 : decode cX3_enclosed 3 = .ok (.invokevirtual 70, 3) := by decide +kernel
theorem dX3_enclosed_6 : decode cX3_enclosed 6 = .ok (.ifCond .eq 12, 3) := by decide +kernel
theorem dX3_enclosed_9 : decode cX3_enclosed 9 = .ok (.iload_n 2, 1) := by decide +kernel
theorem dX3_enclosed_10 : decode cX3_enclosed 10 = .ok (.iconst 0, 1) := by decide +kernel
theorem dX3_enclosed_11 : decode cX3_enclosed 11 = .ok (.iconst 1, 1) := by decide +kernel
theorem dX3_enclosed_12 : decode cX3_enclosed 12 = .ok (.invokestatic 55, 3) := by decide +kernel
theorem dX3_enclosed_15 : decode cX3_enclosed 15 = .ok (.ifCond .ne 7, 3) := by decide +kernel
theorem dX3_enclosed_18 : decode cX3_enclosed 18 = .ok (.iconst 1, 1) := by decide +kernel
theorem dX3_enclosed_19 : decode cX3_enclosed 19 = .ok (.goto 4, 3) := by decide +kernel
theorem dX3_enclosed_22 : decode cX3_enclosed 22 = .ok (.iconst 0, 1) := by decide +kernel
theorem dX3_enclosed_23 : decode cX3_enclosed 23 = .ok (.iconst 0, 1) := by decide +kernel
theorem dX3_enclosed_24 : decode cX3_enclosed 24 = .ok (.iconst 0, 1) := by decide +kernel
theorem dX3_enclosed_25 : decode cX3_enclosed 25 = .ok (.invokevirtual 59, 3) := by decide +kernel
theorem dX3_enclosed_28 : decode cX3_enclosed 28 = .ok (.ifCond .eq 5, 3) := by decide +kernel
theorem dX3_enclosed_31 : decode cX3_enclosed 31 = .ok (.lconst 0, 1) := by decide +kernel
