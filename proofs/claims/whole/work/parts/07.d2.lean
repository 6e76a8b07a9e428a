theorem dX2_init_0 : decode cX2_init 0 = .ok (.aload_n 0, 1) := by decide +kernel
theorem dX2_init_1 : decode cX2_init 1 = .ok (.invokespecial 1, 3) := by decide +kernel
theorem dX2_init_4 : decode cX2_init 4 = .ok (.aload_n 0, 1) := by decide +kernel
theorem dX2_init_5 : decode cX2_init 5 = .ok (.bipush 6, 2) := by decide +kernel
theorem dX2_init_7 : decode cX2_init 7 = .ok (.anewarray 9, 3) := by decide +kernel
theorem dX2_init_10 : decode cX2_init 10 = .ok (.putfield 11, 3) := by decide +kernel
theorem dX2_init_13 : decode cX2_init 13 = .ok (.aload_n 0, 1) := by decide +kernel
theorem dX2_init_14 : decode cX2_init 14 = .ok (.bipush 10, 2) := by decide +kernel
theorem dX2_init_16 : decode cX2_init 16 = .ok (.newarray .int, 2) := by decide +kernel
theorem dX2_init_18 : decode cX2_init 18 = .ok (.putfield 15, 3) := by decide +kernel
theorem dX2_init_21 : decode cX2_init 21 = .ok (.aload_n 0, 1) := by decide +kernel
theorem dX2_init_22 : decode cX2_init 22 = .ok (.bipush 20, 2) := by decide +kernel
theorem dX2_init_24 : decode cX2_init 24 = .ok (.newarray .int, 2) := by decide +kernel
theorem dX2_init_26 : decode cX2_init 26 = .ok (.putfield 19, 3) := by decide +kernel
theorem dX2_init_29 : decode cX2_init 29 = .ok (.aload_n 0, 1) := by decide +kernel
theorem dX2_init_30 : decode cX2_init 30 = .ok (.bipush 20, 2) := by decide +kernel
theorem dX2_init_32 : decode cX2_init 32 = .ok (.newarray .int, 2) := by decide +kernel
theorem dX2_init_34 : decode cX2_init 34 = .ok (.putfield 22, 3) := by decide +kernel
theorem dX2_init_37 : decode cX2_init 37 = .ok (.aload_n 0, 1) := by decide +kernel
theorem dX2_init_38 : decode cX2_init 38 = .ok (.bipush 60, 2) := by decide +kernel
theorem dX2_init_40 : decode cX2_init 40 = .ok (.newarray .int, 2) := by decide +kernel
theorem dX2_init_42 : decode cX2_init 42 = .ok (.putfield 25, 3) := by decide +kernel
theorem dX2_init_45 : decode cX2_init 45 = .ok (.aload_n 0, 1) := by decide +kernel
theorem dX2_init_46 : decode cX2_init 46 = .ok (.bipush 60, 2) := by decide +kernel
theorem dX2_init_48 : decode cX2_init 48 = .ok (.newarray .int, 2) := by decide +kernel
theorem dX2_init_50 : decode cX2_init 50 = .ok (.putfield 28, 3) := by decide +kernel
theorem dX2_init_53 : decode cX2_init 53 = .ok (.aload_n 0, 1) := by decide +kernel
theorem dX2_init_54 : decode cX2_init 54 = .ok (.bipush 60, 2) := by decide +kernel
theorem dX2_init_56 : decode cX2_init 56 = .ok (.newarray .int, 2) := by decide +kernel
theorem dX2_init_58 : decode cX2_init 58 = .ok (.putfield 31, 3) := by decide +kernel
theorem dX2_init_61 : decode cX2_init 61 = .ok (.aload_n 0, 1) := by decide +kernel
theorem dX2_init_62 : decode cX2_init 62 = .ok (.new 34, 3) := by decide +kernel
theorem dX2_init_65 : decode cX2_init 65 = .ok (.dup, 1) := by decide +kernel
theorem dX2_init_66 : decode cX2_init 66 = .ok (.invokespecial 36, 3) := by decide +kernel
theorem dX2_init_69 : decode cX2_init 69 = .ok (.putfield 37, 3) := by decide +kernel
theorem dX2_init_72 : decode cX2_init 72 = .ok (.return_, 1) := by decide +kernel
theorem dX2_profile_0 : decode cX2_profile 0 = .ok (.aload_n 0, 1) := by decide +kernel
theorem dX2_profile_1 : decode cX2_profile 1 = .ok (.getfield 41, 3) := by decide +kernel
theorem dX2_profile_4 : decode cX2_profile 4 = .ok (.bipush 6, 2) := by decide +kernel
theorem dX2_profile_6 : decode cX2_profile 6 = .ok (.if_icmp .lt 13, 3) := by decide +kernel
theorem dX2_profile_9 : decode cX2_profile 9 = .ok (.new 45, 3) := by decide +kernel
theorem dX2_profile_12 : decode cX2_profile 12 = .ok (.dup, 1) := by decide +kernel
theorem dX2_profile_13 : decode cX2_profile 13 = .ok (.ldc 47, 2) := by decide +kernel
theorem dX2_profile_15 : decode cX2_profile 15 = .ok (.invokespecial 49, 3) := by decide +kernel
theorem dX2_profile_18 : decode cX2_profile 18 = .ok (.athrow, 1) := by decide +kernel
theorem dX2_profile_19 : decode cX2_profile 19 = .ok (.aload_n 0, 1) := by decide +kernel
theorem dX2_profile_20 : decode cX2_profile 20 = .ok (.getfield 11, 3) := by decide +kernel
theorem dX2_profile_23 : decode cX2_profile 23 = .ok (.aload_n 0, 1) := by decide +kernel
theorem dX2_profile_24 : decode cX2_profile 24 = .ok (.getfield 41, 3) := by decide +kernel
theorem dX2_profile_27 : decode cX2_profile 27 = .ok (.new 9, 3) := by decide +kernel
theorem dX2_profile_30 : decode cX2_profile 30 = .ok (.dup, 1) := by decide +kernel
theorem dX2_profile_31 : decode cX2_profile 31 = .ok (.invokespecial 52, 3) := by decide +kernel
theorem dX2_profile_34 : decode cX2_profile 34 = .ok (.aastore, 1) := by decide +kernel
theorem dX2_profile_35 : decode cX2_profile 35 = .ok (.aload_n 0, 1) := by decide +kernel
theorem dX2_profile_36 : decode cX2_profile 36 = .ok (.dup, 1) := by decide +kernel
theorem dX2_profile_37 : decode cX2_profile 37 = .ok (.getfield 41, 3) := by decide +kernel
theorem dX2_profile_40 : decode cX2_profile 40 = .ok (.iconst 1, 1) := by decide +kernel
theorem dX2_profile_41 : decode cX2_profile 41 = .ok (.iadd, 1) := by decide +kernel
theorem dX2_profile_42 : decode cX2_profile 42 = .ok (.putfield 41, 3) := by decide +kernel
theorem dX2_profile_45 : decode cX2_profile 45 = .ok (.aload_n 0, 1) := by decide +kernel
theorem dX2_profile_46 : decode cX2_profile 46 = .ok (.getfield 41, 3) := by decide +kernel
theorem dX2_profile_49 : decode cX2_profile 49 = .ok (.iconst 1, 1) := by decide +kernel
theorem dX2_profile_50 : decode cX2_profile 50 = .ok (.isub, 1) := by decide +kernel
theorem dX2_profile_51 : decode cX2_profile 51 = .ok (.ireturn, 1) := by decide +kernel
theorem dX2_corner_0 : decode cX2_corner 0 = .ok (.aload_n 0, 1) := by decide +kernel
theorem dX2_corner_1 : decode cX2_corner 1 = .ok (.iload_n 1, 1) := by decide +kernel
theorem dX2_corner_2 : decode cX2_corner 2 = .ok (.invokevirtual 53, 3) := by decide +kernel
theorem dX2_corner_5 : decode cX2_corner 5 = .ok (.astore 4, 2) := by decide +kernel
theorem dX2_corner_7 : decode cX2_corner 7 = .ok (.iload_n 2, 1) := by decide +kernel
theorem dX2_corner_8 : decode cX2_corner 8 = .ok (.ifCond .lt 10, 3) := by decide +kernel
theorem dX2_corner_11 : decode cX2_corner 11 = .ok (.iload_n 2, 1) := by decide +kernel
theorem dX2_corner_12 : decode cX2_corner 12 = .ok (.sipush 400, 3) := by decide +kernel
theorem dX2_corner_15 : decode cX2_corner 15 = .ok (.if_icmp .le 13, 3) := by decide +kernel
theorem dX2_corner_18 : decode cX2_corner 18 = .ok (.new 57, 3) := by decide +kernel
theorem dX2_corner_21 : decode cX2_corner 21 = .ok (.dup, 1) := by decide +kernel
theorem dX2_corner_22 : decode cX2_corner 22 = .ok (.ldc 59, 2) := by decide +kernel
theorem dX2_corner_24 : decode cX2_corner 24 = .ok (.invokespecial 61, 3) := by decide +kernel
theorem dX2_corner_27 : decode cX2_corner 27 = .ok (.athrow, 1) := by decide +kernel
theorem dX2_corner_28 : decode cX2_corner 28 = .ok (.iload_n 3, 1) := by decide +kernel
theorem dX2_corner_29 : decode cX2_corner 29 = .ok (.ifCond .lt 10, 3) := by decide +kernel
theorem dX2_corner_32 : decode cX2_corner 32 = .ok (.iload_n 3, 1) := by decide +kernel
theorem dX2_corner_33 : decode cX2_corner 33 = .ok (.sipush 200, 3) := by decide +kernel
theorem dX2_corner_36 : decode cX2_corner 36 = .ok (.if_icmp .le 13, 3) := by decide +kernel
theorem dX2_corner_39 : decode cX2_corner 39 = .ok (.new 57, 3) := by decide +kernel
theorem dX2_corner_42 : decode cX2_corner 42 = .ok (.dup, 1) := by decide +kernel
theorem dX2_corner_43 : decode cX2_corner 43 = .ok (.ldc 62, 2) := by decide +kernel
theorem dX2_corner_45 : decode cX2_corner 45 = .ok (.invokespecial 61, 3) := by decide +kernel
theorem dX2_corner_48 : decode cX2_corner 48 = .ok (.athrow, 1) := by decide +kernel
theorem dX2_corner_49 : decode cX2_corner 49 = .ok (.aload 4, 2) := by decide +kernel
theorem dX2_corner_51 : decode cX2_corner 51 = .ok (.invokevirtual 64, 3) := by decide +kernel
theorem dX2_corner_54 : decode cX2_corner 54 = .ok (.ifCond .eq 13, 3) := by decide +kernel
theorem dX2_corner_57 : decode cX2_corner 57 = .ok (.new 45, 3) := by decide +kernel
theorem dX2_corner_60 : decode cX2_corner 60 = .ok (.dup, 1) := by decide +kernel
theorem dX2_corner_61 : decode cX2_corner 61 = .ok (.ldc 68, 2) := by decide +kernel
theorem dX2_corner_63 : decode cX2_corner 63 = .ok (.invokespecial 49, 3) := by decide +kernel
theorem dX2_corner_66 : decode cX2_corner 66 = .ok (.athrow, 1) := by decide +kernel
theorem dX2_corner_67 : decode cX2_corner 67 = .ok (.aload 4, 2) := by decide +kernel
theorem dX2_corner_69 : decode cX2_corner 69 = .ok (.iload_n 2, 1) := by decide +kernel
theorem dX2_corner_70 : decode cX2_corner 70 = .ok (.iload_n 3, 1) := by decide +kernel
theorem dX2_corner_71 : decode cX2_corner 71 = .ok (.invokevirtual 70, 3) := by decide +kernel
theorem dX2_corner_74 : decode cX2_corner 74 = .ok (.ireturn, 1) := by decide +kernel
theorem dX2_at_0 : decode cX2_at 0 = .ok (.aload_n 0, 1) := by decide +kernel
theorem dX2_at_1 : decode cX2_at 1 = .ok (.iload_n 1, 1) := by decide +kernel
theorem dX2_at_2 : decode cX2_at 2 = .ok (.invokevirtual 53, 3) := by decide +kernel
theorem dX2_at_5 : decode cX2_at 5 = .ok (.astore 4, 2) := by decide +kernel
theorem dX2_at_7 : decode cX2_at 7 = .ok (.iload_n 3, 1) := by decide +kernel
theorem dX2_at_8 : decode cX2_at 8 = .ok (.invokestatic 74, 3) := by decide +kernel
theorem dX2_at_11 : decode cX2_at 11 = .ok (.iload_n 2, 1) := by decide +kernel
theorem dX2_at_12 : decode cX2_at 12 = .ok (.iconst (-1), 1) := by decide +kernel
theorem dX2_at_13 : decode cX2_at 13 = .ok (.if_icmp .ne 9, 3) := by decide +kernel
theorem dX2_at_16 : decode cX2_at 16 = .ok (.aload 4, 2) := by decide +kernel
theorem dX2_at_18 : decode cX2_at 18 = .ok (.getfield 78, 3) := by decide +kernel
theorem dX2_at_21 : decode cX2_at 21 = .ok (.ireturn, 1) := by decide +kernel
theorem dX2_at_22 : decode cX2_at 22 = .ok (.iload_n 2, 1) := by decide +kernel
theorem dX2_at_23 : decode cX2_at 23 = .ok (.ifCond .lt 12, 3) := by decide +kernel
theorem dX2_at_26 : decode cX2_at 26 = .ok (.iload_n 2, 1) := by decide +kernel
theorem dX2_at_27 : decode cX2_at 27 = .ok (.aload 4, 2) := by decide +kernel
theorem dX2_at_29 : decode cX2_at 29 = .ok (.getfield 78, 3) := by decide +kernel
theorem dX2_at_32 : decode cX2_at 32 = .ok (.if_icmp .lt 13, 3) := by decide +kernel
theorem dX2_at_35 : decode cX2_at 35 = .ok (.new 81, 3) := by decide +kernel
theorem dX2_at_38 : decode cX2_at 38 = .ok (.dup, 1) := by decide +kernel
theorem dX2_at_39 : decode cX2_at 39 = .ok (.ldc 83, 2) := by decide +kernel
theorem dX2_at_41 : decode cX2_at 41 = .ok (.invokespecial 85, 3) := by decide +kernel
theorem dX2_at_44 : decode cX2_at 44 = .ok (.athrow, 1) := by decide +kernel
theorem dX2_at_45 : decode cX2_at 45 = .ok (.iload_n 3, 1) := by decide +kernel
theorem dX2_at_46 : decode cX2_at 46 = .ok (.ifCond .ne 13, 3) := by decide +kernel
theorem dX2_at_49 : decode cX2_at 49 = .ok (.aload 4, 2) := by decide +kernel
theorem dX2_at_51 : decode cX2_at 51 = .ok (.getfield 86, 3) := by decide +kernel
theorem dX2_at_54 : decode cX2_at 54 = .ok (.iload_n 2, 1) := by decide +kernel
theorem dX2_at_55 : decode cX2_at 55 = .ok (.iaload, 1) := by decide +kernel
theorem dX2_at_56 : decode cX2_at 56 = .ok (.goto 10, 3) := by decide +kernel
theorem dX2_at_59 : decode cX2_at 59 = .ok (.aload 4, 2) := by decide +kernel
theorem dX2_at_61 : decode cX2_at 61 = .ok (.getfield 89, 3) := by decide +kernel
theorem dX2_at_64 : decode cX2_at 64 = .ok (.iload_n 2, 1) := by decide +kernel
theorem dX2_at_65 : decode cX2_at 65 = .ok (.iaload, 1) := by decide +kernel
theorem dX2_at_66 : decode cX2_at 66 = .ok (.ireturn, 1) := by decide +kernel
theorem dX2_radius_0 : decode cX2_radius 0 = .ok (.aload_n 0, 1) := by decide +kernel
theorem dX2_radius_1 : decode cX2_radius 1 = .ok (.iload_n 1, 1) := by decide +kernel
theorem dX2_radius_2 : decode cX2_radius 2 = .ok (.invokevirtual 53, 3) := by decide +kernel
theorem dX2_radius_5 : decode cX2_radius 5 = .ok (.iload_n 2, 1) := by decide +kernel
theorem dX2_radius_6 : decode cX2_radius 6 = .ok (.invokevirtual 92, 3) := by decide +kernel
theorem dX2_radius_9 : decode cX2_radius 9 = .ok (.ireturn, 1) := by decide +kernel
theorem dX2_volume_0 : decode cX2_volume 0 = .ok (.aload_n 0, 1) := by decide +kernel
theorem dX2_volume_1 : decode cX2_volume 1 = .ok (.iload_n 1, 1) := by decide +kernel
theorem dX2_volume_2 : decode cX2_volume 2 = .ok (.invokevirtual 53, 3) := by decide +kernel
theorem dX2_volume_5 : decode cX2_volume 5 = .ok (.astore 4, 2) := by decide +kernel
theorem dX2_volume_7 : decode cX2_volume 7 = .ok (.iload_n 3, 1) := by decide +kernel
theorem dX2_volume_8 : decode cX2_volume 8 = .ok (.invokestatic 74, 3) := by decide +kernel
theorem dX2_volume_11 : decode cX2_volume 11 = .ok (.aload 4, 2) := by decide +kernel
theorem dX2_volume_13 : decode cX2_volume 13 = .ok (.aload_n 0, 1) := by decide +kernel
theorem dX2_volume_14 : decode cX2_volume 14 = .ok (.getfield 37, 3) := by decide +kernel
theorem dX2_volume_17 : decode cX2_volume 17 = .ok (.iload_n 2, 1) := by decide +kernel
theorem dX2_volume_18 : decode cX2_volume 18 = .ok (.invokevirtual 96, 3) := by decide +kernel
theorem dX2_volume_21 : decode cX2_volume 21 = .ok (.aload_n 0, 1) := by decide +kernel
theorem dX2_volume_22 : decode cX2_volume 22 = .ok (.getfield 37, 3) := by decide +kernel
theorem dX2_volume_25 : decode cX2_volume 25 = .ok (.iload_n 3, 1) := by decide +kernel
theorem dX2_volume_26 : decode cX2_volume 26 = .ok (.invokevirtual 100, 3) := by decide +kernel
theorem dX2_volume_29 : decode cX2_volume 29 = .ok (.lreturn, 1) := by decide +kernel
theorem dX2_holds_0 : decode cX2_holds 0 = .ok (.aload_n 0, 1) := by decide +kernel
theorem dX2_holds_1 : decode cX2_holds 1 = .ok (.iload_n 1, 1) := by decide +kernel
theorem dX2_holds_2 : decode cX2_holds 2 = .ok (.invokevirtual 53, 3) := by decide +kernel
theorem dX2_holds_5 : decode cX2_holds 5 = .ok (.astore 4, 2) := by decide +kernel
theorem dX2_holds_7 : decode cX2_holds 7 = .ok (.iload_n 3, 1) := by decide +kernel
theorem dX2_holds_8 : decode cX2_holds 8 = .ok (.invokestatic 74, 3) := by decide +kernel
theorem dX2_holds_11 : decode cX2_holds 11 = .ok (.aload 4, 2) := by decide +kernel
theorem dX2_holds_13 : decode cX2_holds 13 = .ok (.aload_n 0, 1) := by decide +kernel
theorem dX2_holds_14 : decode cX2_holds 14 = .ok (.getfield 37, 3) := by decide +kernel
theorem dX2_holds_17 : decode cX2_holds 17 = .ok (.iload_n 2, 1) := by decide +kernel
theorem dX2_holds_18 : decode cX2_holds 18 = .ok (.invokevirtual 104, 3) := by decide +kernel
theorem dX2_holds_21 : decode cX2_holds 21 = .ok (.aload_n 0, 1) := by decide +kernel
theorem dX2_holds_22 : decode cX2_holds 22 = .ok (.getfield 37, 3) := by decide +kernel
theorem dX2_holds_25 : decode cX2_holds 25 = .ok (.iload_n 3, 1) := by decide +kernel
theorem dX2_holds_26 : decode cX2_holds 26 = .ok (.invokevirtual 100, 3) := by decide +kernel
theorem dX2_holds_29 : decode cX2_holds 29 = .ok (.lreturn, 1) := by decide +kernel
theorem dX2_enclosed_0 : decode cX2_enclosed 0 = .ok (.aload_n 0, 1) := by decide +kernel
theorem dX2_enclosed_1 : decode cX2_enclosed 1 = .ok (.iload_n 1, 1) := by decide +kernel
theorem dX2_enclosed_2 : decode cX2_enclosed 2 = .ok (.invokevirtual 53, 3) := by decide +kernel
theorem dX2_enclosed_5 : decode cX2_enclosed 5 = .ok (.astore_n 3, 1) := by decide +kernel
theorem dX2_enclosed_6 : decode cX2_enclosed 6 = .ok (.iload_n 2, 1) := by decide +kernel
theorem dX2_enclosed_7 : decode cX2_enclosed 7 = .ok (.invokestatic 74, 3) := by decide +kernel
theorem dX2_enclosed_10 : decode cX2_enclosed 10 = .ok (.aload_n 3, 1) := by decide +kernel
theorem dX2_enclosed_11 : decode cX2_enclosed 11 = .ok (.aload_n 0, 1) := by decide +kernel
theorem dX2_enclosed_12 : decode cX2_enclosed 12 = .ok (.getfield 37, 3) := by decide +kernel
theorem dX2_enclosed_15 : decode cX2_enclosed 15 = .ok (.sipush 400, 3) := by decide +kernel
theorem dX2_enclosed_18 : decode cX2_enclosed 18 = .ok (.invokevirtual 104, 3) := by decide +kernel
theorem dX2_enclosed_21 : decode cX2_enclosed 21 = .ok (.iload_n 2, 1) := by decide +kernel
theorem dX2_enclosed_22 : decode cX2_enclosed 22 = .ok (.ifCond .ne 13, 3) := by decide +kernel
theorem dX2_enclosed_25 : decode cX2_enclosed 25 = .ok (.aload_n 0, 1) := by decide +kernel
theorem dX2_enclosed_26 : decode cX2_enclosed 26 = .ok (.getfield 37, 3) := by decide +kernel
theorem dX2_enclosed_29 : decode cX2_enclosed 29 = .ok (.invokevirtual 107, 3) := by decide +kernel
theorem dX2_enclosed_32 : decode cX2_enclosed 32 = .ok (.goto 10, 3) := by decide +kernel
theorem dX2_enclosed_35 : decode cX2_enclosed 35 = .ok (.aload_n 0, 1) := by decide +kernel
theorem dX2_enclosed_36 : decode cX2_enclosed 36 = .ok (.getfield 37, 3) := by decide +kernel
theorem dX2_enclosed_39 : decode cX2_enclosed 39 = .ok (.invokevirtual 111, 3) := by decide +kernel
theorem dX2_enclosed_42 : decode cX2_enclosed 42 = .ok (.lreturn, 1) := by decide +kernel
theorem dX2_wall_0 : decode cX2_wall 0 = .ok (.aload_n 0, 1) := by decide +kernel
theorem dX2_wall_1 : decode cX2_wall 1 = .ok (.iload_n 1, 1) := by decide +kernel
theorem dX2_wall_2 : decode cX2_wall 2 = .ok (.invokevirtual 53, 3) := by decide +kernel
theorem dX2_wall_5 : decode cX2_wall 5 = .ok (.astore_n 3, 1) := by decide +kernel
theorem dX2_wall_6 : decode cX2_wall 6 = .ok (.iload_n 2, 1) := by decide +kernel
theorem dX2_wall_7 : decode cX2_wall 7 = .ok (.ifCond .lt 9, 3) := by decide +kernel
theorem dX2_wall_10 : decode cX2_wall 10 = .ok (.iload_n 2, 1) := by decide +kernel
theorem dX2_wall_11 : decode cX2_wall 11 = .ok (.bipush 50, 2) := by decide +kernel
theorem dX2_wall_13 : decode cX2_wall 13 = .ok (.if_icmp .le 13, 3) := by decide +kernel
theorem dX2_wall_16 : decode cX2_wall 16 = .ok (.new 57, 3) := by decide +kernel
theorem dX2_wall_19 : decode cX2_wall 19 = .ok (.dup, 1) := by decide +kernel
theorem dX2_wall_20 : decode cX2_wall 20 = .ok (.ldc 114, 2) := by decide +kernel
theorem dX2_wall_22 : decode cX2_wall 22 = .ok (.invokespecial 61, 3) := by decide +kernel
theorem dX2_wall_25 : decode cX2_wall 25 = .ok (.athrow, 1) := by decide +kernel
theorem dX2_wall_26 : decode cX2_wall 26 = .ok (.aload_n 3, 1) := by decide +kernel
theorem dX2_wall_27 : decode cX2_wall 27 = .ok (.getfield 116, 3) := by decide +kernel
theorem dX2_wall_30 : decode cX2_wall 30 = .ok (.istore 4, 2) := by decide +kernel
theorem dX2_wall_32 : decode cX2_wall 32 = .ok (.aload_n 3, 1) := by decide +kernel
theorem dX2_wall_33 : decode cX2_wall 33 = .ok (.iload_n 2, 1) := by decide +kernel
theorem dX2_wall_34 : decode cX2_wall 34 = .ok (.putfield 116, 3) := by decide +kernel
theorem dX2_wall_37 : decode cX2_wall 37 = .ok (.iload 4, 2) := by decide +kernel
theorem dX2_wall_39 : decode cX2_wall 39 = .ok (.ireturn, 1) := by decide +kernel
theorem dX2_unlike_0 : decode cX2_unlike 0 = .ok (.aload_n 0, 1) := by decide +kernel
theorem dX2_unlike_1 : decode cX2_unlike 1 = .ok (.iload_n 1, 1) := by decide +kernel
theorem dX2_unlike_2 : decode cX2_unlike 2 = .ok (.invokevirtual 53, 3) := by decide +kernel
theorem dX2_unlike_5 : decode cX2_unlike 5 = .ok (.astore_n 3, 1) := by decide +kernel
theorem dX2_unlike_6 : decode cX2_unlike 6 = .ok (.aload_n 0, 1) := by decide +kernel
theorem dX2_unlike_7 : decode cX2_unlike 7 = .ok (.iload_n 2, 1) := by decide +kernel
theorem dX2_unlike_8 : decode cX2_unlike 8 = .ok (.invokevirtual 53, 3) := by decide +kernel
theorem dX2_unlike_11 : decode cX2_unlike 11 = .ok (.astore 4, 2) := by decide +kernel
theorem dX2_unlike_13 : decode cX2_unlike 13 = .ok (.iconst 0, 1) := by decide +kernel
theorem dX2_unlike_14 : decode cX2_unlike 14 = .ok (.istore 5, 2) := by decide +kernel
theorem dX2_unlike_16 : decode cX2_unlike 16 = .ok (.iconst 0, 1) := by decide +kernel
theorem dX2_unlike_17 : decode cX2_unlike 17 = .ok (.istore 6, 2) := by decide +kernel
theorem dX2_unlike_19 : decode cX2_unlike 19 = .ok (.iload 6, 2) := by decide +kernel
theorem dX2_unlike_21 : decode cX2_unlike 21 = .ok (.sipush 400, 3) := by decide +kernel
theorem dX2_unlike_24 : decode cX2_unlike 24 = .ok (.if_icmp .gt 35, 3) := by decide +kernel
theorem dX2_unlike_27 : decode cX2_unlike 27 = .ok (.aload_n 3, 1) := by decide +kernel
theorem dX2_unlike_28 : decode cX2_unlike 28 = .ok (.iload 6, 2) := by decide +kernel
theorem dX2_unlike_30 : decode cX2_unlike 30 = .ok (.invokevirtual 119, 3) := by decide +kernel
theorem dX2_unlike_33 : decode cX2_unlike 33 = .ok (.aload 4, 2) := by decide +kernel
theorem dX2_unlike_35 : decode cX2_unlike 35 = .ok (.iload 6, 2) := by decide +kernel
theorem dX2_unlike_37 : decode cX2_unlike 37 = .ok (.invokevirtual 119, 3) := by decide +kernel
theorem dX2_unlike_40 : decode cX2_unlike 40 = .ok (.isub, 1) := by decide +kernel
theorem dX2_unlike_41 : decode cX2_unlike 41 = .ok (.istore 7, 2) := by decide +kernel
theorem dX2_unlike_43 : decode cX2_unlike 43 = .ok (.iload 5, 2) := by decide +kernel
theorem dX2_unlike_45 : decode cX2_unlike 45 = .ok (.iload 7, 2) := by decide +kernel
theorem dX2_unlike_47 : decode cX2_unlike 47 = .ok (.invokestatic 122, 3) := by decide +kernel
theorem dX2_unlike_50 : decode cX2_unlike 50 = .ok (.iadd, 1) := by decide +kernel
theorem dX2_unlike_51 : decode cX2_unlike 51 = .ok (.istore 5, 2) := by decide +kernel
theorem dX2_unlike_53 : decode cX2_unlike 53 = .ok (.iinc 6 1, 3) := by decide +kernel
theorem dX2_unlike_56 : decode cX2_unlike 56 = .ok (.goto (-37), 3) := by decide +kernel
theorem dX2_unlike_59 : decode cX2_unlike 59 = .ok (.iload 5, 2) := by decide +kernel
theorem dX2_unlike_61 : decode cX2_unlike 61 = .ok (.ireturn, 1) := by decide +kernel
theorem dX2_cut_0 : decode cX2_cut 0 = .ok (.aload_n 0, 1) := by decide +kernel
theorem dX2_cut_1 : decode cX2_cut 1 = .ok (.iload_n 1, 1) := by decide +kernel
theorem dX2_cut_2 : decode cX2_cut 2 = .ok (.invokevirtual 53, 3) := by decide +kernel
theorem dX2_cut_5 : decode cX2_cut 5 = .ok (.iload_n 2, 1) := by decide +kernel
theorem dX2_cut_6 : decode cX2_cut 6 = .ok (.invokevirtual 127, 3) := by decide +kernel
theorem dX2_cut_9 : decode cX2_cut 9 = .ok (.ireturn, 1) := by decide +kernel
theorem dX2_drawn_0 : decode cX2_drawn 0 = .ok (.aload_n 0, 1) := by decide +kernel
theorem dX2_drawn_1 : decode cX2_drawn 1 = .ok (.iload_n 1, 1) := by decide +kernel
theorem dX2_drawn_2 : decode cX2_drawn 2 = .ok (.invokevirtual 53, 3) := by decide +kernel
theorem dX2_drawn_5 : decode cX2_drawn 5 = .ok (.astore 4, 2) := by decide +kernel
theorem dX2_drawn_7 : decode cX2_drawn 7 = .ok (.iload_n 3, 1) := by decide +kernel
theorem dX2_drawn_8 : decode cX2_drawn 8 = .ok (.invokestatic 74, 3) := by decide +kernel
theorem dX2_drawn_11 : decode cX2_drawn 11 = .ok (.iload_n 2, 1) := by decide +kernel
theorem dX2_drawn_12 : decode cX2_drawn 12 = .ok (.iconst (-1), 1) := by decide +kernel
theorem dX2_drawn_13 : decode cX2_drawn 13 = .ok (.if_icmp .ne 15, 3) := by decide +kernel
theorem dX2_drawn_16 : decode cX2_drawn 16 = .ok (.aload 4, 2) := by decide +kernel
theorem dX2_drawn_18 : decode cX2_drawn 18 = .ok (.getfield 78, 3) := by decide +kernel
theorem dX2_drawn_21 : decode cX2_drawn 21 = .ok (.aload 4, 2) := by decide +kernel
theorem dX2_drawn_23 : decode cX2_drawn 23 = .ok (.invokevirtual 131, 3) := by decide +kernel
theorem dX2_drawn_26 : decode cX2_drawn 26 = .ok (.iadd, 1) := by decide +kernel
theorem dX2_drawn_27 : decode cX2_drawn 27 = .ok (.ireturn, 1) := by decide +kernel
theorem dX2_drawn_28 : decode cX2_drawn 28 = .ok (.iload_n 2, 1) := by decide +kernel
theorem dX2_drawn_29 : decode cX2_drawn 29 = .ok (.ifCond .ge 13, 3) := by decide +kernel
theorem dX2_drawn_32 : decode cX2_drawn 32 = .ok (.new 81, 3) := by decide +kernel
theorem dX2_drawn_35 : decode cX2_drawn 35 = .ok (.dup, 1) := by decide +kernel
theorem dX2_drawn_36 : decode cX2_drawn 36 = .ok (.ldc 135, 2) := by decide +kernel
theorem dX2_drawn_38 : decode cX2_drawn 38 = .ok (.invokespecial 85, 3) := by decide +kernel
theorem dX2_drawn_41 : decode cX2_drawn 41 = .ok (.athrow, 1) := by decide +kernel
theorem dX2_drawn_42 : decode cX2_drawn 42 = .ok (.iload_n 2, 1) := by decide +kernel
theorem dX2_drawn_43 : decode cX2_drawn 43 = .ok (.aload 4, 2) := by decide +kernel
theorem dX2_drawn_45 : decode cX2_drawn 45 = .ok (.getfield 78, 3) := by decide +kernel
theorem dX2_drawn_48 : decode cX2_drawn 48 = .ok (.if_icmp .ge 7, 3) := by decide +kernel
theorem dX2_drawn_51 : decode cX2_drawn 51 = .ok (.iconst 1, 1) := by decide +kernel
theorem dX2_drawn_52 : decode cX2_drawn 52 = .ok (.goto 4, 3) := by decide +kernel
theorem dX2_drawn_55 : decode cX2_drawn 55 = .ok (.iconst 0, 1) := by decide +kernel
theorem dX2_drawn_56 : decode cX2_drawn 56 = .ok (.istore 5, 2) := by decide +kernel
theorem dX2_drawn_58 : decode cX2_drawn 58 = .ok (.iload 5, 2) := by decide +kernel
theorem dX2_drawn_60 : decode cX2_drawn 60 = .ok (.ifCond .eq 15, 3) := by decide +kernel
theorem dX2_drawn_63 : decode cX2_drawn 63 = .ok (.aload 4, 2) := by decide +kernel
theorem dX2_drawn_65 : decode cX2_drawn 65 = .ok (.getfield 78, 3) := by decide +kernel
theorem dX2_drawn_68 : decode cX2_drawn 68 = .ok (.iconst 1, 1) := by decide +kernel
theorem dX2_drawn_69 : decode cX2_drawn 69 = .ok (.isub, 1) := by decide +kernel
theorem dX2_drawn_70 : decode cX2_drawn 70 = .ok (.iload_n 2, 1) := by decide +kernel
theorem dX2_drawn_71 : decode cX2_drawn 71 = .ok (.isub, 1) := by decide +kernel
theorem dX2_drawn_72 : decode cX2_drawn 72 = .ok (.goto 15, 3) := by decide +kernel
theorem dX2_drawn_75 : decode cX2_drawn 75 = .ok (.aload 4, 2) := by decide +kernel
theorem dX2_drawn_77 : decode cX2_drawn 77 = .ok (.iload_n 2, 1) := by decide +kernel
theorem dX2_drawn_78 : decode cX2_drawn 78 = .ok (.aload 4, 2) := by decide +kernel
theorem dX2_drawn_80 : decode cX2_drawn 80 = .ok (.getfield 78, 3) := by decide +kernel
theorem dX2_drawn_83 : decode cX2_drawn 83 = .ok (.isub, 1) := by decide +kernel
theorem dX2_drawn_84 : decode cX2_drawn 84 = .ok (.invokevirtual 137, 3) := by decide +kernel
theorem dX2_drawn_87 : decode cX2_drawn 87 = .ok (.istore 6, 2) := by decide +kernel
theorem dX2_drawn_89 : decode cX2_drawn 89 = .ok (.iload 6, 2) := by decide +kernel
theorem dX2_drawn_91 : decode cX2_drawn 91 = .ok (.ifCond .lt 13, 3) := by decide +kernel
theorem dX2_drawn_94 : decode cX2_drawn 94 = .ok (.iload 6, 2) := by decide +kernel
theorem dX2_drawn_96 : decode cX2_drawn 96 = .ok (.aload 4, 2) := by decide +kernel
theorem dX2_drawn_98 : decode cX2_drawn 98 = .ok (.getfield 78, 3) := by decide +kernel
theorem dX2_drawn_101 : decode cX2_drawn 101 = .ok (.if_icmp .lt 13, 3) := by decide +kernel
theorem dX2_drawn_104 : decode cX2_drawn 104 = .ok (.new 81, 3) := by decide +kernel
theorem dX2_drawn_107 : decode cX2_drawn 107 = .ok (.dup, 1) := by decide +kernel
theorem dX2_drawn_108 : decode cX2_drawn 108 = .ok (.ldc 135, 2) := by decide +kernel
theorem dX2_drawn_110 : decode cX2_drawn 110 = .ok (.invokespecial 85, 3) := by decide +kernel
theorem dX2_drawn_113 : decode cX2_drawn 113 = .ok (.athrow, 1) := by decide +kernel
theorem dX2_drawn_114 : decode cX2_drawn 114 = .ok (.iload_n 3, 1) := by decide +kernel
theorem dX2_drawn_115 : decode cX2_drawn 115 = .ok (.iconst 1, 1) := by decide +kernel
theorem dX2_drawn_116 : decode cX2_drawn 116 = .ok (.if_icmp .ne 12, 3) := by decide +kernel
theorem dX2_drawn_119 : decode cX2_drawn 119 = .ok (.aload 4, 2) := by decide +kernel
theorem dX2_drawn_121 : decode cX2_drawn 121 = .ok (.getfield 86, 3) := by decide +kernel
theorem dX2_drawn_124 : decode cX2_drawn 124 = .ok (.iload 6, 2) := by decide +kernel
theorem dX2_drawn_126 : decode cX2_drawn 126 = .ok (.iaload, 1) := by decide +kernel
theorem dX2_drawn_127 : decode cX2_drawn 127 = .ok (.ireturn, 1) := by decide +kernel
theorem dX2_drawn_128 : decode cX2_drawn 128 = .ok (.iload 5, 2) := by decide +kernel
theorem dX2_drawn_130 : decode cX2_drawn 130 = .ok (.ifCond .eq 15, 3) := by decide +kernel
theorem dX2_drawn_133 : decode cX2_drawn 133 = .ok (.aload 4, 2) := by decide +kernel
theorem dX2_drawn_135 : decode cX2_drawn 135 = .ok (.getfield 89, 3) := by decide +kernel
theorem dX2_drawn_138 : decode cX2_drawn 138 = .ok (.iload 6, 2) := by decide +kernel
theorem dX2_drawn_140 : decode cX2_drawn 140 = .ok (.iaload, 1) := by decide +kernel
theorem dX2_drawn_141 : decode cX2_drawn 141 = .ok (.ineg, 1) := by decide +kernel
theorem dX2_drawn_142 : decode cX2_drawn 142 = .ok (.goto 11, 3) := by decide +kernel
theorem dX2_drawn_145 : decode cX2_drawn 145 = .ok (.aload 4, 2) := by decide +kernel
theorem dX2_drawn_147 : decode cX2_drawn 147 = .ok (.getfield 89, 3) := by decide +kernel
theorem dX2_drawn_150 : decode cX2_drawn 150 = .ok (.iload 6, 2) := by decide +kernel
theorem dX2_drawn_152 : decode cX2_drawn 152 = .ok (.iaload, 1) := by decide +kernel
theorem dX2_drawn_153 : decode cX2_drawn 153 = .ok (.ireturn, 1) := by decide +kernel
theorem dX2_bound_0 : decode cX2_bound 0 = .ok (.iload_n 1, 1) := by decide +kernel
theorem dX2_bound_1 : decode cX2_bound 1 = .ok (.ifCond .lt 9, 3) := by decide +kernel
theorem dX2_bound_4 : decode cX2_bound 4 = .ok (.iload_n 1, 1) := by decide +kernel
theorem dX2_bound_5 : decode cX2_bound 5 = .ok (.ldc 140, 2) := by decide +kernel
theorem dX2_bound_7 : decode cX2_bound 7 = .ok (.if_icmp .le 13, 3) := by decide +kernel
theorem dX2_bound_10 : decode cX2_bound 10 = .ok (.new 57, 3) := by decide +kernel
theorem dX2_bound_13 : decode cX2_bound 13 = .ok (.dup, 1) := by decide +kernel
theorem dX2_bound_14 : decode cX2_bound 14 = .ok (.ldc 141, 2) := by decide +kernel
theorem dX2_bound_16 : decode cX2_bound 16 = .ok (.invokespecial 61, 3) := by decide +kernel
theorem dX2_bound_19 : decode cX2_bound 19 = .ok (.athrow, 1) := by decide +kernel
theorem dX2_bound_20 : decode cX2_bound 20 = .ok (.aload_n 0, 1) := by decide +kernel
theorem dX2_bound_21 : decode cX2_bound 21 = .ok (.getfield 143, 3) := by decide +kernel
theorem dX2_bound_24 : decode cX2_bound 24 = .ok (.bipush 10, 2) := by decide +kernel
theorem dX2_bound_26 : decode cX2_bound 26 = .ok (.if_icmp .lt 13, 3) := by decide +kernel
theorem dX2_bound_29 : decode cX2_bound 29 = .ok (.new 45, 3) := by decide +kernel
theorem dX2_bound_32 : decode cX2_bound 32 = .ok (.dup, 1) := by decide +kernel
theorem dX2_bound_33 : decode cX2_bound 33 = .ok (.ldc 146, 2) := by decide +kernel
theorem dX2_bound_35 : decode cX2_bound 35 = .ok (.invokespecial 49, 3) := by decide +kernel
theorem dX2_bound_38 : decode cX2_bound 38 = .ok (.athrow, 1) := by decide +kernel
theorem dX2_bound_39 : decode cX2_bound 39 = .ok (.aload_n 0, 1) := by decide +kernel
theorem dX2_bound_40 : decode cX2_bound 40 = .ok (.getfield 15, 3) := by decide +kernel
theorem dX2_bound_43 : decode cX2_bound 43 = .ok (.aload_n 0, 1) := by decide +kernel
theorem dX2_bound_44 : decode cX2_bound 44 = .ok (.getfield 143, 3) := by decide +kernel
theorem dX2_bound_47 : decode cX2_bound 47 = .ok (.iload_n 1, 1) := by decide +kernel
theorem dX2_bound_48 : decode cX2_bound 48 = .ok (.iastore, 1) := by decide +kernel
theorem dX2_bound_49 : decode cX2_bound 49 = .ok (.aload_n 0, 1) := by decide +kernel
theorem dX2_bound_50 : decode cX2_bound 50 = .ok (.dup, 1) := by decide +kernel
theorem dX2_bound_51 : decode cX2_bound 51 = .ok (.getfield 143, 3) := by decide +kernel
theorem dX2_bound_54 : decode cX2_bound 54 = .ok (.iconst 1, 1) := by decide +kernel
theorem dX2_bound_55 : decode cX2_bound 55 = .ok (.iadd, 1) := by decide +kernel
theorem dX2_bound_56 : decode cX2_bound 56 = .ok (.putfield 143, 3) := by decide +kernel
theorem dX2_bound_59 : decode cX2_bound 59 = .ok (.aload_n 0, 1) := by decide +kernel
theorem dX2_bound_60 : decode cX2_bound 60 = .ok (.getfield 143, 3) := by decide +kernel
theorem dX2_bound_63 : decode cX2_bound 63 = .ok (.ireturn, 1) := by decide +kernel
theorem dX2_size_0 : decode cX2_size 0 = .ok (.aload_n 0, 1) := by decide +kernel
theorem dX2_size_1 : decode cX2_size 1 = .ok (.iload_n 1, 1) := by decide +kernel
theorem dX2_size_2 : decode cX2_size 2 = .ok (.invokevirtual 53, 3) := by decide +kernel
theorem dX2_size_5 : decode cX2_size 5 = .ok (.aload_n 0, 1) := by decide +kernel
theorem dX2_size_6 : decode cX2_size 6 = .ok (.getfield 37, 3) := by decide +kernel
theorem dX2_size_9 : decode cX2_size 9 = .ok (.sipush 400, 3) := by decide +kernel
theorem dX2_size_12 : decode cX2_size 12 = .ok (.invokevirtual 104, 3) := by decide +kernel
theorem dX2_size_15 : decode cX2_size 15 = .ok (.aload_n 0, 1) := by decide +kernel
theorem dX2_size_16 : decode cX2_size 16 = .ok (.getfield 37, 3) := by decide +kernel
theorem dX2_size_19 : decode cX2_size 19 = .ok (.invokevirtual 107, 3) := by decide +kernel
theorem dX2_size_22 : decode cX2_size 22 = .ok (.lstore_n 2, 1) := by decide +kernel
theorem dX2_size_23 : decode cX2_size 23 = .ok (.iconst 0, 1) := by decide +kernel
theorem dX2_size_24 : decode cX2_size 24 = .ok (.istore 4, 2) := by decide +kernel
theorem dX2_size_26 : decode cX2_size 26 = .ok (.iconst 0, 1) := by decide +kernel
theorem dX2_size_27 : decode cX2_size 27 = .ok (.istore 5, 2) := by decide +kernel
theorem dX2_size_29 : decode cX2_size 29 = .ok (.iload 5, 2) := by decide +kernel
theorem dX2_size_31 : decode cX2_size 31 = .ok (.aload_n 0, 1) := by decide +kernel
theorem dX2_size_32 : decode cX2_size 32 = .ok (.getfield 143, 3) := by decide +kernel
theorem dX2_size_35 : decode cX2_size 35 = .ok (.if_icmp .ge 25, 3) := by decide +kernel
theorem dX2_size_38 : decode cX2_size 38 = .ok (.aload_n 0, 1) := by decide +kernel
theorem dX2_size_39 : decode cX2_size 39 = .ok (.getfield 15, 3) := by decide +kernel
theorem dX2_size_42 : decode cX2_size 42 = .ok (.iload 5, 2) := by decide +kernel
theorem dX2_size_44 : decode cX2_size 44 = .ok (.iaload, 1) := by decide +kernel
theorem dX2_size_45 : decode cX2_size 45 = .ok (.i2l, 1) := by decide +kernel
theorem dX2_size_46 : decode cX2_size 46 = .ok (.lload_n 2, 1) := by decide +kernel
theorem dX2_size_47 : decode cX2_size 47 = .ok (.lcmp, 1) := by decide +kernel
theorem dX2_size_48 : decode cX2_size 48 = .ok (.ifCond .gt 6, 3) := by decide +kernel
theorem dX2_size_51 : decode cX2_size 51 = .ok (.iinc 4 1, 3) := by decide +kernel
theorem dX2_size_54 : decode cX2_size 54 = .ok (.iinc 5 1, 3) := by decide +kernel
theorem dX2_size_57 : decode cX2_size 57 = .ok (.goto (-28), 3) := by decide +kernel
theorem dX2_size_60 : decode cX2_size 60 = .ok (.iload 4, 2) := by decide +kernel
theorem dX2_size_62 : decode cX2_size 62 = .ok (.ireturn, 1) := by decide +kernel
theorem dX2_rim_0 : decode cX2_rim 0 = .ok (.iload_n 1, 1) := by decide +kernel
theorem dX2_rim_1 : decode cX2_rim 1 = .ok (.sipush (-200), 3) := by decide +kernel
theorem dX2_rim_4 : decode cX2_rim 4 = .ok (.if_icmp .lt 24, 3) := by decide +kernel
theorem dX2_rim_7 : decode cX2_rim 7 = .ok (.iload_n 1, 1) := by decide +kernel
theorem dX2_rim_8 : decode cX2_rim 8 = .ok (.sipush 200, 3) := by decide +kernel
theorem dX2_rim_11 : decode cX2_rim 11 = .ok (.if_icmp .gt 17, 3) := by decide +kernel
theorem dX2_rim_14 : decode cX2_rim 14 = .ok (.iload_n 2, 1) := by decide +kernel
theorem dX2_rim_15 : decode cX2_rim 15 = .ok (.sipush (-200), 3) := by decide +kernel
theorem dX2_rim_18 : decode cX2_rim 18 = .ok (.if_icmp .lt 10, 3) := by decide +kernel
theorem dX2_rim_21 : decode cX2_rim 21 = .ok (.iload_n 2, 1) := by decide +kernel
theorem dX2_rim_22 : decode cX2_rim 22 = .ok (.sipush 200, 3) := by decide +kernel
theorem dX2_rim_25 : decode cX2_rim 25 = .ok (.if_icmp .le 13, 3) := by decide +kernel
theorem dX2_rim_28 : decode cX2_rim 28 = .ok (.new 57, 3) := by decide +kernel
theorem dX2_rim_31 : decode cX2_rim 31 = .ok (.dup, 1) := by decide +kernel
theorem dX2_rim_32 : decode cX2_rim 32 = .ok (.ldc 148, 2) := by decide +kernel
theorem dX2_rim_34 : decode cX2_rim 34 = .ok (.invokespecial 61, 3) := by decide +kernel
theorem dX2_rim_37 : decode cX2_rim 37 = .ok (.athrow, 1) := by decide +kernel
theorem dX2_rim_38 : decode cX2_rim 38 = .ok (.aload_n 0, 1) := by decide +kernel
theorem dX2_rim_39 : decode cX2_rim 39 = .ok (.getfield 150, 3) := by decide +kernel
theorem dX2_rim_42 : decode cX2_rim 42 = .ok (.bipush 20, 2) := by decide +kernel
theorem dX2_rim_44 : decode cX2_rim 44 = .ok (.if_icmp .lt 13, 3) := by decide +kernel
theorem dX2_rim_47 : decode cX2_rim 47 = .ok (.new 45, 3) := by decide +kernel
theorem dX2_rim_50 : decode cX2_rim 50 = .ok (.dup, 1) := by decide +kernel
theorem dX2_rim_51 : decode cX2_rim 51 = .ok (.ldc 153, 2) := by decide +kernel
theorem dX2_rim_53 : decode cX2_rim 53 = .ok (.invokespecial 49, 3) := by decide +kernel
theorem dX2_rim_56 : decode cX2_rim 56 = .ok (.athrow, 1) := by decide +kernel
theorem dX2_rim_57 : decode cX2_rim 57 = .ok (.aload_n 0, 1) := by decide +kernel
theorem dX2_rim_58 : decode cX2_rim 58 = .ok (.getfield 19, 3) := by decide +kernel
theorem dX2_rim_61 : decode cX2_rim 61 = .ok (.aload_n 0, 1) := by decide +kernel
theorem dX2_rim_62 : decode cX2_rim 62 = .ok (.getfield 150, 3) := by decide +kernel
theorem dX2_rim_65 : decode cX2_rim 65 = .ok (.iload_n 1, 1) := by decide +kernel
theorem dX2_rim_66 : decode cX2_rim 66 = .ok (.iastore, 1) := by decide +kernel
theorem dX2_rim_67 : decode cX2_rim 67 = .ok (.aload_n 0, 1) := by decide +kernel
theorem dX2_rim_68 : decode cX2_rim 68 = .ok (.getfield 22, 3) := by decide +kernel
theorem dX2_rim_71 : decode cX2_rim 71 = .ok (.aload_n 0, 1) := by decide +kernel
theorem dX2_rim_72 : decode cX2_rim 72 = .ok (.getfield 150, 3) := by decide +kernel
theorem dX2_rim_75 : decode cX2_rim 75 = .ok (.iload_n 2, 1) := by decide +kernel
theorem dX2_rim_76 : decode cX2_rim 76 = .ok (.iastore, 1) := by decide +kernel
theorem dX2_rim_77 : decode cX2_rim 77 = .ok (.aload_n 0, 1) := by decide +kernel
theorem dX2_rim_78 : decode cX2_rim 78 = .ok (.dup, 1) := by decide +kernel
theorem dX2_rim_79 : decode cX2_rim 79 = .ok (.getfield 150, 3) := by decide +kernel
theorem dX2_rim_82 : decode cX2_rim 82 = .ok (.iconst 1, 1) := by decide +kernel
theorem dX2_rim_83 : decode cX2_rim 83 = .ok (.iadd, 1) := by decide +kernel
theorem dX2_rim_84 : decode cX2_rim 84 = .ok (.putfield 150, 3) := by decide +kernel
theorem dX2_rim_87 : decode cX2_rim 87 = .ok (.aload_n 0, 1) := by decide +kernel
theorem dX2_rim_88 : decode cX2_rim 88 = .ok (.getfield 150, 3) := by decide +kernel
theorem dX2_rim_91 : decode cX2_rim 91 = .ok (.ireturn, 1) := by decide +kernel
theorem dX2_clear_0 : decode cX2_clear 0 = .ok (.aload_n 0, 1) := by decide +kernel
theorem dX2_clear_1 : decode cX2_clear 1 = .ok (.getfield 150, 3) := by decide +kernel
theorem dX2_clear_4 : decode cX2_clear 4 = .ok (.istore_n 1, 1) := by decide +kernel
theorem dX2_clear_5 : decode cX2_clear 5 = .ok (.aload_n 0, 1) := by decide +kernel
theorem dX2_clear_6 : decode cX2_clear 6 = .ok (.iconst 0, 1) := by decide +kernel
theorem dX2_clear_7 : decode cX2_clear 7 = .ok (.putfield 150, 3) := by decide +kernel
theorem dX2_clear_10 : decode cX2_clear 10 = .ok (.iload_n 1, 1) := by decide +kernel
theorem dX2_clear_11 : decode cX2_clear 11 = .ok (.ireturn, 1) := by decide +kernel
theorem dX2_circle_0 : decode cX2_circle 0 = .ok (.iload_n 1, 1) := by decide +kernel
theorem dX2_circle_1 : decode cX2_circle 1 = .ok (.invokestatic 74, 3) := by decide +kernel
theorem dX2_circle_4 : decode cX2_circle 4 = .ok (.aload_n 0, 1) := by decide +kernel
theorem dX2_circle_5 : decode cX2_circle 5 = .ok (.invokevirtual 155, 3) := by decide +kernel
theorem dX2_circle_8 : decode cX2_circle 8 = .ok (.aload_n 0, 1) := by decide +kernel
theorem dX2_circle_9 : decode cX2_circle 9 = .ok (.invokevirtual 158, 3) := by decide +kernel
theorem dX2_circle_12 : decode cX2_circle 12 = .ok (.aload_n 0, 1) := by decide +kernel
theorem dX2_circle_13 : decode cX2_circle 13 = .ok (.getfield 37, 3) := by decide +kernel
theorem dX2_circle_16 : decode cX2_circle 16 = .ok (.iload_n 1, 1) := by decide +kernel
theorem dX2_circle_17 : decode cX2_circle 17 = .ok (.invokevirtual 100, 3) := by decide +kernel
theorem dX2_circle_20 : decode cX2_circle 20 = .ok (.lreturn, 1) := by decide +kernel
theorem dX2_curve_0 : decode cX2_curve 0 = .ok (.aload_n 0, 1) := by decide +kernel
theorem dX2_curve_1 : decode cX2_curve 1 = .ok (.invokevirtual 155, 3) := by decide +kernel
theorem dX2_curve_4 : decode cX2_curve 4 = .ok (.aload_n 0, 1) := by decide +kernel
theorem dX2_curve_5 : decode cX2_curve 5 = .ok (.invokevirtual 158, 3) := by decide +kernel
theorem dX2_curve_8 : decode cX2_curve 8 = .ok (.aload_n 0, 1) := by decide +kernel
theorem dX2_curve_9 : decode cX2_curve 9 = .ok (.getfield 37, 3) := by decide +kernel
theorem dX2_curve_12 : decode cX2_curve 12 = .ok (.invokevirtual 161, 3) := by decide +kernel
theorem dX2_curve_15 : decode cX2_curve 15 = .ok (.invokestatic 164, 3) := by decide +kernel
theorem dX2_curve_18 : decode cX2_curve 18 = .ok (.ireturn, 1) := by decide +kernel
theorem dX2_sherd_0 : decode cX2_sherd 0 = .ok (.aload_n 0, 1) := by decide +kernel
theorem dX2_sherd_1 : decode cX2_sherd 1 = .ok (.iload_n 1, 1) := by decide +kernel
theorem dX2_sherd_2 : decode cX2_sherd 2 = .ok (.invokevirtual 168, 3) := by decide +kernel
theorem dX2_sherd_5 : decode cX2_sherd 5 = .ok (.iload_n 2, 1) := by decide +kernel
theorem dX2_sherd_6 : decode cX2_sherd 6 = .ok (.iconst 1, 1) := by decide +kernel
theorem dX2_sherd_7 : decode cX2_sherd 7 = .ok (.if_icmp .lt 10, 3) := by decide +kernel
theorem dX2_sherd_10 : decode cX2_sherd 10 = .ok (.iload_n 2, 1) := by decide +kernel
theorem dX2_sherd_11 : decode cX2_sherd 11 = .ok (.sipush 1000, 3) := by decide +kernel
theorem dX2_sherd_14 : decode cX2_sherd 14 = .ok (.if_icmp .le 13, 3) := by decide +kernel
theorem dX2_sherd_17 : decode cX2_sherd 17 = .ok (.new 57, 3) := by decide +kernel
theorem dX2_sherd_20 : decode cX2_sherd 20 = .ok (.dup, 1) := by decide +kernel
theorem dX2_sherd_21 : decode cX2_sherd 21 = .ok (.ldc 171, 2) := by decide +kernel
theorem dX2_sherd_23 : decode cX2_sherd 23 = .ok (.invokespecial 61, 3) := by decide +kernel
theorem dX2_sherd_26 : decode cX2_sherd 26 = .ok (.athrow, 1) := by decide +kernel
theorem dX2_sherd_27 : decode cX2_sherd 27 = .ok (.aload_n 0, 1) := by decide +kernel
theorem dX2_sherd_28 : decode cX2_sherd 28 = .ok (.getfield 173, 3) := by decide +kernel
theorem dX2_sherd_31 : decode cX2_sherd 31 = .ok (.bipush 60, 2) := by decide +kernel
theorem dX2_sherd_33 : decode cX2_sherd 33 = .ok (.if_icmp .lt 13, 3) := by decide +kernel
theorem dX2_sherd_36 : decode cX2_sherd 36 = .ok (.new 45, 3) := by decide +kernel
theorem dX2_sherd_39 : decode cX2_sherd 39 = .ok (.dup, 1) := by decide +kernel
theorem dX2_sherd_40 : decode cX2_sherd 40 = .ok (.ldc 176, 2) := by decide +kernel
theorem dX2_sherd_42 : decode cX2_sherd 42 = .ok (.invokespecial 49, 3) := by decide +kernel
theorem dX2_sherd_45 : decode cX2_sherd 45 = .ok (.athrow, 1) := by decide +kernel
theorem dX2_sherd_46 : decode cX2_sherd 46 = .ok (.aload_n 0, 1) := by decide +kernel
theorem dX2_sherd_47 : decode cX2_sherd 47 = .ok (.getfield 25, 3) := by decide +kernel
theorem dX2_sherd_50 : decode cX2_sherd 50 = .ok (.aload_n 0, 1) := by decide +kernel
theorem dX2_sherd_51 : decode cX2_sherd 51 = .ok (.getfield 173, 3) := by decide +kernel
theorem dX2_sherd_54 : decode cX2_sherd 54 = .ok (.iload_n 1, 1) := by decide +kernel
theorem dX2_sherd_55 : decode cX2_sherd 55 = .ok (.iastore, 1) := by decide +kernel
theorem dX2_sherd_56 : decode cX2_sherd 56 = .ok (.aload_n 0, 1) := by decide +kernel
theorem dX2_sherd_57 : decode cX2_sherd 57 = .ok (.getfield 28, 3) := by decide +kernel
theorem dX2_sherd_60 : decode cX2_sherd 60 = .ok (.aload_n 0, 1) := by decide +kernel
theorem dX2_sherd_61 : decode cX2_sherd 61 = .ok (.getfield 173, 3) := by decide +kernel
theorem dX2_sherd_64 : decode cX2_sherd 64 = .ok (.iload_n 2, 1) := by decide +kernel
theorem dX2_sherd_65 : decode cX2_sherd 65 = .ok (.iastore, 1) := by decide +kernel
theorem dX2_sherd_66 : decode cX2_sherd 66 = .ok (.aload_n 0, 1) := by decide +kernel
theorem dX2_sherd_67 : decode cX2_sherd 67 = .ok (.dup, 1) := by decide +kernel
theorem dX2_sherd_68 : decode cX2_sherd 68 = .ok (.getfield 173, 3) := by decide +kernel
theorem dX2_sherd_71 : decode cX2_sherd 71 = .ok (.iconst 1, 1) := by decide +kernel
theorem dX2_sherd_72 : decode cX2_sherd 72 = .ok (.iadd, 1) := by decide +kernel
theorem dX2_sherd_73 : decode cX2_sherd 73 = .ok (.putfield 173, 3) := by decide +kernel
theorem dX2_sherd_76 : decode cX2_sherd 76 = .ok (.aload_n 0, 1) := by decide +kernel
theorem dX2_sherd_77 : decode cX2_sherd 77 = .ok (.iload_n 1, 1) := by decide +kernel
theorem dX2_sherd_78 : decode cX2_sherd 78 = .ok (.invokevirtual 178, 3) := by decide +kernel
theorem dX2_sherd_81 : decode cX2_sherd 81 = .ok (.ireturn, 1) := by decide +kernel
theorem dX2_vessels_0 : decode cX2_vessels 0 = .ok (.aload_n 0, 1) := by decide +kernel
theorem dX2_vessels_1 : decode cX2_vessels 1 = .ok (.iload_n 1, 1) := by decide +kernel
theorem dX2_vessels_2 : decode cX2_vessels 2 = .ok (.invokevirtual 168, 3) := by decide +kernel
theorem dX2_vessels_5 : decode cX2_vessels 5 = .ok (.iload_n 2, 1) := by decide +kernel
theorem dX2_vessels_6 : decode cX2_vessels 6 = .ok (.invokestatic 74, 3) := by decide +kernel
theorem dX2_vessels_9 : decode cX2_vessels 9 = .ok (.iload_n 2, 1) := by decide +kernel
theorem dX2_vessels_10 : decode cX2_vessels 10 = .ok (.ifCond .ne 19, 3) := by decide +kernel
theorem dX2_vessels_13 : decode cX2_vessels 13 = .ok (.aload_n 0, 1) := by decide +kernel
theorem dX2_vessels_14 : decode cX2_vessels 14 = .ok (.iload_n 1, 1) := by decide +kernel
theorem dX2_vessels_15 : decode cX2_vessels 15 = .ok (.invokevirtual 178, 3) := by decide +kernel
theorem dX2_vessels_18 : decode cX2_vessels 18 = .ok (.sipush 1000, 3) := by decide +kernel
theorem dX2_vessels_21 : decode cX2_vessels 21 = .ok (.iadd, 1) := by decide +kernel
theorem dX2_vessels_22 : decode cX2_vessels 22 = .ok (.iconst 1, 1) := by decide +kernel
theorem dX2_vessels_23 : decode cX2_vessels 23 = .ok (.isub, 1) := by decide +kernel
theorem dX2_vessels_24 : decode cX2_vessels 24 = .ok (.sipush 1000, 3) := by decide +kernel
theorem dX2_vessels_27 : decode cX2_vessels 27 = .ok (.idiv, 1) := by decide +kernel
theorem dX2_vessels_28 : decode cX2_vessels 28 = .ok (.ireturn, 1) := by decide +kernel
theorem dX2_vessels_29 : decode cX2_vessels 29 = .ok (.aload_n 0, 1) := by decide +kernel
theorem dX2_vessels_30 : decode cX2_vessels 30 = .ok (.iload_n 1, 1) := by decide +kernel
theorem dX2_vessels_31 : decode cX2_vessels 31 = .ok (.invokevirtual 181, 3) := by decide +kernel
theorem dX2_vessels_34 : decode cX2_vessels 34 = .ok (.ireturn, 1) := by decide +kernel
theorem dX2_count_0 : decode cX2_count 0 = .ok (.iload_n 1, 1) := by decide +kernel
theorem dX2_count_1 : decode cX2_count 1 = .ok (.tableswitch 51 0 3 #[31, 36, 41, 46], 31) := by decide +kernel
theorem dX2_count_32 : decode cX2_count 32 = .ok (.aload_n 0, 1) := by decide +kernel
theorem dX2_count_33 : decode cX2_count 33 = .ok (.getfield 41, 3) := by decide +kernel
theorem dX2_count_36 : decode cX2_count 36 = .ok (.ireturn, 1) := by decide +kernel
theorem dX2_count_37 : decode cX2_count 37 = .ok (.aload_n 0, 1) := by decide +kernel
theorem dX2_count_38 : decode cX2_count 38 = .ok (.getfield 143, 3) := by decide +kernel
theorem dX2_count_41 : decode cX2_count 41 = .ok (.ireturn, 1) := by decide +kernel
theorem dX2_count_42 : decode cX2_count 42 = .ok (.aload_n 0, 1) := by decide +kernel
theorem dX2_count_43 : decode cX2_count 43 = .ok (.getfield 150, 3) := by decide +kernel
theorem dX2_count_46 : decode cX2_count 46 = .ok (.ireturn, 1) := by decide +kernel
theorem dX2_count_47 : decode cX2_count 47 = .ok (.aload_n 0, 1) := by decide +kernel
theorem dX2_count_48 : decode cX2_count 48 = .ok (.getfield 173, 3) := by decide +kernel
theorem dX2_count_51 : decode cX2_count 51 = .ok (.ireturn, 1) := by decide +kernel
theorem dX2_count_52 : decode cX2_count 52 = .ok (.new 81, 3) := by decide +kernel
theorem dX2_count_55 : decode cX2_count 55 = .ok (.dup, 1) := by decide +kernel
theorem dX2_count_56 : decode cX2_count 56 = .ok (.ldc 184, 2) := by decide +kernel
theorem dX2_count_58 : decode cX2_count 58 = .ok (.invokespecial 85, 3) := by decide +kernel
theorem dX2_count_61 : decode cX2_count 61 = .ok (.athrow, 1) := by decide +kernel
theorem dX2_profileOf_0 : decode cX2_profileOf 0 = .ok (.iload_n 1, 1) := by decide +kernel
theorem dX2_profileOf_1 : decode cX2_profileOf 1 = .ok (.ifCond .lt 12, 3) := by decide +kernel
theorem dX2_profileOf_4 : decode cX2_profileOf 4 = .ok (.iload_n 1, 1) := by decide +kernel
theorem dX2_profileOf_5 : decode cX2_profileOf 5 = .ok (.aload_n 0, 1) := by decide +kernel
theorem dX2_profileOf_6 : decode cX2_profileOf 6 = .ok (.getfield 11, 3) := by decide +kernel
theorem dX2_profileOf_9 : decode cX2_profileOf 9 = .ok (.arraylength, 1) := by decide +kernel
theorem dX2_profileOf_10 : decode cX2_profileOf 10 = .ok (.if_icmp .lt 13, 3) := by decide +kernel
theorem dX2_profileOf_13 : decode cX2_profileOf 13 = .ok (.new 81, 3) := by decide +kernel
theorem dX2_profileOf_16 : decode cX2_profileOf 16 = .ok (.dup, 1) := by decide +kernel
theorem dX2_profileOf_17 : decode cX2_profileOf 17 = .ok (.ldc 186, 2) := by decide +kernel
theorem dX2_profileOf_19 : decode cX2_profileOf 19 = .ok (.invokespecial 85, 3) := by decide +kernel
theorem dX2_profileOf_22 : decode cX2_profileOf 22 = .ok (.athrow, 1) := by decide +kernel
theorem dX2_profileOf_23 : decode cX2_profileOf 23 = .ok (.aload_n 0, 1) := by decide +kernel
theorem dX2_profileOf_24 : decode cX2_profileOf 24 = .ok (.getfield 11, 3) := by decide +kernel
theorem dX2_profileOf_27 : decode cX2_profileOf 27 = .ok (.iload_n 1, 1) := by decide +kernel
theorem dX2_profileOf_28 : decode cX2_profileOf 28 = .ok (.aaload, 1) := by decide +kernel
theorem dX2_profileOf_29 : decode cX2_profileOf 29 = .ok (.astore_n 2, 1) := by decide +kernel
theorem dX2_profileOf_30 : decode cX2_profileOf 30 = .ok (.aload_n 2, 1) := by decide +kernel
theorem dX2_profileOf_31 : decode cX2_profileOf 31 = .ok (.ifnonnull 13, 3) := by decide +kernel
theorem dX2_profileOf_34 : decode cX2_profileOf 34 = .ok (.new 81, 3) := by decide +kernel
theorem dX2_profileOf_37 : decode cX2_profileOf 37 = .ok (.dup, 1) := by decide +kernel
theorem dX2_profileOf_38 : decode cX2_profileOf 38 = .ok (.ldc 186, 2) := by decide +kernel
theorem dX2_profileOf_40 : decode cX2_profileOf 40 = .ok (.invokespecial 85, 3) := by decide +kernel
theorem dX2_profileOf_43 : decode cX2_profileOf 43 = .ok (.athrow, 1) := by decide +kernel
theorem dX2_profileOf_44 : decode cX2_profileOf 44 = .ok (.aload_n 2, 1) := by decide +kernel
theorem dX2_profileOf_45 : decode cX2_profileOf 45 = .ok (.areturn, 1) := by decide +kernel
theorem dX2_needProfile_0 : decode cX2_needProfile 0 = .ok (.iload_n 1, 1) := by decide +kernel
theorem dX2_needProfile_1 : decode cX2_needProfile 1 = .ok (.ifCond .lt 11, 3) := by decide +kernel
theorem dX2_needProfile_4 : decode cX2_needProfile 4 = .ok (.iload_n 1, 1) := by decide +kernel
theorem dX2_needProfile_5 : decode cX2_needProfile 5 = .ok (.aload_n 0, 1) := by decide +kernel
theorem dX2_needProfile_6 : decode cX2_needProfile 6 = .ok (.getfield 41, 3) := by decide +kernel
theorem dX2_needProfile_9 : decode cX2_needProfile 9 = .ok (.if_icmp .lt 13, 3) := by decide +kernel
theorem dX2_needProfile_12 : decode cX2_needProfile 12 = .ok (.new 81, 3) := by decide +kernel
theorem dX2_needProfile_15 : decode cX2_needProfile 15 = .ok (.dup, 1) := by decide +kernel
theorem dX2_needProfile_16 : decode cX2_needProfile 16 = .ok (.ldc 186, 2) := by decide +kernel
theorem dX2_needProfile_18 : decode cX2_needProfile 18 = .ok (.invokespecial 85, 3) := by decide +kernel
theorem dX2_needProfile_21 : decode cX2_needProfile 21 = .ok (.athrow, 1) := by decide +kernel
theorem dX2_needProfile_22 : decode cX2_needProfile 22 = .ok (.return_, 1) := by decide +kernel
theorem dX2_needOneOfTwo_0 : decode cX2_needOneOfTwo 0 = .ok (.iload_n 0, 1) := by decide +kernel
theorem dX2_needOneOfTwo_1 : decode cX2_needOneOfTwo 1 = .ok (.ifCond .eq 18, 3) := by decide +kernel
theorem dX2_needOneOfTwo_4 : decode cX2_needOneOfTwo 4 = .ok (.iload_n 0, 1) := by decide +kernel
theorem dX2_needOneOfTwo_5 : decode cX2_needOneOfTwo 5 = .ok (.iconst 1, 1) := by decide +kernel
theorem dX2_needOneOfTwo_6 : decode cX2_needOneOfTwo 6 = .ok (.if_icmp .eq 13, 3) := by decide +kernel
theorem dX2_needOneOfTwo_9 : decode cX2_needOneOfTwo 9 = .ok (.new 81, 3) := by decide +kernel
theorem dX2_needOneOfTwo_12 : decode cX2_needOneOfTwo 12 = .ok (.dup, 1) := by decide +kernel
theorem dX2_needOneOfTwo_13 : decode cX2_needOneOfTwo 13 = .ok (.ldc 188, 2) := by decide +kernel
theorem dX2_needOneOfTwo_15 : decode cX2_needOneOfTwo 15 = .ok (.invokespecial 85, 3) := by decide +kernel
theorem dX2_needOneOfTwo_18 : decode cX2_needOneOfTwo 18 = .ok (.athrow, 1) := by decide +kernel
theorem dX2_needOneOfTwo_19 : decode cX2_needOneOfTwo 19 = .ok (.return_, 1) := by decide +kernel
theorem dX2_needCircle_0 : decode cX2_needCircle 0 = .ok (.aload_n 0, 1) := by decide +kernel
theorem dX2_needCircle_1 : decode cX2_needCircle 1 = .ok (.getfield 150, 3) := by decide +kernel
theorem dX2_needCircle_4 : decode cX2_needCircle 4 = .ok (.iconst 3, 1) := by decide +kernel
theorem dX2_needCircle_5 : decode cX2_needCircle 5 = .ok (.if_icmp .ge 13, 3) := by decide +kernel
theorem dX2_needCircle_8 : decode cX2_needCircle 8 = .ok (.new 45, 3) := by decide +kernel
theorem dX2_needCircle_11 : decode cX2_needCircle 11 = .ok (.dup, 1) := by decide +kernel
theorem dX2_needCircle_12 : decode cX2_needCircle 12 = .ok (.ldc 190, 2) := by decide +kernel
theorem dX2_needCircle_14 : decode cX2_needCircle 14 = .ok (.invokespecial 49, 3) := by decide +kernel
theorem dX2_needCircle_17 : decode cX2_needCircle 17 = .ok (.athrow, 1) := by decide +kernel
theorem dX2_needCircle_18 : decode cX2_needCircle 18 = .ok (.return_, 1) := by decide +kernel
theorem dX2_measureCircle_0 : decode cX2_measureCircle 0 = .ok (.aload_n 0, 1) := by decide +kernel
theorem dX2_measureCircle_1 : decode cX2_measureCircle 1 = .ok (.getfield 150, 3) := by decide +kernel
theorem dX2_measureCircle_4 : decode cX2_measureCircle 4 = .ok (.iconst 2, 1) := by decide +kernel
theorem dX2_measureCircle_5 : decode cX2_measureCircle 5 = .ok (.idiv, 1) := by decide +kernel
theorem dX2_measureCircle_6 : decode cX2_measureCircle 6 = .ok (.istore_n 1, 1) := by decide +kernel
theorem dX2_measureCircle_7 : decode cX2_measureCircle 7 = .ok (.aload_n 0, 1) := by decide +kernel
theorem dX2_measureCircle_8 : decode cX2_measureCircle 8 = .ok (.getfield 150, 3) := by decide +kernel
theorem dX2_measureCircle_11 : decode cX2_measureCircle 11 = .ok (.iconst 1, 1) := by decide +kernel
theorem dX2_measureCircle_12 : decode cX2_measureCircle 12 = .ok (.isub, 1) := by decide +kernel
theorem dX2_measureCircle_13 : decode cX2_measureCircle 13 = .ok (.istore_n 2, 1) := by decide +kernel
theorem dX2_measureCircle_14 : decode cX2_measureCircle 14 = .ok (.aload_n 0, 1) := by decide +kernel
theorem dX2_measureCircle_15 : decode cX2_measureCircle 15 = .ok (.getfield 37, 3) := by decide +kernel
theorem dX2_measureCircle_18 : decode cX2_measureCircle 18 = .ok (.invokevirtual 192, 3) := by decide +kernel
theorem dX2_measureCircle_21 : decode cX2_measureCircle 21 = .ok (.iload_n 1, 1) := by decide +kernel
theorem dX2_measureCircle_22 : decode cX2_measureCircle 22 = .ok (.iload_n 2, 1) := by decide +kernel
theorem dX2_measureCircle_23 : decode cX2_measureCircle 23 = .ok (.if_icmp .ge 9, 3) := by decide +kernel
theorem dX2_measureCircle_26 : decode cX2_measureCircle 26 = .ok (.iload_n 2, 1) := by decide +kernel
theorem dX2_measureCircle_27 : decode cX2_measureCircle 27 = .ok (.bipush 20, 2) := by decide +kernel
theorem dX2_measureCircle_29 : decode cX2_measureCircle 29 = .ok (.if_icmp .lt 4, 3) := by decide +kernel
theorem dX2_measureCircle_32 : decode cX2_measureCircle 32 = .ok (.return_, 1) := by decide +kernel
theorem dX2_measureCircle_33 : decode cX2_measureCircle 33 = .ok (.aload_n 0, 1) := by decide +kernel
theorem dX2_measureCircle_34 : decode cX2_measureCircle 34 = .ok (.getfield 19, 3) := by decide +kernel
theorem dX2_measureCircle_37 : decode cX2_measureCircle 37 = .ok (.iload_n 1, 1) := by decide +kernel
theorem dX2_measureCircle_38 : decode cX2_measureCircle 38 = .ok (.iaload, 1) := by decide +kernel
theorem dX2_measureCircle_39 : decode cX2_measureCircle 39 = .ok (.aload_n 0, 1) := by decide +kernel
theorem dX2_measureCircle_40 : decode cX2_measureCircle 40 = .ok (.getfield 19, 3) := by decide +kernel
theorem dX2_measureCircle_43 : decode cX2_measureCircle 43 = .ok (.iconst 0, 1) := by decide +kernel
theorem dX2_measureCircle_44 : decode cX2_measureCircle 44 = .ok (.iaload, 1) := by decide +kernel
theorem dX2_measureCircle_45 : decode cX2_measureCircle 45 = .ok (.isub, 1) := by decide +kernel
theorem dX2_measureCircle_46 : decode cX2_measureCircle 46 = .ok (.i2l, 1) := by decide +kernel
theorem dX2_measureCircle_47 : decode cX2_measureCircle 47 = .ok (.lstore_n 3, 1) := by decide +kernel
theorem dX2_measureCircle_48 : decode cX2_measureCircle 48 = .ok (.aload_n 0, 1) := by decide +kernel
theorem dX2_measureCircle_49 : decode cX2_measureCircle 49 = .ok (.getfield 22, 3) := by decide +kernel
theorem dX2_measureCircle_52 : decode cX2_measureCircle 52 = .ok (.iload_n 1, 1) := by decide +kernel
theorem dX2_measureCircle_53 : decode cX2_measureCircle 53 = .ok (.iaload, 1) := by decide +kernel
theorem dX2_measureCircle_54 : decode cX2_measureCircle 54 = .ok (.aload_n 0, 1) := by decide +kernel
theorem dX2_measureCircle_55 : decode cX2_measureCircle 55 = .ok (.getfield 22, 3) := by decide +kernel
theorem dX2_measureCircle_58 : decode cX2_measureCircle 58 = .ok (.iconst 0, 1) := by decide +kernel
theorem dX2_measureCircle_59 : decode cX2_measureCircle 59 = .ok (.iaload, 1) := by decide +kernel
theorem dX2_measureCircle_60 : decode cX2_measureCircle 60 = .ok (.isub, 1) := by decide +kernel
theorem dX2_measureCircle_61 : decode cX2_measureCircle 61 = .ok (.i2l, 1) := by decide +kernel
theorem dX2_measureCircle_62 : decode cX2_measureCircle 62 = .ok (.lstore 5, 2) := by decide +kernel
theorem dX2_measureCircle_64 : decode cX2_measureCircle 64 = .ok (.aload_n 0, 1) := by decide +kernel
theorem dX2_measureCircle_65 : decode cX2_measureCircle 65 = .ok (.getfield 19, 3) := by decide +kernel
theorem dX2_measureCircle_68 : decode cX2_measureCircle 68 = .ok (.iload_n 2, 1) := by decide +kernel
theorem dX2_measureCircle_69 : decode cX2_measureCircle 69 = .ok (.iaload, 1) := by decide +kernel
theorem dX2_measureCircle_70 : decode cX2_measureCircle 70 = .ok (.aload_n 0, 1) := by decide +kernel
theorem dX2_measureCircle_71 : decode cX2_measureCircle 71 = .ok (.getfield 19, 3) := by decide +kernel
theorem dX2_measureCircle_74 : decode cX2_measureCircle 74 = .ok (.iconst 0, 1) := by decide +kernel
theorem dX2_measureCircle_75 : decode cX2_measureCircle 75 = .ok (.iaload, 1) := by decide +kernel
theorem dX2_measureCircle_76 : decode cX2_measureCircle 76 = .ok (.isub, 1) := by decide +kernel
theorem dX2_measureCircle_77 : decode cX2_measureCircle 77 = .ok (.i2l, 1) := by decide +kernel
theorem dX2_measureCircle_78 : decode cX2_measureCircle 78 = .ok (.lstore 7, 2) := by decide +kernel
theorem dX2_measureCircle_80 : decode cX2_measureCircle 80 = .ok (.aload_n 0, 1) := by decide +kernel
theorem dX2_measureCircle_81 : decode cX2_measureCircle 81 = .ok (.getfield 22, 3) := by decide +kernel
theorem dX2_measureCircle_84 : decode cX2_measureCircle 84 = .ok (.iload_n 2, 1) := by decide +kernel
theorem dX2_measureCircle_85 : decode cX2_measureCircle 85 = .ok (.iaload, 1) := by decide +kernel
theorem dX2_measureCircle_86 : decode cX2_measureCircle 86 = .ok (.aload_n 0, 1) := by decide +kernel
theorem dX2_measureCircle_87 : decode cX2_measureCircle 87 = .ok (.getfield 22, 3) := by decide +kernel
theorem dX2_measureCircle_90 : decode cX2_measureCircle 90 = .ok (.iconst 0, 1) := by decide +kernel
theorem dX2_measureCircle_91 : decode cX2_measureCircle 91 = .ok (.iaload, 1) := by decide +kernel
theorem dX2_measureCircle_92 : decode cX2_measureCircle 92 = .ok (.isub, 1) := by decide +kernel
theorem dX2_measureCircle_93 : decode cX2_measureCircle 93 = .ok (.i2l, 1) := by decide +kernel
theorem dX2_measureCircle_94 : decode cX2_measureCircle 94 = .ok (.lstore 9, 2) := by decide +kernel
theorem dX2_measureCircle_96 : decode cX2_measureCircle 96 = .ok (.lload_n 3, 1) := by decide +kernel
theorem dX2_measureCircle_97 : decode cX2_measureCircle 97 = .ok (.lload 9, 2) := by decide +kernel
theorem dX2_measureCircle_99 : decode cX2_measureCircle 99 = .ok (.lmul, 1) := by decide +kernel
theorem dX2_measureCircle_100 : decode cX2_measureCircle 100 = .ok (.lload 5, 2) := by decide +kernel
theorem dX2_measureCircle_102 : decode cX2_measureCircle 102 = .ok (.lload 7, 2) := by decide +kernel
theorem dX2_measureCircle_104 : decode cX2_measureCircle 104 = .ok (.lmul, 1) := by decide +kernel
theorem dX2_measureCircle_105 : decode cX2_measureCircle 105 = .ok (.lsub, 1) := by decide +kernel
theorem dX2_measureCircle_106 : decode cX2_measureCircle 106 = .ok (.lstore 11, 2) := by decide +kernel
theorem dX2_measureCircle_108 : decode cX2_measureCircle 108 = .ok (.lload 11, 2) := by decide +kernel
theorem dX2_measureCircle_110 : decode cX2_measureCircle 110 = .ok (.lconst 0, 1) := by decide +kernel
theorem dX2_measureCircle_111 : decode cX2_measureCircle 111 = .ok (.lcmp, 1) := by decide +kernel
theorem dX2_measureCircle_112 : decode cX2_measureCircle 112 = .ok (.ifCond .ne 4, 3) := by decide +kernel
theorem dX2_measureCircle_115 : decode cX2_measureCircle 115 = .ok (.return_, 1) := by decide +kernel
theorem dX2_measureCircle_116 : decode cX2_measureCircle 116 = .ok (.lload_n 3, 1) := by decide +kernel
theorem dX2_measureCircle_117 : decode cX2_measureCircle 117 = .ok (.lload 5, 2) := by decide +kernel
theorem dX2_measureCircle_119 : decode cX2_measureCircle 119 = .ok (.invokestatic 195, 3) := by decide +kernel
theorem dX2_measureCircle_122 : decode cX2_measureCircle 122 = .ok (.lload 7, 2) := by decide +kernel
theorem dX2_measureCircle_124 : decode cX2_measureCircle 124 = .ok (.lload 9, 2) := by decide +kernel
theorem dX2_measureCircle_126 : decode cX2_measureCircle 126 = .ok (.invokestatic 195, 3) := by decide +kernel
theorem dX2_measureCircle_129 : decode cX2_measureCircle 129 = .ok (.lmul, 1) := by decide +kernel
theorem dX2_measureCircle_130 : decode cX2_measureCircle 130 = .ok (.lload 7, 2) := by decide +kernel
theorem dX2_measureCircle_132 : decode cX2_measureCircle 132 = .ok (.lload_n 3, 1) := by decide +kernel
theorem dX2_measureCircle_133 : decode cX2_measureCircle 133 = .ok (.lsub, 1) := by decide +kernel
theorem dX2_measureCircle_134 : decode cX2_measureCircle 134 = .ok (.lload 9, 2) := by decide +kernel
theorem dX2_measureCircle_136 : decode cX2_measureCircle 136 = .ok (.lload 5, 2) := by decide +kernel
theorem dX2_measureCircle_138 : decode cX2_measureCircle 138 = .ok (.lsub, 1) := by decide +kernel
theorem dX2_measureCircle_139 : decode cX2_measureCircle 139 = .ok (.invokestatic 195, 3) := by decide +kernel
theorem dX2_measureCircle_142 : decode cX2_measureCircle 142 = .ok (.lmul, 1) := by decide +kernel
theorem dX2_measureCircle_143 : decode cX2_measureCircle 143 = .ok (.lstore 13, 2) := by decide +kernel
theorem dX2_measureCircle_145 : decode cX2_measureCircle 145 = .ok (.aload_n 0, 1) := by decide +kernel
theorem dX2_measureCircle_146 : decode cX2_measureCircle 146 = .ok (.getfield 37, 3) := by decide +kernel
theorem dX2_measureCircle_149 : decode cX2_measureCircle 149 = .ok (.lload 13, 2) := by decide +kernel
theorem dX2_measureCircle_151 : decode cX2_measureCircle 151 = .ok (.ldc2_w 199, 3) := by decide +kernel
theorem dX2_measureCircle_154 : decode cX2_measureCircle 154 = .ok (.lload 11, 2) := by decide +kernel
theorem dX2_measureCircle_156 : decode cX2_measureCircle 156 = .ok (.lmul, 1) := by decide +kernel
theorem dX2_measureCircle_157 : decode cX2_measureCircle 157 = .ok (.lload 11, 2) := by decide +kernel
theorem dX2_measureCircle_159 : decode cX2_measureCircle 159 = .ok (.lmul, 1) := by decide +kernel
theorem dX2_measureCircle_160 : decode cX2_measureCircle 160 = .ok (.invokevirtual 201, 3) := by decide +kernel
theorem dX2_measureCircle_163 : decode cX2_measureCircle 163 = .ok (.return_, 1) := by decide +kernel
theorem dX2_squareOfLength_0 : decode cX2_squareOfLength 0 = .ok (.lload_n 0, 1) := by decide +kernel
theorem dX2_squareOfLength_1 : decode cX2_squareOfLength 1 = .ok (.lload_n 0, 1) := by decide +kernel
theorem dX2_squareOfLength_2 : decode cX2_squareOfLength 2 = .ok (.lmul, 1) := by decide +kernel
theorem dX2_squareOfLength_3 : decode cX2_squareOfLength 3 = .ok (.lload_n 2, 1) := by decide +kernel
theorem dX2_squareOfLength_4 : decode cX2_squareOfLength 4 = .ok (.lload_n 2, 1) := by decide +kernel
theorem dX2_squareOfLength_5 : decode cX2_squareOfLength 5 = .ok (.lmul, 1) := by decide +kernel
theorem dX2_squareOfLength_6 : decode cX2_squareOfLength 6 = .ok (.ladd, 1) := by decide +kernel
theorem dX2_squareOfLength_7 : decode cX2_squareOfLength 7 = .ok (.lreturn, 1) := by decide +kernel
theorem dX2_rootDown_0 : decode cX2_rootDown 0 = .ok (.iconst 0, 1) := by decide +kernel
theorem dX2_rootDown_1 : decode cX2_rootDown 1 = .ok (.istore_n 2, 1) := by decide +kernel
theorem dX2_rootDown_2 : decode cX2_rootDown 2 = .ok (.bipush 26, 2) := by decide +kernel
theorem dX2_rootDown_4 : decode cX2_rootDown 4 = .ok (.istore_n 3, 1) := by decide +kernel
theorem dX2_rootDown_5 : decode cX2_rootDown 5 = .ok (.iload_n 3, 1) := by decide +kernel
theorem dX2_rootDown_6 : decode cX2_rootDown 6 = .ok (.ifCond .lt 31, 3) := by decide +kernel
theorem dX2_rootDown_9 : decode cX2_rootDown 9 = .ok (.iload_n 2, 1) := by decide +kernel
theorem dX2_rootDown_10 : decode cX2_rootDown 10 = .ok (.iconst 1, 1) := by decide +kernel
theorem dX2_rootDown_11 : decode cX2_rootDown 11 = .ok (.iload_n 3, 1) := by decide +kernel
theorem dX2_rootDown_12 : decode cX2_rootDown 12 = .ok (.ishl, 1) := by decide +kernel
theorem dX2_rootDown_13 : decode cX2_rootDown 13 = .ok (.ior, 1) := by decide +kernel
theorem dX2_rootDown_14 : decode cX2_rootDown 14 = .ok (.i2l, 1) := by decide +kernel
theorem dX2_rootDown_15 : decode cX2_rootDown 15 = .ok (.lstore 4, 2) := by decide +kernel
theorem dX2_rootDown_17 : decode cX2_rootDown 17 = .ok (.lload 4, 2) := by decide +kernel
theorem dX2_rootDown_19 : decode cX2_rootDown 19 = .ok (.lload 4, 2) := by decide +kernel
theorem dX2_rootDown_21 : decode cX2_rootDown 21 = .ok (.lmul, 1) := by decide +kernel
theorem dX2_rootDown_22 : decode cX2_rootDown 22 = .ok (.lload_n 0, 1) := by decide +kernel
theorem dX2_rootDown_23 : decode cX2_rootDown 23 = .ok (.lcmp, 1) := by decide +kernel
theorem dX2_rootDown_24 : decode cX2_rootDown 24 = .ok (.ifCond .gt 7, 3) := by decide +kernel
theorem dX2_rootDown_27 : decode cX2_rootDown 27 = .ok (.lload 4, 2) := by decide +kernel
theorem dX2_rootDown_29 : decode cX2_rootDown 29 = .ok (.l2i, 1) := by decide +kernel
theorem dX2_rootDown_30 : decode cX2_rootDown 30 = .ok (.istore_n 2, 1) := by decide +kernel
theorem dX2_rootDown_31 : decode cX2_rootDown 31 = .ok (.iinc 3 (-1), 3) := by decide +kernel
theorem dX2_rootDown_34 : decode cX2_rootDown 34 = .ok (.goto (-29), 3) := by decide +kernel
theorem dX2_rootDown_37 : decode cX2_rootDown 37 = .ok (.iload_n 2, 1) := by decide +kernel
theorem dX2_rootDown_38 : decode cX2_rootDown 38 = .ok (.ireturn, 1) := by decide +kernel
theorem dX2_sumOfShares_0 : decode cX2_sumOfShares 0 = .ok (.iconst 0, 1) := by decide +kernel
theorem dX2_sumOfShares_1 : decode cX2_sumOfShares 1 = .ok (.istore_n 2, 1) := by decide +kernel
theorem dX2_sumOfShares_2 : decode cX2_sumOfShares 2 = .ok (.iconst 0, 1) := by decide +kernel
theorem dX2_sumOfShares_3 : decode cX2_sumOfShares 3 = .ok (.istore_n 3, 1) := by decide +kernel
theorem dX2_sumOfShares_4 : decode cX2_sumOfShares 4 = .ok (.iload_n 3, 1) := by decide +kernel
theorem dX2_sumOfShares_5 : decode cX2_sumOfShares 5 = .ok (.aload_n 0, 1) := by decide +kernel
theorem dX2_sumOfShares_6 : decode cX2_sumOfShares 6 = .ok (.getfield 173, 3) := by decide +kernel
theorem dX2_sumOfShares_9 : decode cX2_sumOfShares 9 = .ok (.if_icmp .ge 28, 3) := by decide +kernel
theorem dX2_sumOfShares_12 : decode cX2_sumOfShares 12 = .ok (.aload_n 0, 1) := by decide +kernel
theorem dX2_sumOfShares_13 : decode cX2_sumOfShares 13 = .ok (.getfield 25, 3) := by decide +kernel
theorem dX2_sumOfShares_16 : decode cX2_sumOfShares 16 = .ok (.iload_n 3, 1) := by decide +kernel
theorem dX2_sumOfShares_17 : decode cX2_sumOfShares 17 = .ok (.iaload, 1) := by decide +kernel
theorem dX2_sumOfShares_18 : decode cX2_sumOfShares 18 = .ok (.iload_n 1, 1) := by decide +kernel
theorem dX2_sumOfShares_19 : decode cX2_sumOfShares 19 = .ok (.if_icmp .ne 12, 3) := by decide +kernel
theorem dX2_sumOfShares_22 : decode cX2_sumOfShares 22 = .ok (.iload_n 2, 1) := by decide +kernel
theorem dX2_sumOfShares_23 : decode cX2_sumOfShares 23 = .ok (.aload_n 0, 1) := by decide +kernel
theorem dX2_sumOfShares_24 : decode cX2_sumOfShares 24 = .ok (.getfield 28, 3) := by decide +kernel
theorem dX2_sumOfShares_27 : decode cX2_sumOfShares 27 = .ok (.iload_n 3, 1) := by decide +kernel
theorem dX2_sumOfShares_28 : decode cX2_sumOfShares 28 = .ok (.iaload, 1) := by decide +kernel
theorem dX2_sumOfShares_29 : decode cX2_sumOfShares 29 = .ok (.iadd, 1) := by decide +kernel
theorem dX2_sumOfShares_30 : decode cX2_sumOfShares 30 = .ok (.istore_n 2, 1) := by decide +kernel
theorem dX2_sumOfShares_31 : decode cX2_sumOfShares 31 = .ok (.iinc 3 1, 3) := by decide +kernel
theorem dX2_sumOfShares_34 : decode cX2_sumOfShares 34 = .ok (.goto (-30), 3) := by decide +kernel
theorem dX2_sumOfShares_37 : decode cX2_sumOfShares 37 = .ok (.iload_n 2, 1) := by decide +kernel
theorem dX2_sumOfShares_38 : decode cX2_sumOfShares 38 = .ok (.ireturn, 1) := by decide +kernel
theorem dX2_vesselsBySherds_0 : decode cX2_vesselsBySherds 0 = .ok (.iconst 0, 1) := by decide +kernel
theorem dX2_vesselsBySherds_1 : decode cX2_vesselsBySherds 1 = .ok (.istore_n 2, 1) := by decide +kernel
theorem dX2_vesselsBySherds_2 : decode cX2_vesselsBySherds 2 = .ok (.iconst 0, 1) := by decide +kernel
theorem dX2_vesselsBySherds_3 : decode cX2_vesselsBySherds 3 = .ok (.istore_n 3, 1) := by decide +kernel
theorem dX2_vesselsBySherds_4 : decode cX2_vesselsBySherds 4 = .ok (.iload_n 3, 1) := by decide +kernel
theorem dX2_vesselsBySherds_5 : decode cX2_vesselsBySherds 5 = .ok (.aload_n 0, 1) := by decide +kernel
theorem dX2_vesselsBySherds_6 : decode cX2_vesselsBySherds 6 = .ok (.getfield 173, 3) := by decide +kernel
theorem dX2_vesselsBySherds_9 : decode cX2_vesselsBySherds 9 = .ok (.if_icmp .ge 68, 3) := by decide +kernel
theorem dX2_vesselsBySherds_12 : decode cX2_vesselsBySherds 12 = .ok (.aload_n 0, 1) := by decide +kernel
theorem dX2_vesselsBySherds_13 : decode cX2_vesselsBySherds 13 = .ok (.getfield 25, 3) := by decide +kernel
theorem dX2_vesselsBySherds_16 : decode cX2_vesselsBySherds 16 = .ok (.iload_n 3, 1) := by decide +kernel
theorem dX2_vesselsBySherds_17 : decode cX2_vesselsBySherds 17 = .ok (.iaload, 1) := by decide +kernel
theorem dX2_vesselsBySherds_18 : decode cX2_vesselsBySherds 18 = .ok (.iload_n 1, 1) := by decide +kernel
theorem dX2_vesselsBySherds_19 : decode cX2_vesselsBySherds 19 = .ok (.if_icmp .eq 6, 3) := by decide +kernel
theorem dX2_vesselsBySherds_22 : decode cX2_vesselsBySherds 22 = .ok (.goto 49, 3) := by decide +kernel
theorem dX2_vesselsBySherds_25 : decode cX2_vesselsBySherds 25 = .ok (.aload_n 0, 1) := by decide +kernel
theorem dX2_vesselsBySherds_26 : decode cX2_vesselsBySherds 26 = .ok (.iload_n 2, 1) := by decide +kernel
theorem dX2_vesselsBySherds_27 : decode cX2_vesselsBySherds 27 = .ok (.aload_n 0, 1) := by decide +kernel
theorem dX2_vesselsBySherds_28 : decode cX2_vesselsBySherds 28 = .ok (.getfield 28, 3) := by decide +kernel
theorem dX2_vesselsBySherds_31 : decode cX2_vesselsBySherds 31 = .ok (.iload_n 3, 1) := by decide +kernel
theorem dX2_vesselsBySherds_32 : decode cX2_vesselsBySherds 32 = .ok (.iaload, 1) := by decide +kernel
theorem dX2_vesselsBySherds_33 : decode cX2_vesselsBySherds 33 = .ok (.invokevirtual 205, 3) := by decide +kernel
theorem dX2_vesselsBySherds_36 : decode cX2_vesselsBySherds 36 = .ok (.istore 4, 2) := by decide +kernel
theorem dX2_vesselsBySherds_38 : decode cX2_vesselsBySherds 38 = .ok (.iload 4, 2) := by decide +kernel
theorem dX2_vesselsBySherds_40 : decode cX2_vesselsBySherds 40 = .ok (.iload_n 2, 1) := by decide +kernel
theorem dX2_vesselsBySherds_41 : decode cX2_vesselsBySherds 41 = .ok (.if_icmp .ne 14, 3) := by decide +kernel
theorem dX2_vesselsBySherds_44 : decode cX2_vesselsBySherds 44 = .ok (.aload_n 0, 1) := by decide +kernel
theorem dX2_vesselsBySherds_45 : decode cX2_vesselsBySherds 45 = .ok (.getfield 31, 3) := by decide +kernel
theorem dX2_vesselsBySherds_48 : decode cX2_vesselsBySherds 48 = .ok (.iload 4, 2) := by decide +kernel
theorem dX2_vesselsBySherds_50 : decode cX2_vesselsBySherds 50 = .ok (.iconst 0, 1) := by decide +kernel
theorem dX2_vesselsBySherds_51 : decode cX2_vesselsBySherds 51 = .ok (.iastore, 1) := by decide +kernel
theorem dX2_vesselsBySherds_52 : decode cX2_vesselsBySherds 52 = .ok (.iinc 2 1, 3) := by decide +kernel
theorem dX2_vesselsBySherds_55 : decode cX2_vesselsBySherds 55 = .ok (.aload_n 0, 1) := by decide +kernel
theorem dX2_vesselsBySherds_56 : decode cX2_vesselsBySherds 56 = .ok (.getfield 31, 3) := by decide +kernel
theorem dX2_vesselsBySherds_59 : decode cX2_vesselsBySherds 59 = .ok (.iload 4, 2) := by decide +kernel
theorem dX2_vesselsBySherds_61 : decode cX2_vesselsBySherds 61 = .ok (.dup2, 1) := by decide +kernel
theorem dX2_vesselsBySherds_62 : decode cX2_vesselsBySherds 62 = .ok (.iaload, 1) := by decide +kernel
theorem dX2_vesselsBySherds_63 : decode cX2_vesselsBySherds 63 = .ok (.aload_n 0, 1) := by decide +kernel
theorem dX2_vesselsBySherds_64 : decode cX2_vesselsBySherds 64 = .ok (.getfield 28, 3) := by decide +kernel
theorem dX2_vesselsBySherds_67 : decode cX2_vesselsBySherds 67 = .ok (.iload_n 3, 1) := by decide +kernel
theorem dX2_vesselsBySherds_68 : decode cX2_vesselsBySherds 68 = .ok (.iaload, 1) := by decide +kernel
theorem dX2_vesselsBySherds_69 : decode cX2_vesselsBySherds 69 = .ok (.iadd, 1) := by decide +kernel
theorem dX2_vesselsBySherds_70 : decode cX2_vesselsBySherds 70 = .ok (.iastore, 1) := by decide +kernel
theorem dX2_vesselsBySherds_71 : decode cX2_vesselsBySherds 71 = .ok (.iinc 3 1, 3) := by decide +kernel
theorem dX2_vesselsBySherds_74 : decode cX2_vesselsBySherds 74 = .ok (.goto (-70), 3) := by decide +kernel
theorem dX2_vesselsBySherds_77 : decode cX2_vesselsBySherds 77 = .ok (.iload_n 2, 1) := by decide +kernel
theorem dX2_vesselsBySherds_78 : decode cX2_vesselsBySherds 78 = .ok (.ireturn, 1) := by decide +kernel
theorem dX2_firstWithRoom_0 : decode cX2_firstWithRoom 0 = .ok (.iconst 0, 1) := by decide +kernel
theorem dX2_firstWithRoom_1 : decode cX2_firstWithRoom 1 = .ok (.istore_n 3, 1) := by decide +kernel
theorem dX2_firstWithRoom_2 : decode cX2_firstWithRoom 2 = .ok (.iload_n 3, 1) := by decide +kernel
theorem dX2_firstWithRoom_3 : decode cX2_firstWithRoom 3 = .ok (.iload_n 1, 1) := by decide +kernel
theorem dX2_firstWithRoom_4 : decode cX2_firstWithRoom 4 = .ok (.if_icmp .ge 25, 3) := by decide +kernel
theorem dX2_firstWithRoom_7 : decode cX2_firstWithRoom 7 = .ok (.aload_n 0, 1) := by decide +kernel
theorem dX2_firstWithRoom_8 : decode cX2_firstWithRoom 8 = .ok (.getfield 31, 3) := by decide +kernel
theorem dX2_firstWithRoom_11 : decode cX2_firstWithRoom 11 = .ok (.iload_n 3, 1) := by decide +kernel
theorem dX2_firstWithRoom_12 : decode cX2_firstWithRoom 12 = .ok (.iaload, 1) := by decide +kernel
theorem dX2_firstWithRoom_13 : decode cX2_firstWithRoom 13 = .ok (.iload_n 2, 1) := by decide +kernel
theorem dX2_firstWithRoom_14 : decode cX2_firstWithRoom 14 = .ok (.iadd, 1) := by decide +kernel
theorem dX2_firstWithRoom_15 : decode cX2_firstWithRoom 15 = .ok (.sipush 1000, 3) := by decide +kernel
theorem dX2_firstWithRoom_18 : decode cX2_firstWithRoom 18 = .ok (.if_icmp .gt 5, 3) := by decide +kernel
theorem dX2_firstWithRoom_21 : decode cX2_firstWithRoom 21 = .ok (.iload_n 3, 1) := by decide +kernel
theorem dX2_firstWithRoom_22 : decode cX2_firstWithRoom 22 = .ok (.ireturn, 1) := by decide +kernel
theorem dX2_firstWithRoom_23 : decode cX2_firstWithRoom 23 = .ok (.iinc 3 1, 3) := by decide +kernel
theorem dX2_firstWithRoom_26 : decode cX2_firstWithRoom 26 = .ok (.goto (-24), 3) := by decide +kernel
theorem dX2_firstWithRoom_29 : decode cX2_firstWithRoom 29 = .ok (.iload_n 1, 1) := by decide +kernel
theorem dX2_firstWithRoom_30 : decode cX2_firstWithRoom 30 = .ok (.ireturn, 1) := by decide +kernel
