theorem dL_profile_0 : decode cL_profile 0 = .ok (.aload_n 1, 1) := by decide +kernel
theorem dL_profile_1 : decode cL_profile 1 = .ok (.iconst 0, 1) := by decide +kernel
theorem dL_profile_2 : decode cL_profile 2 = .ok (.aload_n 0, 1) := by decide +kernel
theorem dL_profile_3 : decode cL_profile 3 = .ok (.invokevirtual 7, 3) := by decide +kernel
theorem dL_profile_6 : decode cL_profile 6 = .ok (.i2l, 1) := by decide +kernel
theorem dL_profile_7 : decode cL_profile 7 = .ok (.lastore, 1) := by decide +kernel
theorem dL_profile_8 : decode cL_profile 8 = .ok (.goto 6, 3) := by decide +kernel
theorem dL_profile_11 : decode cL_profile 11 = .ok (.astore_n 2, 1) := by decide +kernel
theorem dL_profile_12 : decode cL_profile 12 = .ok (.iconst 1, 1) := by decide +kernel
theorem dL_profile_13 : decode cL_profile 13 = .ok (.ireturn, 1) := by decide +kernel
theorem dL_profile_14 : decode cL_profile 14 = .ok (.iconst 0, 1) := by decide +kernel
theorem dL_profile_15 : decode cL_profile 15 = .ok (.ireturn, 1) := by decide +kernel
theorem dL_corner_0 : decode cL_corner 0 = .ok (.aload 4, 2) := by decide +kernel
theorem dL_corner_2 : decode cL_corner 2 = .ok (.iconst 0, 1) := by decide +kernel
theorem dL_corner_3 : decode cL_corner 3 = .ok (.aload_n 0, 1) := by decide +kernel
theorem dL_corner_4 : decode cL_corner 4 = .ok (.iload_n 1, 1) := by decide +kernel
theorem dL_corner_5 : decode cL_corner 5 = .ok (.iload_n 2, 1) := by decide +kernel
theorem dL_corner_6 : decode cL_corner 6 = .ok (.iload_n 3, 1) := by decide +kernel
theorem dL_corner_7 : decode cL_corner 7 = .ok (.invokevirtual 15, 3) := by decide +kernel
theorem dL_corner_10 : decode cL_corner 10 = .ok (.ifCond .eq 7, 3) := by decide +kernel
theorem dL_corner_13 : decode cL_corner 13 = .ok (.lconst 1, 1) := by decide +kernel
theorem dL_corner_14 : decode cL_corner 14 = .ok (.goto 4, 3) := by decide +kernel
theorem dL_corner_17 : decode cL_corner 17 = .ok (.lconst 0, 1) := by decide +kernel
theorem dL_corner_18 : decode cL_corner 18 = .ok (.lastore, 1) := by decide +kernel
theorem dL_corner_19 : decode cL_corner 19 = .ok (.goto 15, 3) := by decide +kernel
theorem dL_corner_22 : decode cL_corner 22 = .ok (.astore 5, 2) := by decide +kernel
theorem dL_corner_24 : decode cL_corner 24 = .ok (.iconst 1, 1) := by decide +kernel
theorem dL_corner_25 : decode cL_corner 25 = .ok (.ireturn, 1) := by decide +kernel
theorem dL_corner_26 : decode cL_corner 26 = .ok (.astore 5, 2) := by decide +kernel
theorem dL_corner_28 : decode cL_corner 28 = .ok (.iconst 2, 1) := by decide +kernel
theorem dL_corner_29 : decode cL_corner 29 = .ok (.ireturn, 1) := by decide +kernel
theorem dL_corner_30 : decode cL_corner 30 = .ok (.astore 5, 2) := by decide +kernel
theorem dL_corner_32 : decode cL_corner 32 = .ok (.iconst 3, 1) := by decide +kernel
theorem dL_corner_33 : decode cL_corner 33 = .ok (.ireturn, 1) := by decide +kernel
theorem dL_corner_34 : decode cL_corner 34 = .ok (.iconst 0, 1) := by decide +kernel
theorem dL_corner_35 : decode cL_corner 35 = .ok (.ireturn, 1) := by decide +kernel
theorem dL_at_0 : decode cL_at 0 = .ok (.aload 4, 2) := by decide +kernel
theorem dL_at_2 : decode cL_at 2 = .ok (.iconst 0, 1) := by decide +kernel
theorem dL_at_3 : decode cL_at 3 = .ok (.aload_n 0, 1) := by decide +kernel
theorem dL_at_4 : decode cL_at 4 = .ok (.iload_n 1, 1) := by decide +kernel
theorem dL_at_5 : decode cL_at 5 = .ok (.iload_n 2, 1) := by decide +kernel
theorem dL_at_6 : decode cL_at 6 = .ok (.iload_n 3, 1) := by decide +kernel
theorem dL_at_7 : decode cL_at 7 = .ok (.invokevirtual 23, 3) := by decide +kernel
theorem dL_at_10 : decode cL_at 10 = .ok (.i2l, 1) := by decide +kernel
theorem dL_at_11 : decode cL_at 11 = .ok (.lastore, 1) := by decide +kernel
theorem dL_at_12 : decode cL_at 12 = .ok (.goto 7, 3) := by decide +kernel
theorem dL_at_15 : decode cL_at 15 = .ok (.astore 5, 2) := by decide +kernel
theorem dL_at_17 : decode cL_at 17 = .ok (.iconst 1, 1) := by decide +kernel
theorem dL_at_18 : decode cL_at 18 = .ok (.ireturn, 1) := by decide +kernel
theorem dL_at_19 : decode cL_at 19 = .ok (.iconst 0, 1) := by decide +kernel
theorem dL_at_20 : decode cL_at 20 = .ok (.ireturn, 1) := by decide +kernel
theorem dL_radius_0 : decode cL_radius 0 = .ok (.aload_n 3, 1) := by decide +kernel
theorem dL_radius_1 : decode cL_radius 1 = .ok (.iconst 0, 1) := by decide +kernel
theorem dL_radius_2 : decode cL_radius 2 = .ok (.aload_n 0, 1) := by decide +kernel
theorem dL_radius_3 : decode cL_radius 3 = .ok (.iload_n 1, 1) := by decide +kernel
theorem dL_radius_4 : decode cL_radius 4 = .ok (.iload_n 2, 1) := by decide +kernel
theorem dL_radius_5 : decode cL_radius 5 = .ok (.invokevirtual 27, 3) := by decide +kernel
theorem dL_radius_8 : decode cL_radius 8 = .ok (.i2l, 1) := by decide +kernel
theorem dL_radius_9 : decode cL_radius 9 = .ok (.lastore, 1) := by decide +kernel
theorem dL_radius_10 : decode cL_radius 10 = .ok (.goto 7, 3) := by decide +kernel
theorem dL_radius_13 : decode cL_radius 13 = .ok (.astore 4, 2) := by decide +kernel
theorem dL_radius_15 : decode cL_radius 15 = .ok (.iconst 1, 1) := by decide +kernel
theorem dL_radius_16 : decode cL_radius 16 = .ok (.ireturn, 1) := by decide +kernel
theorem dL_radius_17 : decode cL_radius 17 = .ok (.iconst 0, 1) := by decide +kernel
theorem dL_radius_18 : decode cL_radius 18 = .ok (.ireturn, 1) := by decide +kernel
theorem dL_volume_0 : decode cL_volume 0 = .ok (.aload 4, 2) := by decide +kernel
theorem dL_volume_2 : decode cL_volume 2 = .ok (.iconst 0, 1) := by decide +kernel
theorem dL_volume_3 : decode cL_volume 3 = .ok (.aload_n 0, 1) := by decide +kernel
theorem dL_volume_4 : decode cL_volume 4 = .ok (.iload_n 1, 1) := by decide +kernel
theorem dL_volume_5 : decode cL_volume 5 = .ok (.iload_n 2, 1) := by decide +kernel
theorem dL_volume_6 : decode cL_volume 6 = .ok (.iload_n 3, 1) := by decide +kernel
theorem dL_volume_7 : decode cL_volume 7 = .ok (.invokevirtual 31, 3) := by decide +kernel
theorem dL_volume_10 : decode cL_volume 10 = .ok (.lastore, 1) := by decide +kernel
theorem dL_volume_11 : decode cL_volume 11 = .ok (.goto 7, 3) := by decide +kernel
theorem dL_volume_14 : decode cL_volume 14 = .ok (.astore 5, 2) := by decide +kernel
theorem dL_volume_16 : decode cL_volume 16 = .ok (.iconst 1, 1) := by decide +kernel
theorem dL_volume_17 : decode cL_volume 17 = .ok (.ireturn, 1) := by decide +kernel
theorem dL_volume_18 : decode cL_volume 18 = .ok (.iconst 0, 1) := by decide +kernel
theorem dL_volume_19 : decode cL_volume 19 = .ok (.ireturn, 1) := by decide +kernel
theorem dL_holds_0 : decode cL_holds 0 = .ok (.aload 4, 2) := by decide +kernel
theorem dL_holds_2 : decode cL_holds 2 = .ok (.iconst 0, 1) := by decide +kernel
theorem dL_holds_3 : decode cL_holds 3 = .ok (.aload_n 0, 1) := by decide +kernel
theorem dL_holds_4 : decode cL_holds 4 = .ok (.iload_n 1, 1) := by decide +kernel
theorem dL_holds_5 : decode cL_holds 5 = .ok (.iload_n 2, 1) := by decide +kernel
theorem dL_holds_6 : decode cL_holds 6 = .ok (.iload_n 3, 1) := by decide +kernel
theorem dL_holds_7 : decode cL_holds 7 = .ok (.invokevirtual 35, 3) := by decide +kernel
theorem dL_holds_10 : decode cL_holds 10 = .ok (.lastore, 1) := by decide +kernel
theorem dL_holds_11 : decode cL_holds 11 = .ok (.goto 7, 3) := by decide +kernel
theorem dL_holds_14 : decode cL_holds 14 = .ok (.astore 5, 2) := by decide +kernel
theorem dL_holds_16 : decode cL_holds 16 = .ok (.iconst 1, 1) := by decide +kernel
theorem dL_holds_17 : decode cL_holds 17 = .ok (.ireturn, 1) := by decide +kernel
theorem dL_holds_18 : decode cL_holds 18 = .ok (.iconst 0, 1) := by decide +kernel
theorem dL_holds_19 : decode cL_holds 19 = .ok (.ireturn, 1) := by decide +kernel
theorem dL_enclosed_0 : decode cL_enclosed 0 = .ok (.aload_n 3, 1) := by decide +kernel
theorem dL_enclosed_1 : decode cL_enclosed 1 = .ok (.iconst 0, 1) := by decide +kernel
theorem dL_enclosed_2 : decode cL_enclosed 2 = .ok (.aload_n 0, 1) := by decide +kernel
theorem dL_enclosed_3 : decode cL_enclosed 3 = .ok (.iload_n 1, 1) := by decide +kernel
theorem dL_enclosed_4 : decode cL_enclosed 4 = .ok (.iload_n 2, 1) := by decide +kernel
theorem dL_enclosed_5 : decode cL_enclosed 5 = .ok (.invokevirtual 38, 3) := by decide +kernel
theorem dL_enclosed_8 : decode cL_enclosed 8 = .ok (.lastore, 1) := by decide +kernel
theorem dL_enclosed_9 : decode cL_enclosed 9 = .ok (.goto 7, 3) := by decide +kernel
theorem dL_enclosed_12 : decode cL_enclosed 12 = .ok (.astore 4, 2) := by decide +kernel
theorem dL_enclosed_14 : decode cL_enclosed 14 = .ok (.iconst 1, 1) := by decide +kernel
theorem dL_enclosed_15 : decode cL_enclosed 15 = .ok (.ireturn, 1) := by decide +kernel
theorem dL_enclosed_16 : decode cL_enclosed 16 = .ok (.iconst 0, 1) := by decide +kernel
theorem dL_enclosed_17 : decode cL_enclosed 17 = .ok (.ireturn, 1) := by decide +kernel
theorem dL_wall_0 : decode cL_wall 0 = .ok (.aload_n 3, 1) := by decide +kernel
theorem dL_wall_1 : decode cL_wall 1 = .ok (.iconst 0, 1) := by decide +kernel
theorem dL_wall_2 : decode cL_wall 2 = .ok (.aload_n 0, 1) := by decide +kernel
theorem dL_wall_3 : decode cL_wall 3 = .ok (.iload_n 1, 1) := by decide +kernel
theorem dL_wall_4 : decode cL_wall 4 = .ok (.iload_n 2, 1) := by decide +kernel
theorem dL_wall_5 : decode cL_wall 5 = .ok (.invokevirtual 42, 3) := by decide +kernel
theorem dL_wall_8 : decode cL_wall 8 = .ok (.i2l, 1) := by decide +kernel
theorem dL_wall_9 : decode cL_wall 9 = .ok (.lastore, 1) := by decide +kernel
theorem dL_wall_10 : decode cL_wall 10 = .ok (.goto 11, 3) := by decide +kernel
theorem dL_wall_13 : decode cL_wall 13 = .ok (.astore 4, 2) := by decide +kernel
theorem dL_wall_15 : decode cL_wall 15 = .ok (.iconst 1, 1) := by decide +kernel
theorem dL_wall_16 : decode cL_wall 16 = .ok (.ireturn, 1) := by decide +kernel
theorem dL_wall_17 : decode cL_wall 17 = .ok (.astore 4, 2) := by decide +kernel
theorem dL_wall_19 : decode cL_wall 19 = .ok (.iconst 2, 1) := by decide +kernel
theorem dL_wall_20 : decode cL_wall 20 = .ok (.ireturn, 1) := by decide +kernel
theorem dL_wall_21 : decode cL_wall 21 = .ok (.iconst 0, 1) := by decide +kernel
theorem dL_wall_22 : decode cL_wall 22 = .ok (.ireturn, 1) := by decide +kernel
theorem dL_unlike_0 : decode cL_unlike 0 = .ok (.aload_n 3, 1) := by decide +kernel
theorem dL_unlike_1 : decode cL_unlike 1 = .ok (.iconst 0, 1) := by decide +kernel
theorem dL_unlike_2 : decode cL_unlike 2 = .ok (.aload_n 0, 1) := by decide +kernel
theorem dL_unlike_3 : decode cL_unlike 3 = .ok (.iload_n 1, 1) := by decide +kernel
theorem dL_unlike_4 : decode cL_unlike 4 = .ok (.iload_n 2, 1) := by decide +kernel
theorem dL_unlike_5 : decode cL_unlike 5 = .ok (.invokevirtual 45, 3) := by decide +kernel
theorem dL_unlike_8 : decode cL_unlike 8 = .ok (.i2l, 1) := by decide +kernel
theorem dL_unlike_9 : decode cL_unlike 9 = .ok (.lastore, 1) := by decide +kernel
theorem dL_unlike_10 : decode cL_unlike 10 = .ok (.goto 7, 3) := by decide +kernel
theorem dL_unlike_13 : decode cL_unlike 13 = .ok (.astore 4, 2) := by decide +kernel
theorem dL_unlike_15 : decode cL_unlike 15 = .ok (.iconst 1, 1) := by decide +kernel
theorem dL_unlike_16 : decode cL_unlike 16 = .ok (.ireturn, 1) := by decide +kernel
theorem dL_unlike_17 : decode cL_unlike 17 = .ok (.iconst 0, 1) := by decide +kernel
theorem dL_unlike_18 : decode cL_unlike 18 = .ok (.ireturn, 1) := by decide +kernel
theorem dL_cut_0 : decode cL_cut 0 = .ok (.aload_n 3, 1) := by decide +kernel
theorem dL_cut_1 : decode cL_cut 1 = .ok (.iconst 0, 1) := by decide +kernel
theorem dL_cut_2 : decode cL_cut 2 = .ok (.aload_n 0, 1) := by decide +kernel
theorem dL_cut_3 : decode cL_cut 3 = .ok (.iload_n 1, 1) := by decide +kernel
theorem dL_cut_4 : decode cL_cut 4 = .ok (.iload_n 2, 1) := by decide +kernel
theorem dL_cut_5 : decode cL_cut 5 = .ok (.invokevirtual 48, 3) := by decide +kernel
theorem dL_cut_8 : decode cL_cut 8 = .ok (.ifCond .eq 7, 3) := by decide +kernel
theorem dL_cut_11 : decode cL_cut 11 = .ok (.lconst 1, 1) := by decide +kernel
theorem dL_cut_12 : decode cL_cut 12 = .ok (.goto 4, 3) := by decide +kernel
theorem dL_cut_15 : decode cL_cut 15 = .ok (.lconst 0, 1) := by decide +kernel
theorem dL_cut_16 : decode cL_cut 16 = .ok (.lastore, 1) := by decide +kernel
theorem dL_cut_17 : decode cL_cut 17 = .ok (.goto 7, 3) := by decide +kernel
theorem dL_cut_20 : decode cL_cut 20 = .ok (.astore 4, 2) := by decide +kernel
theorem dL_cut_22 : decode cL_cut 22 = .ok (.iconst 1, 1) := by decide +kernel
theorem dL_cut_23 : decode cL_cut 23 = .ok (.ireturn, 1) := by decide +kernel
theorem dL_cut_24 : decode cL_cut 24 = .ok (.iconst 0, 1) := by decide +kernel
theorem dL_cut_25 : decode cL_cut 25 = .ok (.ireturn, 1) := by decide +kernel
theorem dL_drawn_0 : decode cL_drawn 0 = .ok (.aload 4, 2) := by decide +kernel
theorem dL_drawn_2 : decode cL_drawn 2 = .ok (.iconst 0, 1) := by decide +kernel
theorem dL_drawn_3 : decode cL_drawn 3 = .ok (.aload_n 0, 1) := by decide +kernel
theorem dL_drawn_4 : decode cL_drawn 4 = .ok (.iload_n 1, 1) := by decide +kernel
theorem dL_drawn_5 : decode cL_drawn 5 = .ok (.iload_n 2, 1) := by decide +kernel
theorem dL_drawn_6 : decode cL_drawn 6 = .ok (.iload_n 3, 1) := by decide +kernel
theorem dL_drawn_7 : decode cL_drawn 7 = .ok (.invokevirtual 52, 3) := by decide +kernel
theorem dL_drawn_10 : decode cL_drawn 10 = .ok (.i2l, 1) := by decide +kernel
theorem dL_drawn_11 : decode cL_drawn 11 = .ok (.lastore, 1) := by decide +kernel
theorem dL_drawn_12 : decode cL_drawn 12 = .ok (.goto 7, 3) := by decide +kernel
theorem dL_drawn_15 : decode cL_drawn 15 = .ok (.astore 5, 2) := by decide +kernel
theorem dL_drawn_17 : decode cL_drawn 17 = .ok (.iconst 1, 1) := by decide +kernel
theorem dL_drawn_18 : decode cL_drawn 18 = .ok (.ireturn, 1) := by decide +kernel
theorem dL_drawn_19 : decode cL_drawn 19 = .ok (.iconst 0, 1) := by decide +kernel
theorem dL_drawn_20 : decode cL_drawn 20 = .ok (.ireturn, 1) := by decide +kernel
theorem dL_bound_0 : decode cL_bound 0 = .ok (.aload_n 2, 1) := by decide +kernel
theorem dL_bound_1 : decode cL_bound 1 = .ok (.iconst 0, 1) := by decide +kernel
theorem dL_bound_2 : decode cL_bound 2 = .ok (.aload_n 0, 1) := by decide +kernel
theorem dL_bound_3 : decode cL_bound 3 = .ok (.iload_n 1, 1) := by decide +kernel
theorem dL_bound_4 : decode cL_bound 4 = .ok (.invokevirtual 55, 3) := by decide +kernel
theorem dL_bound_7 : decode cL_bound 7 = .ok (.i2l, 1) := by decide +kernel
theorem dL_bound_8 : decode cL_bound 8 = .ok (.lastore, 1) := by decide +kernel
theorem dL_bound_9 : decode cL_bound 9 = .ok (.goto 9, 3) := by decide +kernel
theorem dL_bound_12 : decode cL_bound 12 = .ok (.astore_n 3, 1) := by decide +kernel
theorem dL_bound_13 : decode cL_bound 13 = .ok (.iconst 1, 1) := by decide +kernel
theorem dL_bound_14 : decode cL_bound 14 = .ok (.ireturn, 1) := by decide +kernel
theorem dL_bound_15 : decode cL_bound 15 = .ok (.astore_n 3, 1) := by decide +kernel
theorem dL_bound_16 : decode cL_bound 16 = .ok (.iconst 2, 1) := by decide +kernel
theorem dL_bound_17 : decode cL_bound 17 = .ok (.ireturn, 1) := by decide +kernel
theorem dL_bound_18 : decode cL_bound 18 = .ok (.iconst 0, 1) := by decide +kernel
theorem dL_bound_19 : decode cL_bound 19 = .ok (.ireturn, 1) := by decide +kernel
theorem dL_size_0 : decode cL_size 0 = .ok (.aload_n 2, 1) := by decide +kernel
theorem dL_size_1 : decode cL_size 1 = .ok (.iconst 0, 1) := by decide +kernel
theorem dL_size_2 : decode cL_size 2 = .ok (.aload_n 0, 1) := by decide +kernel
theorem dL_size_3 : decode cL_size 3 = .ok (.iload_n 1, 1) := by decide +kernel
theorem dL_size_4 : decode cL_size 4 = .ok (.invokevirtual 59, 3) := by decide +kernel
theorem dL_size_7 : decode cL_size 7 = .ok (.i2l, 1) := by decide +kernel
theorem dL_size_8 : decode cL_size 8 = .ok (.lastore, 1) := by decide +kernel
theorem dL_size_9 : decode cL_size 9 = .ok (.goto 6, 3) := by decide +kernel
theorem dL_size_12 : decode cL_size 12 = .ok (.astore_n 3, 1) := by decide +kernel
theorem dL_size_13 : decode cL_size 13 = .ok (.iconst 1, 1) := by decide +kernel
theorem dL_size_14 : decode cL_size 14 = .ok (.ireturn, 1) := by decide +kernel
theorem dL_size_15 : decode cL_size 15 = .ok (.iconst 0, 1) := by decide +kernel
theorem dL_size_16 : decode cL_size 16 = .ok (.ireturn, 1) := by decide +kernel
theorem dL_rim_0 : decode cL_rim 0 = .ok (.aload_n 3, 1) := by decide +kernel
theorem dL_rim_1 : decode cL_rim 1 = .ok (.iconst 0, 1) := by decide +kernel
theorem dL_rim_2 : decode cL_rim 2 = .ok (.aload_n 0, 1) := by decide +kernel
theorem dL_rim_3 : decode cL_rim 3 = .ok (.iload_n 1, 1) := by decide +kernel
theorem dL_rim_4 : decode cL_rim 4 = .ok (.iload_n 2, 1) := by decide +kernel
theorem dL_rim_5 : decode cL_rim 5 = .ok (.invokevirtual 62, 3) := by decide +kernel
theorem dL_rim_8 : decode cL_rim 8 = .ok (.i2l, 1) := by decide +kernel
theorem dL_rim_9 : decode cL_rim 9 = .ok (.lastore, 1) := by decide +kernel
theorem dL_rim_10 : decode cL_rim 10 = .ok (.goto 11, 3) := by decide +kernel
theorem dL_rim_13 : decode cL_rim 13 = .ok (.astore 4, 2) := by decide +kernel
theorem dL_rim_15 : decode cL_rim 15 = .ok (.iconst 1, 1) := by decide +kernel
theorem dL_rim_16 : decode cL_rim 16 = .ok (.ireturn, 1) := by decide +kernel
theorem dL_rim_17 : decode cL_rim 17 = .ok (.astore 4, 2) := by decide +kernel
theorem dL_rim_19 : decode cL_rim 19 = .ok (.iconst 2, 1) := by decide +kernel
theorem dL_rim_20 : decode cL_rim 20 = .ok (.ireturn, 1) := by decide +kernel
theorem dL_rim_21 : decode cL_rim 21 = .ok (.iconst 0, 1) := by decide +kernel
theorem dL_rim_22 : decode cL_rim 22 = .ok (.ireturn, 1) := by decide +kernel
theorem dL_circle_0 : decode cL_circle 0 = .ok (.aload_n 2, 1) := by decide +kernel
theorem dL_circle_1 : decode cL_circle 1 = .ok (.iconst 0, 1) := by decide +kernel
theorem dL_circle_2 : decode cL_circle 2 = .ok (.aload_n 0, 1) := by decide +kernel
theorem dL_circle_3 : decode cL_circle 3 = .ok (.iload_n 1, 1) := by decide +kernel
theorem dL_circle_4 : decode cL_circle 4 = .ok (.invokevirtual 65, 3) := by decide +kernel
theorem dL_circle_7 : decode cL_circle 7 = .ok (.lastore, 1) := by decide +kernel
theorem dL_circle_8 : decode cL_circle 8 = .ok (.goto 9, 3) := by decide +kernel
theorem dL_circle_11 : decode cL_circle 11 = .ok (.astore_n 3, 1) := by decide +kernel
theorem dL_circle_12 : decode cL_circle 12 = .ok (.iconst 1, 1) := by decide +kernel
theorem dL_circle_13 : decode cL_circle 13 = .ok (.ireturn, 1) := by decide +kernel
theorem dL_circle_14 : decode cL_circle 14 = .ok (.astore_n 3, 1) := by decide +kernel
theorem dL_circle_15 : decode cL_circle 15 = .ok (.iconst 2, 1) := by decide +kernel
theorem dL_circle_16 : decode cL_circle 16 = .ok (.ireturn, 1) := by decide +kernel
theorem dL_circle_17 : decode cL_circle 17 = .ok (.iconst 0, 1) := by decide +kernel
theorem dL_circle_18 : decode cL_circle 18 = .ok (.ireturn, 1) := by decide +kernel
theorem dL_curve_0 : decode cL_curve 0 = .ok (.aload_n 1, 1) := by decide +kernel
theorem dL_curve_1 : decode cL_curve 1 = .ok (.iconst 0, 1) := by decide +kernel
theorem dL_curve_2 : decode cL_curve 2 = .ok (.aload_n 0, 1) := by decide +kernel
theorem dL_curve_3 : decode cL_curve 3 = .ok (.invokevirtual 69, 3) := by decide +kernel
theorem dL_curve_6 : decode cL_curve 6 = .ok (.i2l, 1) := by decide +kernel
theorem dL_curve_7 : decode cL_curve 7 = .ok (.lastore, 1) := by decide +kernel
theorem dL_curve_8 : decode cL_curve 8 = .ok (.goto 6, 3) := by decide +kernel
theorem dL_curve_11 : decode cL_curve 11 = .ok (.astore_n 2, 1) := by decide +kernel
theorem dL_curve_12 : decode cL_curve 12 = .ok (.iconst 1, 1) := by decide +kernel
theorem dL_curve_13 : decode cL_curve 13 = .ok (.ireturn, 1) := by decide +kernel
theorem dL_curve_14 : decode cL_curve 14 = .ok (.iconst 0, 1) := by decide +kernel
theorem dL_curve_15 : decode cL_curve 15 = .ok (.ireturn, 1) := by decide +kernel
theorem dL_sherd_0 : decode cL_sherd 0 = .ok (.aload_n 3, 1) := by decide +kernel
theorem dL_sherd_1 : decode cL_sherd 1 = .ok (.iconst 0, 1) := by decide +kernel
theorem dL_sherd_2 : decode cL_sherd 2 = .ok (.aload_n 0, 1) := by decide +kernel
theorem dL_sherd_3 : decode cL_sherd 3 = .ok (.iload_n 1, 1) := by decide +kernel
theorem dL_sherd_4 : decode cL_sherd 4 = .ok (.iload_n 2, 1) := by decide +kernel
theorem dL_sherd_5 : decode cL_sherd 5 = .ok (.invokevirtual 72, 3) := by decide +kernel
theorem dL_sherd_8 : decode cL_sherd 8 = .ok (.i2l, 1) := by decide +kernel
theorem dL_sherd_9 : decode cL_sherd 9 = .ok (.lastore, 1) := by decide +kernel
theorem dL_sherd_10 : decode cL_sherd 10 = .ok (.goto 15, 3) := by decide +kernel
theorem dL_sherd_13 : decode cL_sherd 13 = .ok (.astore 4, 2) := by decide +kernel
theorem dL_sherd_15 : decode cL_sherd 15 = .ok (.iconst 1, 1) := by decide +kernel
theorem dL_sherd_16 : decode cL_sherd 16 = .ok (.ireturn, 1) := by decide +kernel
theorem dL_sherd_17 : decode cL_sherd 17 = .ok (.astore 4, 2) := by decide +kernel
theorem dL_sherd_19 : decode cL_sherd 19 = .ok (.iconst 2, 1) := by decide +kernel
theorem dL_sherd_20 : decode cL_sherd 20 = .ok (.ireturn, 1) := by decide +kernel
theorem dL_sherd_21 : decode cL_sherd 21 = .ok (.astore 4, 2) := by decide +kernel
theorem dL_sherd_23 : decode cL_sherd 23 = .ok (.iconst 3, 1) := by decide +kernel
theorem dL_sherd_24 : decode cL_sherd 24 = .ok (.ireturn, 1) := by decide +kernel
theorem dL_sherd_25 : decode cL_sherd 25 = .ok (.iconst 0, 1) := by decide +kernel
theorem dL_sherd_26 : decode cL_sherd 26 = .ok (.ireturn, 1) := by decide +kernel
theorem dL_vessels_0 : decode cL_vessels 0 = .ok (.aload_n 3, 1) := by decide +kernel
theorem dL_vessels_1 : decode cL_vessels 1 = .ok (.iconst 0, 1) := by decide +kernel
theorem dL_vessels_2 : decode cL_vessels 2 = .ok (.aload_n 0, 1) := by decide +kernel
theorem dL_vessels_3 : decode cL_vessels 3 = .ok (.iload_n 1, 1) := by decide +kernel
theorem dL_vessels_4 : decode cL_vessels 4 = .ok (.iload_n 2, 1) := by decide +kernel
theorem dL_vessels_5 : decode cL_vessels 5 = .ok (.invokevirtual 75, 3) := by decide +kernel
theorem dL_vessels_8 : decode cL_vessels 8 = .ok (.i2l, 1) := by decide +kernel
theorem dL_vessels_9 : decode cL_vessels 9 = .ok (.lastore, 1) := by decide +kernel
theorem dL_vessels_10 : decode cL_vessels 10 = .ok (.goto 7, 3) := by decide +kernel
theorem dL_vessels_13 : decode cL_vessels 13 = .ok (.astore 4, 2) := by decide +kernel
theorem dL_vessels_15 : decode cL_vessels 15 = .ok (.iconst 1, 1) := by decide +kernel
theorem dL_vessels_16 : decode cL_vessels 16 = .ok (.ireturn, 1) := by decide +kernel
theorem dL_vessels_17 : decode cL_vessels 17 = .ok (.iconst 0, 1) := by decide +kernel
theorem dL_vessels_18 : decode cL_vessels 18 = .ok (.ireturn, 1) := by decide +kernel
theorem dL_count_0 : decode cL_count 0 = .ok (.aload_n 2, 1) := by decide +kernel
theorem dL_count_1 : decode cL_count 1 = .ok (.iconst 0, 1) := by decide +kernel
theorem dL_count_2 : decode cL_count 2 = .ok (.aload_n 0, 1) := by decide +kernel
theorem dL_count_3 : decode cL_count 3 = .ok (.iload_n 1, 1) := by decide +kernel
theorem dL_count_4 : decode cL_count 4 = .ok (.invokevirtual 78, 3) := by decide +kernel
theorem dL_count_7 : decode cL_count 7 = .ok (.i2l, 1) := by decide +kernel
theorem dL_count_8 : decode cL_count 8 = .ok (.lastore, 1) := by decide +kernel
theorem dL_count_9 : decode cL_count 9 = .ok (.goto 6, 3) := by decide +kernel
theorem dL_count_12 : decode cL_count 12 = .ok (.astore_n 3, 1) := by decide +kernel
theorem dL_count_13 : decode cL_count 13 = .ok (.iconst 1, 1) := by decide +kernel
theorem dL_count_14 : decode cL_count 14 = .ok (.ireturn, 1) := by decide +kernel
theorem dL_count_15 : decode cL_count 15 = .ok (.iconst 0, 1) := by decide +kernel
theorem dL_count_16 : decode cL_count 16 = .ok (.ireturn, 1) := by decide +kernel
theorem dL_law_0 : decode cL_law 0 = .ok (.new 8, 3) := by decide +kernel
theorem dL_law_3 : decode cL_law 3 = .ok (.dup, 1) := by decide +kernel
theorem dL_law_4 : decode cL_law 4 = .ok (.invokespecial 81, 3) := by decide +kernel
theorem dL_law_7 : decode cL_law 7 = .ok (.astore_n 1, 1) := by decide +kernel
theorem dL_law_8 : decode cL_law 8 = .ok (.new 82, 3) := by decide +kernel
theorem dL_law_11 : decode cL_law 11 = .ok (.dup, 1) := by decide +kernel
theorem dL_law_12 : decode cL_law 12 = .ok (.invokespecial 84, 3) := by decide +kernel
theorem dL_law_15 : decode cL_law 15 = .ok (.astore_n 2, 1) := by decide +kernel
theorem dL_law_16 : decode cL_law 16 = .ok (.iconst 1, 1) := by decide +kernel
theorem dL_law_17 : decode cL_law 17 = .ok (.newarray .long, 2) := by decide +kernel
theorem dL_law_19 : decode cL_law 19 = .ok (.astore_n 3, 1) := by decide +kernel
theorem dL_law_20 : decode cL_law 20 = .ok (.iconst 0, 1) := by decide +kernel
theorem dL_law_21 : decode cL_law 21 = .ok (.istore 4, 2) := by decide +kernel
theorem dL_law_23 : decode cL_law 23 = .ok (.iload 4, 2) := by decide +kernel
theorem dL_law_25 : decode cL_law 25 = .ok (.aload_n 0, 1) := by decide +kernel
theorem dL_law_26 : decode cL_law 26 = .ok (.arraylength, 1) := by decide +kernel
theorem dL_law_27 : decode cL_law 27 = .ok (.iconst 4, 1) := by decide +kernel
theorem dL_law_28 : decode cL_law 28 = .ok (.isub, 1) := by decide +kernel
theorem dL_law_29 : decode cL_law 29 = .ok (.if_icmp .gt 1388, 3) := by decide +kernel
theorem dL_law_32 : decode cL_law 32 = .ok (.aload_n 0, 1) := by decide +kernel
theorem dL_law_33 : decode cL_law 33 = .ok (.iload 4, 2) := by decide +kernel
theorem dL_law_35 : decode cL_law 35 = .ok (.iaload, 1) := by decide +kernel
theorem dL_law_36 : decode cL_law 36 = .ok (.bipush 31, 2) := by decide +kernel
theorem dL_law_38 : decode cL_law 38 = .ok (.iand, 1) := by decide +kernel
theorem dL_law_39 : decode cL_law 39 = .ok (.tableswitch 1372 0 19 #[93, 137, 224, 304, 372, 451, 530, 597, 665, 733, 808, 888, 944, 1000, 1068, 1081, 1136, 1180, 1248, 1316], 93) := by decide +kernel
theorem dL_law_132 : decode cL_law 132 = .ok (.aload_n 1, 1) := by decide +kernel
theorem dL_law_133 : decode cL_law 133 = .ok (.aload_n 3, 1) := by decide +kernel
theorem dL_law_134 : decode cL_law 134 = .ok (.invokestatic 85, 3) := by decide +kernel
theorem dL_law_137 : decode cL_law 137 = .ok (.istore 5, 2) := by decide +kernel
theorem dL_law_139 : decode cL_law 139 = .ok (.aload_n 2, 1) := by decide +kernel
theorem dL_law_140 : decode cL_law 140 = .ok (.invokevirtual 90, 3) := by decide +kernel
theorem dL_law_143 : decode cL_law 143 = .ok (.istore 6, 2) := by decide +kernel
theorem dL_law_145 : decode cL_law 145 = .ok (.aload_n 2, 1) := by decide +kernel
theorem dL_law_146 : decode cL_law 146 = .ok (.invokevirtual 91, 3) := by decide +kernel
theorem dL_law_149 : decode cL_law 149 = .ok (.iload 5, 2) := by decide +kernel
theorem dL_law_151 : decode cL_law 151 = .ok (.if_icmp .eq 5, 3) := by decide +kernel
theorem dL_law_154 : decode cL_law 154 = .ok (.iconst 0, 1) := by decide +kernel
theorem dL_law_155 : decode cL_law 155 = .ok (.ireturn, 1) := by decide +kernel
theorem dL_law_156 : decode cL_law 156 = .ok (.iload 5, 2) := by decide +kernel
theorem dL_law_158 : decode cL_law 158 = .ok (.ifCond .ne 15, 3) := by decide +kernel
theorem dL_law_161 : decode cL_law 161 = .ok (.aload_n 3, 1) := by decide +kernel
theorem dL_law_162 : decode cL_law 162 = .ok (.iconst 0, 1) := by decide +kernel
theorem dL_law_163 : decode cL_law 163 = .ok (.laload, 1) := by decide +kernel
theorem dL_law_164 : decode cL_law 164 = .ok (.iload 6, 2) := by decide +kernel
theorem dL_law_166 : decode cL_law 166 = .ok (.i2l, 1) := by decide +kernel
theorem dL_law_167 : decode cL_law 167 = .ok (.lcmp, 1) := by decide +kernel
theorem dL_law_168 : decode cL_law 168 = .ok (.ifCond .eq 5, 3) := by decide +kernel
theorem dL_law_171 : decode cL_law 171 = .ok (.iconst 0, 1) := by decide +kernel
theorem dL_law_172 : decode cL_law 172 = .ok (.ireturn, 1) := by decide +kernel
theorem dL_law_173 : decode cL_law 173 = .ok (.goto 1238, 3) := by decide +kernel
theorem dL_law_176 : decode cL_law 176 = .ok (.aload_n 1, 1) := by decide +kernel
theorem dL_law_177 : decode cL_law 177 = .ok (.aload_n 0, 1) := by decide +kernel
theorem dL_law_178 : decode cL_law 178 = .ok (.iload 4, 2) := by decide +kernel
theorem dL_law_180 : decode cL_law 180 = .ok (.iconst 1, 1) := by decide +kernel
theorem dL_law_181 : decode cL_law 181 = .ok (.iadd, 1) := by decide +kernel
theorem dL_law_182 : decode cL_law 182 = .ok (.iaload, 1) := by decide +kernel
theorem dL_law_183 : decode cL_law 183 = .ok (.aload_n 0, 1) := by decide +kernel
theorem dL_law_184 : decode cL_law 184 = .ok (.iload 4, 2) := by decide +kernel
theorem dL_law_186 : decode cL_law 186 = .ok (.iconst 2, 1) := by decide +kernel
theorem dL_law_187 : decode cL_law 187 = .ok (.iadd, 1) := by decide +kernel
theorem dL_law_188 : decode cL_law 188 = .ok (.iaload, 1) := by decide +kernel
theorem dL_law_189 : decode cL_law 189 = .ok (.aload_n 0, 1) := by decide +kernel
theorem dL_law_190 : decode cL_law 190 = .ok (.iload 4, 2) := by decide +kernel
theorem dL_law_192 : decode cL_law 192 = .ok (.iconst 3, 1) := by decide +kernel
theorem dL_law_193 : decode cL_law 193 = .ok (.iadd, 1) := by decide +kernel
theorem dL_law_194 : decode cL_law 194 = .ok (.iaload, 1) := by decide +kernel
theorem dL_law_195 : decode cL_law 195 = .ok (.aload_n 3, 1) := by decide +kernel
theorem dL_law_196 : decode cL_law 196 = .ok (.invokestatic 94, 3) := by decide +kernel
theorem dL_law_199 : decode cL_law 199 = .ok (.istore 5, 2) := by decide +kernel
theorem dL_law_201 : decode cL_law 201 = .ok (.aload_n 2, 1) := by decide +kernel
theorem dL_law_202 : decode cL_law 202 = .ok (.aload_n 0, 1) := by decide +kernel
theorem dL_law_203 : decode cL_law 203 = .ok (.iload 4, 2) := by decide +kernel
theorem dL_law_205 : decode cL_law 205 = .ok (.iconst 1, 1) := by decide +kernel
theorem dL_law_206 : decode cL_law 206 = .ok (.iadd, 1) := by decide +kernel
theorem dL_law_207 : decode cL_law 207 = .ok (.iaload, 1) := by decide +kernel
theorem dL_law_208 : decode cL_law 208 = .ok (.aload_n 0, 1) := by decide +kernel
theorem dL_law_209 : decode cL_law 209 = .ok (.iload 4, 2) := by decide +kernel
theorem dL_law_211 : decode cL_law 211 = .ok (.iconst 2, 1) := by decide +kernel
theorem dL_law_212 : decode cL_law 212 = .ok (.iadd, 1) := by decide +kernel
theorem dL_law_213 : decode cL_law 213 = .ok (.iaload, 1) := by decide +kernel
theorem dL_law_214 : decode cL_law 214 = .ok (.aload_n 0, 1) := by decide +kernel
theorem dL_law_215 : decode cL_law 215 = .ok (.iload 4, 2) := by decide +kernel
theorem dL_law_217 : decode cL_law 217 = .ok (.iconst 3, 1) := by decide +kernel
theorem dL_law_218 : decode cL_law 218 = .ok (.iadd, 1) := by decide +kernel
theorem dL_law_219 : decode cL_law 219 = .ok (.iaload, 1) := by decide +kernel
theorem dL_law_220 : decode cL_law 220 = .ok (.invokevirtual 97, 3) := by decide +kernel
theorem dL_law_223 : decode cL_law 223 = .ok (.istore 6, 2) := by decide +kernel
theorem dL_law_225 : decode cL_law 225 = .ok (.aload_n 2, 1) := by decide +kernel
theorem dL_law_226 : decode cL_law 226 = .ok (.invokevirtual 91, 3) := by decide +kernel
theorem dL_law_229 : decode cL_law 229 = .ok (.iload 5, 2) := by decide +kernel
theorem dL_law_231 : decode cL_law 231 = .ok (.if_icmp .eq 5, 3) := by decide +kernel
theorem dL_law_234 : decode cL_law 234 = .ok (.iconst 0, 1) := by decide +kernel
theorem dL_law_235 : decode cL_law 235 = .ok (.ireturn, 1) := by decide +kernel
theorem dL_law_236 : decode cL_law 236 = .ok (.iload 5, 2) := by decide +kernel
theorem dL_law_238 : decode cL_law 238 = .ok (.ifCond .ne 22, 3) := by decide +kernel
theorem dL_law_241 : decode cL_law 241 = .ok (.aload_n 3, 1) := by decide +kernel
theorem dL_law_242 : decode cL_law 242 = .ok (.iconst 0, 1) := by decide +kernel
theorem dL_law_243 : decode cL_law 243 = .ok (.laload, 1) := by decide +kernel
theorem dL_law_244 : decode cL_law 244 = .ok (.iload 6, 2) := by decide +kernel
theorem dL_law_246 : decode cL_law 246 = .ok (.ifCond .eq 7, 3) := by decide +kernel
theorem dL_law_249 : decode cL_law 249 = .ok (.lconst 1, 1) := by decide +kernel
theorem dL_law_250 : decode cL_law 250 = .ok (.goto 4, 3) := by decide +kernel
theorem dL_law_253 : decode cL_law 253 = .ok (.lconst 0, 1) := by decide +kernel
theorem dL_law_254 : decode cL_law 254 = .ok (.lcmp, 1) := by decide +kernel
theorem dL_law_255 : decode cL_law 255 = .ok (.ifCond .eq 5, 3) := by decide +kernel
theorem dL_law_258 : decode cL_law 258 = .ok (.iconst 0, 1) := by decide +kernel
theorem dL_law_259 : decode cL_law 259 = .ok (.ireturn, 1) := by decide +kernel
theorem dL_law_260 : decode cL_law 260 = .ok (.goto 1151, 3) := by decide +kernel
theorem dL_law_263 : decode cL_law 263 = .ok (.aload_n 1, 1) := by decide +kernel
theorem dL_law_264 : decode cL_law 264 = .ok (.aload_n 0, 1) := by decide +kernel
theorem dL_law_265 : decode cL_law 265 = .ok (.iload 4, 2) := by decide +kernel
