theorem dX3_enclosed_32 : decode cX3_enclosed 32 = .ok (.lreturn, 1) := by decide +kernel
theorem dX3_enclosed_33 : decode cX3_enclosed 33 = .ok (.aload_n 0, 1) := by decide +kernel
theorem dX3_enclosed_34 : decode cX3_enclosed 34 = .ok (.iload_n 1, 1) := by decide +kernel
theorem dX3_enclosed_35 : decode cX3_enclosed 35 = .ok (.iload_n 2, 1) := by decide +kernel
theorem dX3_enclosed_36 : decode cX3_enclosed 36 = .ok (.invokevirtual 127, 3) := by decide +kernel
theorem dX3_enclosed_39 : decode cX3_enclosed 39 = .ok (.lreturn, 1) := by decide +kernel
theorem dX3_wall_0 : decode cX3_wall 0 = .ok (.aload_n 0, 1) := by decide +kernel
theorem dX3_wall_1 : decode cX3_wall 1 = .ok (.aload_n 0, 1) := by decide +kernel
theorem dX3_wall_2 : decode cX3_wall 2 = .ok (.iload_n 1, 1) := by decide +kernel
theorem dX3_wall_3 : decode cX3_wall 3 = .ok (.invokevirtual 70, 3) := by decide +kernel
theorem dX3_wall_6 : decode cX3_wall 6 = .ok (.ifCond .ne 7, 3) := by decide +kernel
theorem dX3_wall_9 : decode cX3_wall 9 = .ok (.iconst 1, 1) := by decide +kernel
theorem dX3_wall_10 : decode cX3_wall 10 = .ok (.goto 4, 3) := by decide +kernel
theorem dX3_wall_13 : decode cX3_wall 13 = .ok (.iconst 0, 1) := by decide +kernel
theorem dX3_wall_14 : decode cX3_wall 14 = .ok (.iload_n 2, 1) := by decide +kernel
theorem dX3_wall_15 : decode cX3_wall 15 = .ok (.iconst 0, 1) := by decide +kernel
theorem dX3_wall_16 : decode cX3_wall 16 = .ok (.bipush 50, 2) := by decide +kernel
theorem dX3_wall_18 : decode cX3_wall 18 = .ok (.invokestatic 55, 3) := by decide +kernel
theorem dX3_wall_21 : decode cX3_wall 21 = .ok (.ifCond .ne 7, 3) := by decide +kernel
theorem dX3_wall_24 : decode cX3_wall 24 = .ok (.iconst 1, 1) := by decide +kernel
theorem dX3_wall_25 : decode cX3_wall 25 = .ok (.goto 4, 3) := by decide +kernel
theorem dX3_wall_28 : decode cX3_wall 28 = .ok (.iconst 0, 1) := by decide +kernel
theorem dX3_wall_29 : decode cX3_wall 29 = .ok (.iconst 0, 1) := by decide +kernel
theorem dX3_wall_30 : decode cX3_wall 30 = .ok (.invokevirtual 59, 3) := by decide +kernel
theorem dX3_wall_33 : decode cX3_wall 33 = .ok (.ifCond .eq 5, 3) := by decide +kernel
theorem dX3_wall_36 : decode cX3_wall 36 = .ok (.iconst 0, 1) := by decide +kernel
theorem dX3_wall_37 : decode cX3_wall 37 = .ok (.ireturn, 1) := by decide +kernel
theorem dX3_wall_38 : decode cX3_wall 38 = .ok (.aload_n 0, 1) := by decide +kernel
theorem dX3_wall_39 : decode cX3_wall 39 = .ok (.getfield 23, 3) := by decide +kernel
theorem dX3_wall_42 : decode cX3_wall 42 = .ok (.iload_n 1, 1) := by decide +kernel
theorem dX3_wall_43 : decode cX3_wall 43 = .ok (.iaload, 1) := by decide +kernel
theorem dX3_wall_44 : decode cX3_wall 44 = .ok (.istore_n 3, 1) := by decide +kernel
theorem dX3_wall_45 : decode cX3_wall 45 = .ok (.aload_n 0, 1) := by decide +kernel
theorem dX3_wall_46 : decode cX3_wall 46 = .ok (.getfield 23, 3) := by decide +kernel
theorem dX3_wall_49 : decode cX3_wall 49 = .ok (.iload_n 1, 1) := by decide +kernel
theorem dX3_wall_50 : decode cX3_wall 50 = .ok (.iload_n 2, 1) := by decide +kernel
theorem dX3_wall_51 : decode cX3_wall 51 = .ok (.iastore, 1) := by decide +kernel
theorem dX3_wall_52 : decode cX3_wall 52 = .ok (.iload_n 3, 1) := by decide +kernel
theorem dX3_wall_53 : decode cX3_wall 53 = .ok (.ireturn, 1) := by decide +kernel
theorem dX3_unlike_0 : decode cX3_unlike 0 = .ok (.aload_n 0, 1) := by decide +kernel
theorem dX3_unlike_1 : decode cX3_unlike 1 = .ok (.aload_n 0, 1) := by decide +kernel
theorem dX3_unlike_2 : decode cX3_unlike 2 = .ok (.iload_n 1, 1) := by decide +kernel
theorem dX3_unlike_3 : decode cX3_unlike 3 = .ok (.invokevirtual 70, 3) := by decide +kernel
theorem dX3_unlike_6 : decode cX3_unlike 6 = .ok (.ifCond .eq 11, 3) := by decide +kernel
theorem dX3_unlike_9 : decode cX3_unlike 9 = .ok (.aload_n 0, 1) := by decide +kernel
theorem dX3_unlike_10 : decode cX3_unlike 10 = .ok (.iload_n 2, 1) := by decide +kernel
theorem dX3_unlike_11 : decode cX3_unlike 11 = .ok (.invokevirtual 70, 3) := by decide +kernel
theorem dX3_unlike_14 : decode cX3_unlike 14 = .ok (.ifCond .ne 7, 3) := by decide +kernel
theorem dX3_unlike_17 : decode cX3_unlike 17 = .ok (.iconst 1, 1) := by decide +kernel
theorem dX3_unlike_18 : decode cX3_unlike 18 = .ok (.goto 4, 3) := by decide +kernel
theorem dX3_unlike_21 : decode cX3_unlike 21 = .ok (.iconst 0, 1) := by decide +kernel
theorem dX3_unlike_22 : decode cX3_unlike 22 = .ok (.iconst 0, 1) := by decide +kernel
theorem dX3_unlike_23 : decode cX3_unlike 23 = .ok (.iconst 0, 1) := by decide +kernel
theorem dX3_unlike_24 : decode cX3_unlike 24 = .ok (.invokevirtual 59, 3) := by decide +kernel
theorem dX3_unlike_27 : decode cX3_unlike 27 = .ok (.ifCond .eq 5, 3) := by decide +kernel
theorem dX3_unlike_30 : decode cX3_unlike 30 = .ok (.iconst 0, 1) := by decide +kernel
theorem dX3_unlike_31 : decode cX3_unlike 31 = .ok (.ireturn, 1) := by decide +kernel
theorem dX3_unlike_32 : decode cX3_unlike 32 = .ok (.iconst 0, 1) := by decide +kernel
theorem dX3_unlike_33 : decode cX3_unlike 33 = .ok (.istore_n 3, 1) := by decide +kernel
theorem dX3_unlike_34 : decode cX3_unlike 34 = .ok (.iconst 0, 1) := by decide +kernel
theorem dX3_unlike_35 : decode cX3_unlike 35 = .ok (.istore 4, 2) := by decide +kernel
theorem dX3_unlike_37 : decode cX3_unlike 37 = .ok (.iload 4, 2) := by decide +kernel
theorem dX3_unlike_39 : decode cX3_unlike 39 = .ok (.sipush 400, 3) := by decide +kernel
theorem dX3_unlike_42 : decode cX3_unlike 42 = .ok (.if_icmp .gt 68, 3) := by decide +kernel
theorem dX3_unlike_45 : decode cX3_unlike 45 = .ok (.aload_n 0, 1) := by decide +kernel
theorem dX3_unlike_46 : decode cX3_unlike 46 = .ok (.iload_n 1, 1) := by decide +kernel
theorem dX3_unlike_47 : decode cX3_unlike 47 = .ok (.iload 4, 2) := by decide +kernel
theorem dX3_unlike_49 : decode cX3_unlike 49 = .ok (.invokevirtual 81, 3) := by decide +kernel
theorem dX3_unlike_52 : decode cX3_unlike 52 = .ok (.istore 5, 2) := by decide +kernel
theorem dX3_unlike_54 : decode cX3_unlike 54 = .ok (.aload_n 0, 1) := by decide +kernel
theorem dX3_unlike_55 : decode cX3_unlike 55 = .ok (.iload_n 2, 1) := by decide +kernel
theorem dX3_unlike_56 : decode cX3_unlike 56 = .ok (.iload 4, 2) := by decide +kernel
theorem dX3_unlike_58 : decode cX3_unlike 58 = .ok (.invokevirtual 81, 3) := by decide +kernel
theorem dX3_unlike_61 : decode cX3_unlike 61 = .ok (.istore 6, 2) := by decide +kernel
theorem dX3_unlike_63 : decode cX3_unlike 63 = .ok (.iload 5, 2) := by decide +kernel
theorem dX3_unlike_65 : decode cX3_unlike 65 = .ok (.ifCond .ge 7, 3) := by decide +kernel
theorem dX3_unlike_68 : decode cX3_unlike 68 = .ok (.iconst 0, 1) := by decide +kernel
theorem dX3_unlike_69 : decode cX3_unlike 69 = .ok (.goto 5, 3) := by decide +kernel
theorem dX3_unlike_72 : decode cX3_unlike 72 = .ok (.iload 5, 2) := by decide +kernel
theorem dX3_unlike_74 : decode cX3_unlike 74 = .ok (.iload 6, 2) := by decide +kernel
theorem dX3_unlike_76 : decode cX3_unlike 76 = .ok (.ifCond .ge 7, 3) := by decide +kernel
theorem dX3_unlike_79 : decode cX3_unlike 79 = .ok (.iconst 0, 1) := by decide +kernel
theorem dX3_unlike_80 : decode cX3_unlike 80 = .ok (.goto 5, 3) := by decide +kernel
theorem dX3_unlike_83 : decode cX3_unlike 83 = .ok (.iload 6, 2) := by decide +kernel
theorem dX3_unlike_85 : decode cX3_unlike 85 = .ok (.isub, 1) := by decide +kernel
theorem dX3_unlike_86 : decode cX3_unlike 86 = .ok (.istore 7, 2) := by decide +kernel
theorem dX3_unlike_88 : decode cX3_unlike 88 = .ok (.iload_n 3, 1) := by decide +kernel
theorem dX3_unlike_89 : decode cX3_unlike 89 = .ok (.iload 7, 2) := by decide +kernel
theorem dX3_unlike_91 : decode cX3_unlike 91 = .ok (.ifCond .ge 9, 3) := by decide +kernel
theorem dX3_unlike_94 : decode cX3_unlike 94 = .ok (.iload 7, 2) := by decide +kernel
theorem dX3_unlike_96 : decode cX3_unlike 96 = .ok (.ineg, 1) := by decide +kernel
theorem dX3_unlike_97 : decode cX3_unlike 97 = .ok (.goto 5, 3) := by decide +kernel
theorem dX3_unlike_100 : decode cX3_unlike 100 = .ok (.iload 7, 2) := by decide +kernel
theorem dX3_unlike_102 : decode cX3_unlike 102 = .ok (.iadd, 1) := by decide +kernel
theorem dX3_unlike_103 : decode cX3_unlike 103 = .ok (.istore_n 3, 1) := by decide +kernel
theorem dX3_unlike_104 : decode cX3_unlike 104 = .ok (.iinc 4 1, 3) := by decide +kernel
theorem dX3_unlike_107 : decode cX3_unlike 107 = .ok (.goto (-70), 3) := by decide +kernel
theorem dX3_unlike_110 : decode cX3_unlike 110 = .ok (.iload_n 3, 1) := by decide +kernel
theorem dX3_unlike_111 : decode cX3_unlike 111 = .ok (.ireturn, 1) := by decide +kernel
theorem dX3_cut_0 : decode cX3_cut 0 = .ok (.aload_n 0, 1) := by decide +kernel
theorem dX3_cut_1 : decode cX3_cut 1 = .ok (.aload_n 0, 1) := by decide +kernel
theorem dX3_cut_2 : decode cX3_cut 2 = .ok (.iload_n 1, 1) := by decide +kernel
theorem dX3_cut_3 : decode cX3_cut 3 = .ok (.invokevirtual 70, 3) := by decide +kernel
theorem dX3_cut_6 : decode cX3_cut 6 = .ok (.ifCond .ne 7, 3) := by decide +kernel
theorem dX3_cut_9 : decode cX3_cut 9 = .ok (.iconst 1, 1) := by decide +kernel
theorem dX3_cut_10 : decode cX3_cut 10 = .ok (.goto 4, 3) := by decide +kernel
theorem dX3_cut_13 : decode cX3_cut 13 = .ok (.iconst 0, 1) := by decide +kernel
theorem dX3_cut_14 : decode cX3_cut 14 = .ok (.iconst 0, 1) := by decide +kernel
theorem dX3_cut_15 : decode cX3_cut 15 = .ok (.iconst 0, 1) := by decide +kernel
theorem dX3_cut_16 : decode cX3_cut 16 = .ok (.invokevirtual 59, 3) := by decide +kernel
theorem dX3_cut_19 : decode cX3_cut 19 = .ok (.ifCond .eq 5, 3) := by decide +kernel
theorem dX3_cut_22 : decode cX3_cut 22 = .ok (.iconst 0, 1) := by decide +kernel
theorem dX3_cut_23 : decode cX3_cut 23 = .ok (.ireturn, 1) := by decide +kernel
theorem dX3_cut_24 : decode cX3_cut 24 = .ok (.aload_n 0, 1) := by decide +kernel
theorem dX3_cut_25 : decode cX3_cut 25 = .ok (.getfield 7, 3) := by decide +kernel
theorem dX3_cut_28 : decode cX3_cut 28 = .ok (.iload_n 1, 1) := by decide +kernel
theorem dX3_cut_29 : decode cX3_cut 29 = .ok (.iaload, 1) := by decide +kernel
theorem dX3_cut_30 : decode cX3_cut 30 = .ok (.istore_n 3, 1) := by decide +kernel
theorem dX3_cut_31 : decode cX3_cut 31 = .ok (.aload_n 0, 1) := by decide +kernel
theorem dX3_cut_32 : decode cX3_cut 32 = .ok (.getfield 19, 3) := by decide +kernel
theorem dX3_cut_35 : decode cX3_cut 35 = .ok (.iload_n 1, 1) := by decide +kernel
theorem dX3_cut_36 : decode cX3_cut 36 = .ok (.baload, 1) := by decide +kernel
theorem dX3_cut_37 : decode cX3_cut 37 = .ok (.ifCond .ne 29, 3) := by decide +kernel
theorem dX3_cut_40 : decode cX3_cut 40 = .ok (.iload_n 3, 1) := by decide +kernel
theorem dX3_cut_41 : decode cX3_cut 41 = .ok (.ifCond .eq 25, 3) := by decide +kernel
theorem dX3_cut_44 : decode cX3_cut 44 = .ok (.iload_n 2, 1) := by decide +kernel
theorem dX3_cut_45 : decode cX3_cut 45 = .ok (.aload_n 0, 1) := by decide +kernel
theorem dX3_cut_46 : decode cX3_cut 46 = .ok (.iload_n 1, 1) := by decide +kernel
theorem dX3_cut_47 : decode cX3_cut 47 = .ok (.iconst 0, 1) := by decide +kernel
theorem dX3_cut_48 : decode cX3_cut 48 = .ok (.invokevirtual 63, 3) := by decide +kernel
theorem dX3_cut_51 : decode cX3_cut 51 = .ok (.if_icmp .le 15, 3) := by decide +kernel
theorem dX3_cut_54 : decode cX3_cut 54 = .ok (.iload_n 2, 1) := by decide +kernel
theorem dX3_cut_55 : decode cX3_cut 55 = .ok (.aload_n 0, 1) := by decide +kernel
theorem dX3_cut_56 : decode cX3_cut 56 = .ok (.iload_n 1, 1) := by decide +kernel
theorem dX3_cut_57 : decode cX3_cut 57 = .ok (.iload_n 3, 1) := by decide +kernel
theorem dX3_cut_58 : decode cX3_cut 58 = .ok (.iconst 1, 1) := by decide +kernel
theorem dX3_cut_59 : decode cX3_cut 59 = .ok (.isub, 1) := by decide +kernel
theorem dX3_cut_60 : decode cX3_cut 60 = .ok (.invokevirtual 63, 3) := by decide +kernel
theorem dX3_cut_63 : decode cX3_cut 63 = .ok (.if_icmp .lt 5, 3) := by decide +kernel
theorem dX3_cut_66 : decode cX3_cut 66 = .ok (.iconst 0, 1) := by decide +kernel
theorem dX3_cut_67 : decode cX3_cut 67 = .ok (.ireturn, 1) := by decide +kernel
theorem dX3_cut_68 : decode cX3_cut 68 = .ok (.aload_n 0, 1) := by decide +kernel
theorem dX3_cut_69 : decode cX3_cut 69 = .ok (.iload_n 1, 1) := by decide +kernel
theorem dX3_cut_70 : decode cX3_cut 70 = .ok (.iload_n 2, 1) := by decide +kernel
theorem dX3_cut_71 : decode cX3_cut 71 = .ok (.invokevirtual 81, 3) := by decide +kernel
theorem dX3_cut_74 : decode cX3_cut 74 = .ok (.istore 4, 2) := by decide +kernel
theorem dX3_cut_76 : decode cX3_cut 76 = .ok (.aload_n 0, 1) := by decide +kernel
theorem dX3_cut_77 : decode cX3_cut 77 = .ok (.iload_n 1, 1) := by decide +kernel
theorem dX3_cut_78 : decode cX3_cut 78 = .ok (.aload_n 0, 1) := by decide +kernel
theorem dX3_cut_79 : decode cX3_cut 79 = .ok (.getfield 7, 3) := by decide +kernel
theorem dX3_cut_82 : decode cX3_cut 82 = .ok (.iload_n 1, 1) := by decide +kernel
theorem dX3_cut_83 : decode cX3_cut 83 = .ok (.iaload, 1) := by decide +kernel
theorem dX3_cut_84 : decode cX3_cut 84 = .ok (.iconst 1, 1) := by decide +kernel
theorem dX3_cut_85 : decode cX3_cut 85 = .ok (.isub, 1) := by decide +kernel
theorem dX3_cut_86 : decode cX3_cut 86 = .ok (.invokevirtual 63, 3) := by decide +kernel
theorem dX3_cut_89 : decode cX3_cut 89 = .ok (.iload_n 2, 1) := by decide +kernel
theorem dX3_cut_90 : decode cX3_cut 90 = .ok (.if_icmp .le 16, 3) := by decide +kernel
theorem dX3_cut_93 : decode cX3_cut 93 = .ok (.aload_n 0, 1) := by decide +kernel
theorem dX3_cut_94 : decode cX3_cut 94 = .ok (.getfield 7, 3) := by decide +kernel
theorem dX3_cut_97 : decode cX3_cut 97 = .ok (.iload_n 1, 1) := by decide +kernel
theorem dX3_cut_98 : decode cX3_cut 98 = .ok (.dup2, 1) := by decide +kernel
theorem dX3_cut_99 : decode cX3_cut 99 = .ok (.iaload, 1) := by decide +kernel
theorem dX3_cut_100 : decode cX3_cut 100 = .ok (.iconst 1, 1) := by decide +kernel
theorem dX3_cut_101 : decode cX3_cut 101 = .ok (.isub, 1) := by decide +kernel
theorem dX3_cut_102 : decode cX3_cut 102 = .ok (.iastore, 1) := by decide +kernel
theorem dX3_cut_103 : decode cX3_cut 103 = .ok (.goto (-27), 3) := by decide +kernel
theorem dX3_cut_106 : decode cX3_cut 106 = .ok (.aload_n 0, 1) := by decide +kernel
theorem dX3_cut_107 : decode cX3_cut 107 = .ok (.iload_n 1, 1) := by decide +kernel
theorem dX3_cut_108 : decode cX3_cut 108 = .ok (.aload_n 0, 1) := by decide +kernel
theorem dX3_cut_109 : decode cX3_cut 109 = .ok (.getfield 7, 3) := by decide +kernel
theorem dX3_cut_112 : decode cX3_cut 112 = .ok (.iload_n 1, 1) := by decide +kernel
theorem dX3_cut_113 : decode cX3_cut 113 = .ok (.iaload, 1) := by decide +kernel
theorem dX3_cut_114 : decode cX3_cut 114 = .ok (.iconst 1, 1) := by decide +kernel
theorem dX3_cut_115 : decode cX3_cut 115 = .ok (.isub, 1) := by decide +kernel
theorem dX3_cut_116 : decode cX3_cut 116 = .ok (.invokevirtual 63, 3) := by decide +kernel
theorem dX3_cut_119 : decode cX3_cut 119 = .ok (.iload_n 2, 1) := by decide +kernel
theorem dX3_cut_120 : decode cX3_cut 120 = .ok (.if_icmp .ge 11, 3) := by decide +kernel
theorem dX3_cut_123 : decode cX3_cut 123 = .ok (.aload_n 0, 1) := by decide +kernel
theorem dX3_cut_124 : decode cX3_cut 124 = .ok (.iload_n 1, 1) := by decide +kernel
theorem dX3_cut_125 : decode cX3_cut 125 = .ok (.iload_n 2, 1) := by decide +kernel
theorem dX3_cut_126 : decode cX3_cut 126 = .ok (.iload 4, 2) := by decide +kernel
theorem dX3_cut_128 : decode cX3_cut 128 = .ok (.invokevirtual 77, 3) := by decide +kernel
theorem dX3_cut_131 : decode cX3_cut 131 = .ok (.aload_n 0, 1) := by decide +kernel
theorem dX3_cut_132 : decode cX3_cut 132 = .ok (.getfield 19, 3) := by decide +kernel
theorem dX3_cut_135 : decode cX3_cut 135 = .ok (.iload_n 1, 1) := by decide +kernel
theorem dX3_cut_136 : decode cX3_cut 136 = .ok (.iconst 1, 1) := by decide +kernel
theorem dX3_cut_137 : decode cX3_cut 137 = .ok (.bastore, 1) := by decide +kernel
theorem dX3_cut_138 : decode cX3_cut 138 = .ok (.iconst 1, 1) := by decide +kernel
theorem dX3_cut_139 : decode cX3_cut 139 = .ok (.ireturn, 1) := by decide +kernel
theorem dX3_pointCount_0 : decode cX3_pointCount 0 = .ok (.aload_n 0, 1) := by decide +kernel
theorem dX3_pointCount_1 : decode cX3_pointCount 1 = .ok (.getfield 7, 3) := by decide +kernel
theorem dX3_pointCount_4 : decode cX3_pointCount 4 = .ok (.iload_n 1, 1) := by decide +kernel
theorem dX3_pointCount_5 : decode cX3_pointCount 5 = .ok (.iaload, 1) := by decide +kernel
theorem dX3_pointCount_6 : decode cX3_pointCount 6 = .ok (.istore_n 2, 1) := by decide +kernel
theorem dX3_pointCount_7 : decode cX3_pointCount 7 = .ok (.iconst 0, 1) := by decide +kernel
theorem dX3_pointCount_8 : decode cX3_pointCount 8 = .ok (.istore_n 3, 1) := by decide +kernel
theorem dX3_pointCount_9 : decode cX3_pointCount 9 = .ok (.iload_n 3, 1) := by decide +kernel
theorem dX3_pointCount_10 : decode cX3_pointCount 10 = .ok (.aload_n 0, 1) := by decide +kernel
theorem dX3_pointCount_11 : decode cX3_pointCount 11 = .ok (.getfield 7, 3) := by decide +kernel
theorem dX3_pointCount_14 : decode cX3_pointCount 14 = .ok (.iload_n 1, 1) := by decide +kernel
theorem dX3_pointCount_15 : decode cX3_pointCount 15 = .ok (.iaload, 1) := by decide +kernel
theorem dX3_pointCount_16 : decode cX3_pointCount 16 = .ok (.if_icmp .ge 26, 3) := by decide +kernel
theorem dX3_pointCount_19 : decode cX3_pointCount 19 = .ok (.iload_n 2, 1) := by decide +kernel
theorem dX3_pointCount_20 : decode cX3_pointCount 20 = .ok (.aload_n 0, 1) := by decide +kernel
theorem dX3_pointCount_21 : decode cX3_pointCount 21 = .ok (.iload_n 1, 1) := by decide +kernel
theorem dX3_pointCount_22 : decode cX3_pointCount 22 = .ok (.iload_n 3, 1) := by decide +kernel
theorem dX3_pointCount_23 : decode cX3_pointCount 23 = .ok (.invokevirtual 67, 3) := by decide +kernel
theorem dX3_pointCount_26 : decode cX3_pointCount 26 = .ok (.ifCond .le 7, 3) := by decide +kernel
theorem dX3_pointCount_29 : decode cX3_pointCount 29 = .ok (.iconst 1, 1) := by decide +kernel
theorem dX3_pointCount_30 : decode cX3_pointCount 30 = .ok (.goto 4, 3) := by decide +kernel
theorem dX3_pointCount_33 : decode cX3_pointCount 33 = .ok (.iconst 0, 1) := by decide +kernel
theorem dX3_pointCount_34 : decode cX3_pointCount 34 = .ok (.iadd, 1) := by decide +kernel
theorem dX3_pointCount_35 : decode cX3_pointCount 35 = .ok (.istore_n 2, 1) := by decide +kernel
theorem dX3_pointCount_36 : decode cX3_pointCount 36 = .ok (.iinc 3 1, 3) := by decide +kernel
theorem dX3_pointCount_39 : decode cX3_pointCount 39 = .ok (.goto (-30), 3) := by decide +kernel
theorem dX3_pointCount_42 : decode cX3_pointCount 42 = .ok (.iload_n 2, 1) := by decide +kernel
theorem dX3_pointCount_43 : decode cX3_pointCount 43 = .ok (.ireturn, 1) := by decide +kernel
theorem dX3_drawn_0 : decode cX3_drawn 0 = .ok (.aload_n 0, 1) := by decide +kernel
theorem dX3_drawn_1 : decode cX3_drawn 1 = .ok (.aload_n 0, 1) := by decide +kernel
theorem dX3_drawn_2 : decode cX3_drawn 2 = .ok (.iload_n 1, 1) := by decide +kernel
theorem dX3_drawn_3 : decode cX3_drawn 3 = .ok (.invokevirtual 70, 3) := by decide +kernel
theorem dX3_drawn_6 : decode cX3_drawn 6 = .ok (.ifCond .eq 27, 3) := by decide +kernel
theorem dX3_drawn_9 : decode cX3_drawn 9 = .ok (.iload_n 2, 1) := by decide +kernel
theorem dX3_drawn_10 : decode cX3_drawn 10 = .ok (.iconst (-1), 1) := by decide +kernel
theorem dX3_drawn_11 : decode cX3_drawn 11 = .ok (.aload_n 0, 1) := by decide +kernel
theorem dX3_drawn_12 : decode cX3_drawn 12 = .ok (.iload_n 1, 1) := by decide +kernel
theorem dX3_drawn_13 : decode cX3_drawn 13 = .ok (.invokevirtual 131, 3) := by decide +kernel
theorem dX3_drawn_16 : decode cX3_drawn 16 = .ok (.iconst 1, 1) := by decide +kernel
theorem dX3_drawn_17 : decode cX3_drawn 17 = .ok (.isub, 1) := by decide +kernel
theorem dX3_drawn_18 : decode cX3_drawn 18 = .ok (.invokestatic 55, 3) := by decide +kernel
theorem dX3_drawn_21 : decode cX3_drawn 21 = .ok (.ifCond .eq 12, 3) := by decide +kernel
theorem dX3_drawn_24 : decode cX3_drawn 24 = .ok (.iload_n 3, 1) := by decide +kernel
theorem dX3_drawn_25 : decode cX3_drawn 25 = .ok (.iconst 0, 1) := by decide +kernel
theorem dX3_drawn_26 : decode cX3_drawn 26 = .ok (.iconst 1, 1) := by decide +kernel
theorem dX3_drawn_27 : decode cX3_drawn 27 = .ok (.invokestatic 55, 3) := by decide +kernel
theorem dX3_drawn_30 : decode cX3_drawn 30 = .ok (.ifCond .ne 7, 3) := by decide +kernel
theorem dX3_drawn_33 : decode cX3_drawn 33 = .ok (.iconst 1, 1) := by decide +kernel
theorem dX3_drawn_34 : decode cX3_drawn 34 = .ok (.goto 4, 3) := by decide +kernel
theorem dX3_drawn_37 : decode cX3_drawn 37 = .ok (.iconst 0, 1) := by decide +kernel
theorem dX3_drawn_38 : decode cX3_drawn 38 = .ok (.iconst 0, 1) := by decide +kernel
theorem dX3_drawn_39 : decode cX3_drawn 39 = .ok (.iconst 0, 1) := by decide +kernel
theorem dX3_drawn_40 : decode cX3_drawn 40 = .ok (.invokevirtual 59, 3) := by decide +kernel
theorem dX3_drawn_43 : decode cX3_drawn 43 = .ok (.ifCond .eq 5, 3) := by decide +kernel
theorem dX3_drawn_46 : decode cX3_drawn 46 = .ok (.iconst 0, 1) := by decide +kernel
theorem dX3_drawn_47 : decode cX3_drawn 47 = .ok (.ireturn, 1) := by decide +kernel
theorem dX3_drawn_48 : decode cX3_drawn 48 = .ok (.iload_n 2, 1) := by decide +kernel
theorem dX3_drawn_49 : decode cX3_drawn 49 = .ok (.iconst (-1), 1) := by decide +kernel
theorem dX3_drawn_50 : decode cX3_drawn 50 = .ok (.if_icmp .ne 9, 3) := by decide +kernel
theorem dX3_drawn_53 : decode cX3_drawn 53 = .ok (.aload_n 0, 1) := by decide +kernel
theorem dX3_drawn_54 : decode cX3_drawn 54 = .ok (.iload_n 1, 1) := by decide +kernel
theorem dX3_drawn_55 : decode cX3_drawn 55 = .ok (.invokevirtual 131, 3) := by decide +kernel
theorem dX3_drawn_58 : decode cX3_drawn 58 = .ok (.ireturn, 1) := by decide +kernel
theorem dX3_drawn_59 : decode cX3_drawn 59 = .ok (.aload_n 0, 1) := by decide +kernel
theorem dX3_drawn_60 : decode cX3_drawn 60 = .ok (.getfield 7, 3) := by decide +kernel
theorem dX3_drawn_63 : decode cX3_drawn 63 = .ok (.iload_n 1, 1) := by decide +kernel
theorem dX3_drawn_64 : decode cX3_drawn 64 = .ok (.iaload, 1) := by decide +kernel
theorem dX3_drawn_65 : decode cX3_drawn 65 = .ok (.istore 4, 2) := by decide +kernel
theorem dX3_drawn_67 : decode cX3_drawn 67 = .ok (.iload_n 2, 1) := by decide +kernel
theorem dX3_drawn_68 : decode cX3_drawn 68 = .ok (.iload 4, 2) := by decide +kernel
theorem dX3_drawn_70 : decode cX3_drawn 70 = .ok (.if_icmp .ge 34, 3) := by decide +kernel
theorem dX3_drawn_73 : decode cX3_drawn 73 = .ok (.iload_n 3, 1) := by decide +kernel
theorem dX3_drawn_74 : decode cX3_drawn 74 = .ok (.ifCond .ne 18, 3) := by decide +kernel
theorem dX3_drawn_77 : decode cX3_drawn 77 = .ok (.aload_n 0, 1) := by decide +kernel
theorem dX3_drawn_78 : decode cX3_drawn 78 = .ok (.iload_n 1, 1) := by decide +kernel
theorem dX3_drawn_79 : decode cX3_drawn 79 = .ok (.iload 4, 2) := by decide +kernel
theorem dX3_drawn_81 : decode cX3_drawn 81 = .ok (.iconst 1, 1) := by decide +kernel
theorem dX3_drawn_82 : decode cX3_drawn 82 = .ok (.isub, 1) := by decide +kernel
theorem dX3_drawn_83 : decode cX3_drawn 83 = .ok (.iload_n 2, 1) := by decide +kernel
theorem dX3_drawn_84 : decode cX3_drawn 84 = .ok (.isub, 1) := by decide +kernel
theorem dX3_drawn_85 : decode cX3_drawn 85 = .ok (.invokevirtual 67, 3) := by decide +kernel
theorem dX3_drawn_88 : decode cX3_drawn 88 = .ok (.ineg, 1) := by decide +kernel
theorem dX3_drawn_89 : decode cX3_drawn 89 = .ok (.goto 14, 3) := by decide +kernel
theorem dX3_drawn_92 : decode cX3_drawn 92 = .ok (.aload_n 0, 1) := by decide +kernel
theorem dX3_drawn_93 : decode cX3_drawn 93 = .ok (.iload_n 1, 1) := by decide +kernel
theorem dX3_drawn_94 : decode cX3_drawn 94 = .ok (.iload 4, 2) := by decide +kernel
theorem dX3_drawn_96 : decode cX3_drawn 96 = .ok (.iconst 1, 1) := by decide +kernel
theorem dX3_drawn_97 : decode cX3_drawn 97 = .ok (.isub, 1) := by decide +kernel
theorem dX3_drawn_98 : decode cX3_drawn 98 = .ok (.iload_n 2, 1) := by decide +kernel
theorem dX3_drawn_99 : decode cX3_drawn 99 = .ok (.isub, 1) := by decide +kernel
theorem dX3_drawn_100 : decode cX3_drawn 100 = .ok (.invokevirtual 63, 3) := by decide +kernel
theorem dX3_drawn_103 : decode cX3_drawn 103 = .ok (.ireturn, 1) := by decide +kernel
theorem dX3_drawn_104 : decode cX3_drawn 104 = .ok (.iload_n 2, 1) := by decide +kernel
theorem dX3_drawn_105 : decode cX3_drawn 105 = .ok (.iload 4, 2) := by decide +kernel
theorem dX3_drawn_107 : decode cX3_drawn 107 = .ok (.isub, 1) := by decide +kernel
theorem dX3_drawn_108 : decode cX3_drawn 108 = .ok (.istore 5, 2) := by decide +kernel
theorem dX3_drawn_110 : decode cX3_drawn 110 = .ok (.iconst 0, 1) := by decide +kernel
theorem dX3_drawn_111 : decode cX3_drawn 111 = .ok (.istore 6, 2) := by decide +kernel
theorem dX3_drawn_113 : decode cX3_drawn 113 = .ok (.aload_n 0, 1) := by decide +kernel
theorem dX3_drawn_114 : decode cX3_drawn 114 = .ok (.iload_n 1, 1) := by decide +kernel
theorem dX3_drawn_115 : decode cX3_drawn 115 = .ok (.iload 6, 2) := by decide +kernel
theorem dX3_drawn_117 : decode cX3_drawn 117 = .ok (.invokevirtual 67, 3) := by decide +kernel
theorem dX3_drawn_120 : decode cX3_drawn 120 = .ok (.ifCond .eq 8, 3) := by decide +kernel
theorem dX3_drawn_123 : decode cX3_drawn 123 = .ok (.iload 5, 2) := by decide +kernel
theorem dX3_drawn_125 : decode cX3_drawn 125 = .ok (.ifCond .le 29, 3) := by decide +kernel
theorem dX3_drawn_128 : decode cX3_drawn 128 = .ok (.iload 5, 2) := by decide +kernel
theorem dX3_drawn_130 : decode cX3_drawn 130 = .ok (.aload_n 0, 1) := by decide +kernel
theorem dX3_drawn_131 : decode cX3_drawn 131 = .ok (.iload_n 1, 1) := by decide +kernel
theorem dX3_drawn_132 : decode cX3_drawn 132 = .ok (.iload 6, 2) := by decide +kernel
theorem dX3_drawn_134 : decode cX3_drawn 134 = .ok (.invokevirtual 67, 3) := by decide +kernel
theorem dX3_drawn_137 : decode cX3_drawn 137 = .ok (.ifCond .le 7, 3) := by decide +kernel
theorem dX3_drawn_140 : decode cX3_drawn 140 = .ok (.iconst 1, 1) := by decide +kernel
theorem dX3_drawn_141 : decode cX3_drawn 141 = .ok (.goto 4, 3) := by decide +kernel
theorem dX3_drawn_144 : decode cX3_drawn 144 = .ok (.iconst 0, 1) := by decide +kernel
theorem dX3_drawn_145 : decode cX3_drawn 145 = .ok (.isub, 1) := by decide +kernel
theorem dX3_drawn_146 : decode cX3_drawn 146 = .ok (.istore 5, 2) := by decide +kernel
theorem dX3_drawn_148 : decode cX3_drawn 148 = .ok (.iinc 6 1, 3) := by decide +kernel
theorem dX3_drawn_151 : decode cX3_drawn 151 = .ok (.goto (-38), 3) := by decide +kernel
theorem dX3_drawn_154 : decode cX3_drawn 154 = .ok (.iload_n 3, 1) := by decide +kernel
theorem dX3_drawn_155 : decode cX3_drawn 155 = .ok (.ifCond .ne 13, 3) := by decide +kernel
theorem dX3_drawn_158 : decode cX3_drawn 158 = .ok (.aload_n 0, 1) := by decide +kernel
theorem dX3_drawn_159 : decode cX3_drawn 159 = .ok (.iload_n 1, 1) := by decide +kernel
theorem dX3_drawn_160 : decode cX3_drawn 160 = .ok (.iload 6, 2) := by decide +kernel
theorem dX3_drawn_162 : decode cX3_drawn 162 = .ok (.invokevirtual 67, 3) := by decide +kernel
theorem dX3_drawn_165 : decode cX3_drawn 165 = .ok (.goto 10, 3) := by decide +kernel
theorem dX3_drawn_168 : decode cX3_drawn 168 = .ok (.aload_n 0, 1) := by decide +kernel
theorem dX3_drawn_169 : decode cX3_drawn 169 = .ok (.iload_n 1, 1) := by decide +kernel
theorem dX3_drawn_170 : decode cX3_drawn 170 = .ok (.iload 6, 2) := by decide +kernel
theorem dX3_drawn_172 : decode cX3_drawn 172 = .ok (.invokevirtual 63, 3) := by decide +kernel
theorem dX3_drawn_175 : decode cX3_drawn 175 = .ok (.ireturn, 1) := by decide +kernel
theorem dX3_bound_0 : decode cX3_bound 0 = .ok (.aload_n 0, 1) := by decide +kernel
theorem dX3_bound_1 : decode cX3_bound 1 = .ok (.iload_n 1, 1) := by decide +kernel
theorem dX3_bound_2 : decode cX3_bound 2 = .ok (.iconst 0, 1) := by decide +kernel
theorem dX3_bound_3 : decode cX3_bound 3 = .ok (.ldc 135, 2) := by decide +kernel
theorem dX3_bound_5 : decode cX3_bound 5 = .ok (.invokestatic 55, 3) := by decide +kernel
theorem dX3_bound_8 : decode cX3_bound 8 = .ok (.ifCond .ne 7, 3) := by decide +kernel
theorem dX3_bound_11 : decode cX3_bound 11 = .ok (.iconst 1, 1) := by decide +kernel
theorem dX3_bound_12 : decode cX3_bound 12 = .ok (.goto 4, 3) := by decide +kernel
theorem dX3_bound_15 : decode cX3_bound 15 = .ok (.iconst 0, 1) := by decide +kernel
theorem dX3_bound_16 : decode cX3_bound 16 = .ok (.aload_n 0, 1) := by decide +kernel
theorem dX3_bound_17 : decode cX3_bound 17 = .ok (.getfield 136, 3) := by decide +kernel
theorem dX3_bound_20 : decode cX3_bound 20 = .ok (.bipush 10, 2) := by decide +kernel
theorem dX3_bound_22 : decode cX3_bound 22 = .ok (.if_icmp .ne 7, 3) := by decide +kernel
theorem dX3_bound_25 : decode cX3_bound 25 = .ok (.iconst 1, 1) := by decide +kernel
theorem dX3_bound_26 : decode cX3_bound 26 = .ok (.goto 4, 3) := by decide +kernel
theorem dX3_bound_29 : decode cX3_bound 29 = .ok (.iconst 0, 1) := by decide +kernel
theorem dX3_bound_30 : decode cX3_bound 30 = .ok (.iconst 0, 1) := by decide +kernel
theorem dX3_bound_31 : decode cX3_bound 31 = .ok (.invokevirtual 59, 3) := by decide +kernel
theorem dX3_bound_34 : decode cX3_bound 34 = .ok (.ifCond .eq 5, 3) := by decide +kernel
theorem dX3_bound_37 : decode cX3_bound 37 = .ok (.iconst 0, 1) := by decide +kernel
theorem dX3_bound_38 : decode cX3_bound 38 = .ok (.ireturn, 1) := by decide +kernel
theorem dX3_bound_39 : decode cX3_bound 39 = .ok (.aload_n 0, 1) := by decide +kernel
theorem dX3_bound_40 : decode cX3_bound 40 = .ok (.getfield 26, 3) := by decide +kernel
theorem dX3_bound_43 : decode cX3_bound 43 = .ok (.aload_n 0, 1) := by decide +kernel
theorem dX3_bound_44 : decode cX3_bound 44 = .ok (.getfield 136, 3) := by decide +kernel
theorem dX3_bound_47 : decode cX3_bound 47 = .ok (.iload_n 1, 1) := by decide +kernel
theorem dX3_bound_48 : decode cX3_bound 48 = .ok (.iastore, 1) := by decide +kernel
theorem dX3_bound_49 : decode cX3_bound 49 = .ok (.aload_n 0, 1) := by decide +kernel
theorem dX3_bound_50 : decode cX3_bound 50 = .ok (.dup, 1) := by decide +kernel
theorem dX3_bound_51 : decode cX3_bound 51 = .ok (.getfield 136, 3) := by decide +kernel
theorem dX3_bound_54 : decode cX3_bound 54 = .ok (.iconst 1, 1) := by decide +kernel
theorem dX3_bound_55 : decode cX3_bound 55 = .ok (.iadd, 1) := by decide +kernel
theorem dX3_bound_56 : decode cX3_bound 56 = .ok (.putfield 136, 3) := by decide +kernel
theorem dX3_bound_59 : decode cX3_bound 59 = .ok (.aload_n 0, 1) := by decide +kernel
theorem dX3_bound_60 : decode cX3_bound 60 = .ok (.getfield 136, 3) := by decide +kernel
theorem dX3_bound_63 : decode cX3_bound 63 = .ok (.ireturn, 1) := by decide +kernel
theorem dX3_size_0 : decode cX3_size 0 = .ok (.aload_n 0, 1) := by decide +kernel
theorem dX3_size_1 : decode cX3_size 1 = .ok (.aload_n 0, 1) := by decide +kernel
theorem dX3_size_2 : decode cX3_size 2 = .ok (.iload_n 1, 1) := by decide +kernel
theorem dX3_size_3 : decode cX3_size 3 = .ok (.invokevirtual 70, 3) := by decide +kernel
theorem dX3_size_6 : decode cX3_size 6 = .ok (.ifCond .ne 7, 3) := by decide +kernel
theorem dX3_size_9 : decode cX3_size 9 = .ok (.iconst 1, 1) := by decide +kernel
theorem dX3_size_10 : decode cX3_size 10 = .ok (.goto 4, 3) := by decide +kernel
theorem dX3_size_13 : decode cX3_size 13 = .ok (.iconst 0, 1) := by decide +kernel
theorem dX3_size_14 : decode cX3_size 14 = .ok (.iconst 0, 1) := by decide +kernel
theorem dX3_size_15 : decode cX3_size 15 = .ok (.iconst 0, 1) := by decide +kernel
theorem dX3_size_16 : decode cX3_size 16 = .ok (.invokevirtual 59, 3) := by decide +kernel
theorem dX3_size_19 : decode cX3_size 19 = .ok (.ifCond .eq 5, 3) := by decide +kernel
theorem dX3_size_22 : decode cX3_size 22 = .ok (.iconst 0, 1) := by decide +kernel
theorem dX3_size_23 : decode cX3_size 23 = .ok (.ireturn, 1) := by decide +kernel
theorem dX3_size_24 : decode cX3_size 24 = .ok (.aload_n 0, 1) := by decide +kernel
theorem dX3_size_25 : decode cX3_size 25 = .ok (.iload_n 1, 1) := by decide +kernel
theorem dX3_size_26 : decode cX3_size 26 = .ok (.iconst 0, 1) := by decide +kernel
theorem dX3_size_27 : decode cX3_size 27 = .ok (.invokevirtual 127, 3) := by decide +kernel
theorem dX3_size_30 : decode cX3_size 30 = .ok (.lstore_n 2, 1) := by decide +kernel
theorem dX3_size_31 : decode cX3_size 31 = .ok (.iconst 0, 1) := by decide +kernel
theorem dX3_size_32 : decode cX3_size 32 = .ok (.istore 4, 2) := by decide +kernel
theorem dX3_size_34 : decode cX3_size 34 = .ok (.iconst 0, 1) := by decide +kernel
theorem dX3_size_35 : decode cX3_size 35 = .ok (.istore 5, 2) := by decide +kernel
theorem dX3_size_37 : decode cX3_size 37 = .ok (.iload 5, 2) := by decide +kernel
theorem dX3_size_39 : decode cX3_size 39 = .ok (.aload_n 0, 1) := by decide +kernel
theorem dX3_size_40 : decode cX3_size 40 = .ok (.getfield 136, 3) := by decide +kernel
theorem dX3_size_43 : decode cX3_size 43 = .ok (.if_icmp .ge 32, 3) := by decide +kernel
theorem dX3_size_46 : decode cX3_size 46 = .ok (.iload 4, 2) := by decide +kernel
theorem dX3_size_48 : decode cX3_size 48 = .ok (.aload_n 0, 1) := by decide +kernel
theorem dX3_size_49 : decode cX3_size 49 = .ok (.getfield 26, 3) := by decide +kernel
theorem dX3_size_52 : decode cX3_size 52 = .ok (.iload 5, 2) := by decide +kernel
theorem dX3_size_54 : decode cX3_size 54 = .ok (.iaload, 1) := by decide +kernel
theorem dX3_size_55 : decode cX3_size 55 = .ok (.i2l, 1) := by decide +kernel
theorem dX3_size_56 : decode cX3_size 56 = .ok (.lload_n 2, 1) := by decide +kernel
theorem dX3_size_57 : decode cX3_size 57 = .ok (.lcmp, 1) := by decide +kernel
theorem dX3_size_58 : decode cX3_size 58 = .ok (.ifCond .gt 7, 3) := by decide +kernel
theorem dX3_size_61 : decode cX3_size 61 = .ok (.iconst 1, 1) := by decide +kernel
theorem dX3_size_62 : decode cX3_size 62 = .ok (.goto 4, 3) := by decide +kernel
theorem dX3_size_65 : decode cX3_size 65 = .ok (.iconst 0, 1) := by decide +kernel
theorem dX3_size_66 : decode cX3_size 66 = .ok (.iadd, 1) := by decide +kernel
theorem dX3_size_67 : decode cX3_size 67 = .ok (.istore 4, 2) := by decide +kernel
theorem dX3_size_69 : decode cX3_size 69 = .ok (.iinc 5 1, 3) := by decide +kernel
theorem dX3_size_72 : decode cX3_size 72 = .ok (.goto (-35), 3) := by decide +kernel
theorem dX3_size_75 : decode cX3_size 75 = .ok (.iload 4, 2) := by decide +kernel
theorem dX3_size_77 : decode cX3_size 77 = .ok (.ireturn, 1) := by decide +kernel
theorem dX3_rim_0 : decode cX3_rim 0 = .ok (.aload_n 0, 1) := by decide +kernel
theorem dX3_rim_1 : decode cX3_rim 1 = .ok (.iload_n 1, 1) := by decide +kernel
theorem dX3_rim_2 : decode cX3_rim 2 = .ok (.sipush (-200), 3) := by decide +kernel
theorem dX3_rim_5 : decode cX3_rim 5 = .ok (.sipush 200, 3) := by decide +kernel
theorem dX3_rim_8 : decode cX3_rim 8 = .ok (.invokestatic 55, 3) := by decide +kernel
theorem dX3_rim_11 : decode cX3_rim 11 = .ok (.ifCond .eq 16, 3) := by decide +kernel
theorem dX3_rim_14 : decode cX3_rim 14 = .ok (.iload_n 2, 1) := by decide +kernel
theorem dX3_rim_15 : decode cX3_rim 15 = .ok (.sipush (-200), 3) := by decide +kernel
theorem dX3_rim_18 : decode cX3_rim 18 = .ok (.sipush 200, 3) := by decide +kernel
theorem dX3_rim_21 : decode cX3_rim 21 = .ok (.invokestatic 55, 3) := by decide +kernel
theorem dX3_rim_24 : decode cX3_rim 24 = .ok (.ifCond .ne 7, 3) := by decide +kernel
theorem dX3_rim_27 : decode cX3_rim 27 = .ok (.iconst 1, 1) := by decide +kernel
theorem dX3_rim_28 : decode cX3_rim 28 = .ok (.goto 4, 3) := by decide +kernel
theorem dX3_rim_31 : decode cX3_rim 31 = .ok (.iconst 0, 1) := by decide +kernel
theorem dX3_rim_32 : decode cX3_rim 32 = .ok (.aload_n 0, 1) := by decide +kernel
theorem dX3_rim_33 : decode cX3_rim 33 = .ok (.getfield 139, 3) := by decide +kernel
theorem dX3_rim_36 : decode cX3_rim 36 = .ok (.bipush 20, 2) := by decide +kernel
theorem dX3_rim_38 : decode cX3_rim 38 = .ok (.if_icmp .ne 7, 3) := by decide +kernel
theorem dX3_rim_41 : decode cX3_rim 41 = .ok (.iconst 1, 1) := by decide +kernel
theorem dX3_rim_42 : decode cX3_rim 42 = .ok (.goto 4, 3) := by decide +kernel
theorem dX3_rim_45 : decode cX3_rim 45 = .ok (.iconst 0, 1) := by decide +kernel
theorem dX3_rim_46 : decode cX3_rim 46 = .ok (.iconst 0, 1) := by decide +kernel
theorem dX3_rim_47 : decode cX3_rim 47 = .ok (.invokevirtual 59, 3) := by decide +kernel
theorem dX3_rim_50 : decode cX3_rim 50 = .ok (.ifCond .eq 5, 3) := by decide +kernel
theorem dX3_rim_53 : decode cX3_rim 53 = .ok (.iconst 0, 1) := by decide +kernel
theorem dX3_rim_54 : decode cX3_rim 54 = .ok (.ireturn, 1) := by decide +kernel
theorem dX3_rim_55 : decode cX3_rim 55 = .ok (.aload_n 0, 1) := by decide +kernel
theorem dX3_rim_56 : decode cX3_rim 56 = .ok (.getfield 29, 3) := by decide +kernel
theorem dX3_rim_59 : decode cX3_rim 59 = .ok (.aload_n 0, 1) := by decide +kernel
theorem dX3_rim_60 : decode cX3_rim 60 = .ok (.getfield 139, 3) := by decide +kernel
theorem dX3_rim_63 : decode cX3_rim 63 = .ok (.iload_n 1, 1) := by decide +kernel
theorem dX3_rim_64 : decode cX3_rim 64 = .ok (.iastore, 1) := by decide +kernel
theorem dX3_rim_65 : decode cX3_rim 65 = .ok (.aload_n 0, 1) := by decide +kernel
theorem dX3_rim_66 : decode cX3_rim 66 = .ok (.getfield 32, 3) := by decide +kernel
theorem dX3_rim_69 : decode cX3_rim 69 = .ok (.aload_n 0, 1) := by decide +kernel
theorem dX3_rim_70 : decode cX3_rim 70 = .ok (.getfield 139, 3) := by decide +kernel
theorem dX3_rim_73 : decode cX3_rim 73 = .ok (.iload_n 2, 1) := by decide +kernel
theorem dX3_rim_74 : decode cX3_rim 74 = .ok (.iastore, 1) := by decide +kernel
theorem dX3_rim_75 : decode cX3_rim 75 = .ok (.aload_n 0, 1) := by decide +kernel
theorem dX3_rim_76 : decode cX3_rim 76 = .ok (.dup, 1) := by decide +kernel
theorem dX3_rim_77 : decode cX3_rim 77 = .ok (.getfield 139, 3) := by decide +kernel
theorem dX3_rim_80 : decode cX3_rim 80 = .ok (.iconst 1, 1) := by decide +kernel
theorem dX3_rim_81 : decode cX3_rim 81 = .ok (.iadd, 1) := by decide +kernel
theorem dX3_rim_82 : decode cX3_rim 82 = .ok (.putfield 139, 3) := by decide +kernel
theorem dX3_rim_85 : decode cX3_rim 85 = .ok (.aload_n 0, 1) := by decide +kernel
theorem dX3_rim_86 : decode cX3_rim 86 = .ok (.getfield 139, 3) := by decide +kernel
theorem dX3_rim_89 : decode cX3_rim 89 = .ok (.ireturn, 1) := by decide +kernel
theorem dX3_clear_0 : decode cX3_clear 0 = .ok (.aload_n 0, 1) := by decide +kernel
theorem dX3_clear_1 : decode cX3_clear 1 = .ok (.iconst 0, 1) := by decide +kernel
theorem dX3_clear_2 : decode cX3_clear 2 = .ok (.putfield 48, 3) := by decide +kernel
theorem dX3_clear_5 : decode cX3_clear 5 = .ok (.aload_n 0, 1) := by decide +kernel
theorem dX3_clear_6 : decode cX3_clear 6 = .ok (.getfield 139, 3) := by decide +kernel
theorem dX3_clear_9 : decode cX3_clear 9 = .ok (.istore_n 1, 1) := by decide +kernel
theorem dX3_clear_10 : decode cX3_clear 10 = .ok (.aload_n 0, 1) := by decide +kernel
theorem dX3_clear_11 : decode cX3_clear 11 = .ok (.iconst 0, 1) := by decide +kernel
theorem dX3_clear_12 : decode cX3_clear 12 = .ok (.putfield 139, 3) := by decide +kernel
theorem dX3_clear_15 : decode cX3_clear 15 = .ok (.iload_n 1, 1) := by decide +kernel
theorem dX3_clear_16 : decode cX3_clear 16 = .ok (.ireturn, 1) := by decide +kernel
theorem dX3_apart_0 : decode cX3_apart 0 = .ok (.aload_n 0, 1) := by decide +kernel
theorem dX3_apart_1 : decode cX3_apart 1 = .ok (.getfield 29, 3) := by decide +kernel
theorem dX3_apart_4 : decode cX3_apart 4 = .ok (.iload_n 1, 1) := by decide +kernel
theorem dX3_apart_5 : decode cX3_apart 5 = .ok (.iaload, 1) := by decide +kernel
theorem dX3_apart_6 : decode cX3_apart 6 = .ok (.aload_n 0, 1) := by decide +kernel
theorem dX3_apart_7 : decode cX3_apart 7 = .ok (.getfield 29, 3) := by decide +kernel
theorem dX3_apart_10 : decode cX3_apart 10 = .ok (.iload_n 2, 1) := by decide +kernel
theorem dX3_apart_11 : decode cX3_apart 11 = .ok (.iaload, 1) := by decide +kernel
theorem dX3_apart_12 : decode cX3_apart 12 = .ok (.isub, 1) := by decide +kernel
theorem dX3_apart_13 : decode cX3_apart 13 = .ok (.i2l, 1) := by decide +kernel
theorem dX3_apart_14 : decode cX3_apart 14 = .ok (.lstore_n 3, 1) := by decide +kernel
theorem dX3_apart_15 : decode cX3_apart 15 = .ok (.aload_n 0, 1) := by decide +kernel
theorem dX3_apart_16 : decode cX3_apart 16 = .ok (.getfield 32, 3) := by decide +kernel
theorem dX3_apart_19 : decode cX3_apart 19 = .ok (.iload_n 1, 1) := by decide +kernel
theorem dX3_apart_20 : decode cX3_apart 20 = .ok (.iaload, 1) := by decide +kernel
theorem dX3_apart_21 : decode cX3_apart 21 = .ok (.aload_n 0, 1) := by decide +kernel
theorem dX3_apart_22 : decode cX3_apart 22 = .ok (.getfield 32, 3) := by decide +kernel
theorem dX3_apart_25 : decode cX3_apart 25 = .ok (.iload_n 2, 1) := by decide +kernel
theorem dX3_apart_26 : decode cX3_apart 26 = .ok (.iaload, 1) := by decide +kernel
theorem dX3_apart_27 : decode cX3_apart 27 = .ok (.isub, 1) := by decide +kernel
theorem dX3_apart_28 : decode cX3_apart 28 = .ok (.i2l, 1) := by decide +kernel
theorem dX3_apart_29 : decode cX3_apart 29 = .ok (.lstore 5, 2) := by decide +kernel
theorem dX3_apart_31 : decode cX3_apart 31 = .ok (.lload_n 3, 1) := by decide +kernel
theorem dX3_apart_32 : decode cX3_apart 32 = .ok (.lload_n 3, 1) := by decide +kernel
theorem dX3_apart_33 : decode cX3_apart 33 = .ok (.lmul, 1) := by decide +kernel
theorem dX3_apart_34 : decode cX3_apart 34 = .ok (.lload 5, 2) := by decide +kernel
theorem dX3_apart_36 : decode cX3_apart 36 = .ok (.lload 5, 2) := by decide +kernel
theorem dX3_apart_38 : decode cX3_apart 38 = .ok (.lmul, 1) := by decide +kernel
theorem dX3_apart_39 : decode cX3_apart 39 = .ok (.ladd, 1) := by decide +kernel
theorem dX3_apart_40 : decode cX3_apart 40 = .ok (.lreturn, 1) := by decide +kernel
theorem dX3_round_0 : decode cX3_round 0 = .ok (.iconst 0, 1) := by decide +kernel
theorem dX3_round_1 : decode cX3_round 1 = .ok (.istore_n 1, 1) := by decide +kernel
theorem dX3_round_2 : decode cX3_round 2 = .ok (.aload_n 0, 1) := by decide +kernel
theorem dX3_round_3 : decode cX3_round 3 = .ok (.getfield 139, 3) := by decide +kernel
theorem dX3_round_6 : decode cX3_round 6 = .ok (.iconst 2, 1) := by decide +kernel
theorem dX3_round_7 : decode cX3_round 7 = .ok (.idiv, 1) := by decide +kernel
theorem dX3_round_8 : decode cX3_round 8 = .ok (.istore_n 2, 1) := by decide +kernel
theorem dX3_round_9 : decode cX3_round 9 = .ok (.aload_n 0, 1) := by decide +kernel
theorem dX3_round_10 : decode cX3_round 10 = .ok (.getfield 139, 3) := by decide +kernel
theorem dX3_round_13 : decode cX3_round 13 = .ok (.iconst 1, 1) := by decide +kernel
theorem dX3_round_14 : decode cX3_round 14 = .ok (.isub, 1) := by decide +kernel
theorem dX3_round_15 : decode cX3_round 15 = .ok (.istore_n 3, 1) := by decide +kernel
theorem dX3_round_16 : decode cX3_round 16 = .ok (.aload_n 0, 1) := by decide +kernel
theorem dX3_round_17 : decode cX3_round 17 = .ok (.getfield 29, 3) := by decide +kernel
theorem dX3_round_20 : decode cX3_round 20 = .ok (.iload_n 2, 1) := by decide +kernel
theorem dX3_round_21 : decode cX3_round 21 = .ok (.iaload, 1) := by decide +kernel
theorem dX3_round_22 : decode cX3_round 22 = .ok (.aload_n 0, 1) := by decide +kernel
theorem dX3_round_23 : decode cX3_round 23 = .ok (.getfield 29, 3) := by decide +kernel
theorem dX3_round_26 : decode cX3_round 26 = .ok (.iload_n 1, 1) := by decide +kernel
theorem dX3_round_27 : decode cX3_round 27 = .ok (.iaload, 1) := by decide +kernel
theorem dX3_round_28 : decode cX3_round 28 = .ok (.isub, 1) := by decide +kernel
theorem dX3_round_29 : decode cX3_round 29 = .ok (.i2l, 1) := by decide +kernel
theorem dX3_round_30 : decode cX3_round 30 = .ok (.aload_n 0, 1) := by decide +kernel
theorem dX3_round_31 : decode cX3_round 31 = .ok (.getfield 32, 3) := by decide +kernel
theorem dX3_round_34 : decode cX3_round 34 = .ok (.iload_n 3, 1) := by decide +kernel
theorem dX3_round_35 : decode cX3_round 35 = .ok (.iaload, 1) := by decide +kernel
theorem dX3_round_36 : decode cX3_round 36 = .ok (.aload_n 0, 1) := by decide +kernel
theorem dX3_round_37 : decode cX3_round 37 = .ok (.getfield 32, 3) := by decide +kernel
theorem dX3_round_40 : decode cX3_round 40 = .ok (.iload_n 1, 1) := by decide +kernel
theorem dX3_round_41 : decode cX3_round 41 = .ok (.iaload, 1) := by decide +kernel
theorem dX3_round_42 : decode cX3_round 42 = .ok (.isub, 1) := by decide +kernel
theorem dX3_round_43 : decode cX3_round 43 = .ok (.i2l, 1) := by decide +kernel
theorem dX3_round_44 : decode cX3_round 44 = .ok (.lmul, 1) := by decide +kernel
theorem dX3_round_45 : decode cX3_round 45 = .ok (.aload_n 0, 1) := by decide +kernel
theorem dX3_round_46 : decode cX3_round 46 = .ok (.getfield 29, 3) := by decide +kernel
theorem dX3_round_49 : decode cX3_round 49 = .ok (.iload_n 3, 1) := by decide +kernel
theorem dX3_round_50 : decode cX3_round 50 = .ok (.iaload, 1) := by decide +kernel
theorem dX3_round_51 : decode cX3_round 51 = .ok (.aload_n 0, 1) := by decide +kernel
theorem dX3_round_52 : decode cX3_round 52 = .ok (.getfield 29, 3) := by decide +kernel
theorem dX3_round_55 : decode cX3_round 55 = .ok (.iload_n 1, 1) := by decide +kernel
theorem dX3_round_56 : decode cX3_round 56 = .ok (.iaload, 1) := by decide +kernel
theorem dX3_round_57 : decode cX3_round 57 = .ok (.isub, 1) := by decide +kernel
theorem dX3_round_58 : decode cX3_round 58 = .ok (.i2l, 1) := by decide +kernel
theorem dX3_round_59 : decode cX3_round 59 = .ok (.aload_n 0, 1) := by decide +kernel
theorem dX3_round_60 : decode cX3_round 60 = .ok (.getfield 32, 3) := by decide +kernel
theorem dX3_round_63 : decode cX3_round 63 = .ok (.iload_n 2, 1) := by decide +kernel
theorem dX3_round_64 : decode cX3_round 64 = .ok (.iaload, 1) := by decide +kernel
theorem dX3_round_65 : decode cX3_round 65 = .ok (.aload_n 0, 1) := by decide +kernel
theorem dX3_round_66 : decode cX3_round 66 = .ok (.getfield 32, 3) := by decide +kernel
theorem dX3_round_69 : decode cX3_round 69 = .ok (.iload_n 1, 1) := by decide +kernel
theorem dX3_round_70 : decode cX3_round 70 = .ok (.iaload, 1) := by decide +kernel
theorem dX3_round_71 : decode cX3_round 71 = .ok (.isub, 1) := by decide +kernel
theorem dX3_round_72 : decode cX3_round 72 = .ok (.i2l, 1) := by decide +kernel
theorem dX3_round_73 : decode cX3_round 73 = .ok (.lmul, 1) := by decide +kernel
theorem dX3_round_74 : decode cX3_round 74 = .ok (.lsub, 1) := by decide +kernel
theorem dX3_round_75 : decode cX3_round 75 = .ok (.lstore 4, 2) := by decide +kernel
theorem dX3_round_77 : decode cX3_round 77 = .ok (.aload_n 0, 1) := by decide +kernel
theorem dX3_round_78 : decode cX3_round 78 = .ok (.lload 4, 2) := by decide +kernel
theorem dX3_round_80 : decode cX3_round 80 = .ok (.lconst 0, 1) := by decide +kernel
theorem dX3_round_81 : decode cX3_round 81 = .ok (.lcmp, 1) := by decide +kernel
theorem dX3_round_82 : decode cX3_round 82 = .ok (.ifCond .ne 7, 3) := by decide +kernel
theorem dX3_round_85 : decode cX3_round 85 = .ok (.lconst 0, 1) := by decide +kernel
theorem dX3_round_86 : decode cX3_round 86 = .ok (.goto 23, 3) := by decide +kernel
theorem dX3_round_89 : decode cX3_round 89 = .ok (.aload_n 0, 1) := by decide +kernel
theorem dX3_round_90 : decode cX3_round 90 = .ok (.iload_n 1, 1) := by decide +kernel
theorem dX3_round_91 : decode cX3_round 91 = .ok (.iload_n 2, 1) := by decide +kernel
theorem dX3_round_92 : decode cX3_round 92 = .ok (.invokevirtual 142, 3) := by decide +kernel
theorem dX3_round_95 : decode cX3_round 95 = .ok (.aload_n 0, 1) := by decide +kernel
theorem dX3_round_96 : decode cX3_round 96 = .ok (.iload_n 2, 1) := by decide +kernel
theorem dX3_round_97 : decode cX3_round 97 = .ok (.iload_n 3, 1) := by decide +kernel
theorem dX3_round_98 : decode cX3_round 98 = .ok (.invokevirtual 142, 3) := by decide +kernel
theorem dX3_round_101 : decode cX3_round 101 = .ok (.lmul, 1) := by decide +kernel
theorem dX3_round_102 : decode cX3_round 102 = .ok (.aload_n 0, 1) := by decide +kernel
theorem dX3_round_103 : decode cX3_round 103 = .ok (.iload_n 1, 1) := by decide +kernel
theorem dX3_round_104 : decode cX3_round 104 = .ok (.iload_n 3, 1) := by decide +kernel
theorem dX3_round_105 : decode cX3_round 105 = .ok (.invokevirtual 142, 3) := by decide +kernel
theorem dX3_round_108 : decode cX3_round 108 = .ok (.lmul, 1) := by decide +kernel
theorem dX3_round_109 : decode cX3_round 109 = .ok (.putfield 84, 3) := by decide +kernel
theorem dX3_round_112 : decode cX3_round 112 = .ok (.aload_n 0, 1) := by decide +kernel
theorem dX3_round_113 : decode cX3_round 113 = .ok (.lload 4, 2) := by decide +kernel
theorem dX3_round_115 : decode cX3_round 115 = .ok (.lconst 0, 1) := by decide +kernel
theorem dX3_round_116 : decode cX3_round 116 = .ok (.lcmp, 1) := by decide +kernel
theorem dX3_round_117 : decode cX3_round 117 = .ok (.ifCond .ne 7, 3) := by decide +kernel
theorem dX3_round_120 : decode cX3_round 120 = .ok (.lconst 1, 1) := by decide +kernel
theorem dX3_round_121 : decode cX3_round 121 = .ok (.goto 12, 3) := by decide +kernel
theorem dX3_round_124 : decode cX3_round 124 = .ok (.ldc2_w 145, 3) := by decide +kernel
theorem dX3_round_127 : decode cX3_round 127 = .ok (.lload 4, 2) := by decide +kernel
theorem dX3_round_129 : decode cX3_round 129 = .ok (.lmul, 1) := by decide +kernel
theorem dX3_round_130 : decode cX3_round 130 = .ok (.lload 4, 2) := by decide +kernel
theorem dX3_round_132 : decode cX3_round 132 = .ok (.lmul, 1) := by decide +kernel
theorem dX3_round_133 : decode cX3_round 133 = .ok (.putfield 44, 3) := by decide +kernel
theorem dX3_round_136 : decode cX3_round 136 = .ok (.aload_n 0, 1) := by decide +kernel
theorem dX3_round_137 : decode cX3_round 137 = .ok (.invokevirtual 91, 3) := by decide +kernel
theorem dX3_round_140 : decode cX3_round 140 = .ok (.return_, 1) := by decide +kernel
theorem dX3_circle_0 : decode cX3_circle 0 = .ok (.aload_n 0, 1) := by decide +kernel
theorem dX3_circle_1 : decode cX3_circle 1 = .ok (.iload_n 1, 1) := by decide +kernel
theorem dX3_circle_2 : decode cX3_circle 2 = .ok (.iconst 0, 1) := by decide +kernel
theorem dX3_circle_3 : decode cX3_circle 3 = .ok (.iconst 1, 1) := by decide +kernel
theorem dX3_circle_4 : decode cX3_circle 4 = .ok (.invokestatic 55, 3) := by decide +kernel
theorem dX3_circle_7 : decode cX3_circle 7 = .ok (.ifCond .ne 7, 3) := by decide +kernel
theorem dX3_circle_10 : decode cX3_circle 10 = .ok (.iconst 1, 1) := by decide +kernel
theorem dX3_circle_11 : decode cX3_circle 11 = .ok (.goto 4, 3) := by decide +kernel
theorem dX3_circle_14 : decode cX3_circle 14 = .ok (.iconst 0, 1) := by decide +kernel
theorem dX3_circle_15 : decode cX3_circle 15 = .ok (.aload_n 0, 1) := by decide +kernel
theorem dX3_circle_16 : decode cX3_circle 16 = .ok (.getfield 139, 3) := by decide +kernel
theorem dX3_circle_19 : decode cX3_circle 19 = .ok (.iconst 3, 1) := by decide +kernel
theorem dX3_circle_20 : decode cX3_circle 20 = .ok (.if_icmp .ge 7, 3) := by decide +kernel
theorem dX3_circle_23 : decode cX3_circle 23 = .ok (.iconst 1, 1) := by decide +kernel
theorem dX3_circle_24 : decode cX3_circle 24 = .ok (.goto 4, 3) := by decide +kernel
theorem dX3_circle_27 : decode cX3_circle 27 = .ok (.iconst 0, 1) := by decide +kernel
theorem dX3_circle_28 : decode cX3_circle 28 = .ok (.iconst 0, 1) := by decide +kernel
theorem dX3_circle_29 : decode cX3_circle 29 = .ok (.invokevirtual 59, 3) := by decide +kernel
theorem dX3_circle_32 : decode cX3_circle 32 = .ok (.ifCond .eq 5, 3) := by decide +kernel
theorem dX3_circle_35 : decode cX3_circle 35 = .ok (.lconst 0, 1) := by decide +kernel
theorem dX3_circle_36 : decode cX3_circle 36 = .ok (.lreturn, 1) := by decide +kernel
theorem dX3_circle_37 : decode cX3_circle 37 = .ok (.aload_n 0, 1) := by decide +kernel
theorem dX3_circle_38 : decode cX3_circle 38 = .ok (.invokevirtual 147, 3) := by decide +kernel
theorem dX3_circle_41 : decode cX3_circle 41 = .ok (.iload_n 1, 1) := by decide +kernel
theorem dX3_circle_42 : decode cX3_circle 42 = .ok (.ifCond .ne 10, 3) := by decide +kernel
theorem dX3_circle_45 : decode cX3_circle 45 = .ok (.aload_n 0, 1) := by decide +kernel
theorem dX3_circle_46 : decode cX3_circle 46 = .ok (.getfield 84, 3) := by decide +kernel
theorem dX3_circle_49 : decode cX3_circle 49 = .ok (.goto 7, 3) := by decide +kernel
theorem dX3_circle_52 : decode cX3_circle 52 = .ok (.aload_n 0, 1) := by decide +kernel
theorem dX3_circle_53 : decode cX3_circle 53 = .ok (.getfield 44, 3) := by decide +kernel
theorem dX3_circle_56 : decode cX3_circle 56 = .ok (.lreturn, 1) := by decide +kernel
theorem dX3_curve_0 : decode cX3_curve 0 = .ok (.aload_n 0, 1) := by decide +kernel
theorem dX3_curve_1 : decode cX3_curve 1 = .ok (.aload_n 0, 1) := by decide +kernel
theorem dX3_curve_2 : decode cX3_curve 2 = .ok (.getfield 139, 3) := by decide +kernel
theorem dX3_curve_5 : decode cX3_curve 5 = .ok (.iconst 3, 1) := by decide +kernel
theorem dX3_curve_6 : decode cX3_curve 6 = .ok (.if_icmp .ge 7, 3) := by decide +kernel
theorem dX3_curve_9 : decode cX3_curve 9 = .ok (.iconst 1, 1) := by decide +kernel
theorem dX3_curve_10 : decode cX3_curve 10 = .ok (.goto 4, 3) := by decide +kernel
theorem dX3_curve_13 : decode cX3_curve 13 = .ok (.iconst 0, 1) := by decide +kernel
theorem dX3_curve_14 : decode cX3_curve 14 = .ok (.iconst 0, 1) := by decide +kernel
theorem dX3_curve_15 : decode cX3_curve 15 = .ok (.iconst 0, 1) := by decide +kernel
theorem dX3_curve_16 : decode cX3_curve 16 = .ok (.invokevirtual 59, 3) := by decide +kernel
theorem dX3_curve_19 : decode cX3_curve 19 = .ok (.ifCond .eq 5, 3) := by decide +kernel
theorem dX3_curve_22 : decode cX3_curve 22 = .ok (.iconst 0, 1) := by decide +kernel
theorem dX3_curve_23 : decode cX3_curve 23 = .ok (.ireturn, 1) := by decide +kernel
theorem dX3_curve_24 : decode cX3_curve 24 = .ok (.aload_n 0, 1) := by decide +kernel
theorem dX3_curve_25 : decode cX3_curve 25 = .ok (.invokevirtual 147, 3) := by decide +kernel
theorem dX3_curve_28 : decode cX3_curve 28 = .ok (.aload_n 0, 1) := by decide +kernel
theorem dX3_curve_29 : decode cX3_curve 29 = .ok (.getfield 84, 3) := by decide +kernel
theorem dX3_curve_32 : decode cX3_curve 32 = .ok (.aload_n 0, 1) := by decide +kernel
theorem dX3_curve_33 : decode cX3_curve 33 = .ok (.getfield 44, 3) := by decide +kernel
theorem dX3_curve_36 : decode cX3_curve 36 = .ok (.ldiv, 1) := by decide +kernel
theorem dX3_curve_37 : decode cX3_curve 37 = .ok (.lstore_n 1, 1) := by decide +kernel
theorem dX3_curve_38 : decode cX3_curve 38 = .ok (.lconst 0, 1) := by decide +kernel
theorem dX3_curve_39 : decode cX3_curve 39 = .ok (.lstore_n 3, 1) := by decide +kernel
theorem dX3_curve_40 : decode cX3_curve 40 = .ok (.ldc2_w 150, 3) := by decide +kernel
theorem dX3_curve_43 : decode cX3_curve 43 = .ok (.lstore 5, 2) := by decide +kernel
theorem dX3_curve_45 : decode cX3_curve 45 = .ok (.lload 5, 2) := by decide +kernel
theorem dX3_curve_47 : decode cX3_curve 47 = .ok (.lconst 0, 1) := by decide +kernel
theorem dX3_curve_48 : decode cX3_curve 48 = .ok (.lcmp, 1) := by decide +kernel
theorem dX3_curve_49 : decode cX3_curve 49 = .ok (.ifCond .le 33, 3) := by decide +kernel
theorem dX3_curve_52 : decode cX3_curve 52 = .ok (.lload_n 3, 1) := by decide +kernel
theorem dX3_curve_53 : decode cX3_curve 53 = .ok (.lload 5, 2) := by decide +kernel
theorem dX3_curve_55 : decode cX3_curve 55 = .ok (.ladd, 1) := by decide +kernel
theorem dX3_curve_56 : decode cX3_curve 56 = .ok (.lload_n 3, 1) := by decide +kernel
theorem dX3_curve_57 : decode cX3_curve 57 = .ok (.lload 5, 2) := by decide +kernel
theorem dX3_curve_59 : decode cX3_curve 59 = .ok (.ladd, 1) := by decide +kernel
theorem dX3_curve_60 : decode cX3_curve 60 = .ok (.lmul, 1) := by decide +kernel
theorem dX3_curve_61 : decode cX3_curve 61 = .ok (.lload_n 1, 1) := by decide +kernel
theorem dX3_curve_62 : decode cX3_curve 62 = .ok (.lcmp, 1) := by decide +kernel
theorem dX3_curve_63 : decode cX3_curve 63 = .ok (.ifCond .gt 8, 3) := by decide +kernel
theorem dX3_curve_66 : decode cX3_curve 66 = .ok (.lload_n 3, 1) := by decide +kernel
theorem dX3_curve_67 : decode cX3_curve 67 = .ok (.lload 5, 2) := by decide +kernel
theorem dX3_curve_69 : decode cX3_curve 69 = .ok (.ladd, 1) := by decide +kernel
theorem dX3_curve_70 : decode cX3_curve 70 = .ok (.lstore_n 3, 1) := by decide +kernel
theorem dX3_curve_71 : decode cX3_curve 71 = .ok (.lload 5, 2) := by decide +kernel
theorem dX3_curve_73 : decode cX3_curve 73 = .ok (.ldc2_w 152, 3) := by decide +kernel
theorem dX3_curve_76 : decode cX3_curve 76 = .ok (.ldiv, 1) := by decide +kernel
theorem dX3_curve_77 : decode cX3_curve 77 = .ok (.lstore 5, 2) := by decide +kernel
theorem dX3_curve_79 : decode cX3_curve 79 = .ok (.goto (-34), 3) := by decide +kernel
theorem dX3_curve_82 : decode cX3_curve 82 = .ok (.lload_n 3, 1) := by decide +kernel
theorem dX3_curve_83 : decode cX3_curve 83 = .ok (.l2i, 1) := by decide +kernel
theorem dX3_curve_84 : decode cX3_curve 84 = .ok (.ireturn, 1) := by decide +kernel
theorem dX3_allOf_0 : decode cX3_allOf 0 = .ok (.iconst 0, 1) := by decide +kernel
theorem dX3_allOf_1 : decode cX3_allOf 1 = .ok (.istore_n 2, 1) := by decide +kernel
theorem dX3_allOf_2 : decode cX3_allOf 2 = .ok (.iconst 0, 1) := by decide +kernel
theorem dX3_allOf_3 : decode cX3_allOf 3 = .ok (.istore_n 3, 1) := by decide +kernel
theorem dX3_allOf_4 : decode cX3_allOf 4 = .ok (.iload_n 3, 1) := by decide +kernel
theorem dX3_allOf_5 : decode cX3_allOf 5 = .ok (.aload_n 0, 1) := by decide +kernel
theorem dX3_allOf_6 : decode cX3_allOf 6 = .ok (.getfield 154, 3) := by decide +kernel
theorem dX3_allOf_9 : decode cX3_allOf 9 = .ok (.if_icmp .ge 32, 3) := by decide +kernel
theorem dX3_allOf_12 : decode cX3_allOf 12 = .ok (.iload_n 2, 1) := by decide +kernel
theorem dX3_allOf_13 : decode cX3_allOf 13 = .ok (.aload_n 0, 1) := by decide +kernel
theorem dX3_allOf_14 : decode cX3_allOf 14 = .ok (.getfield 35, 3) := by decide +kernel
theorem dX3_allOf_17 : decode cX3_allOf 17 = .ok (.iload_n 3, 1) := by decide +kernel
theorem dX3_allOf_18 : decode cX3_allOf 18 = .ok (.iaload, 1) := by decide +kernel
theorem dX3_allOf_19 : decode cX3_allOf 19 = .ok (.iload_n 1, 1) := by decide +kernel
theorem dX3_allOf_20 : decode cX3_allOf 20 = .ok (.if_icmp .ne 12, 3) := by decide +kernel
theorem dX3_allOf_23 : decode cX3_allOf 23 = .ok (.aload_n 0, 1) := by decide +kernel
theorem dX3_allOf_24 : decode cX3_allOf 24 = .ok (.getfield 38, 3) := by decide +kernel
theorem dX3_allOf_27 : decode cX3_allOf 27 = .ok (.iload_n 3, 1) := by decide +kernel
theorem dX3_allOf_28 : decode cX3_allOf 28 = .ok (.iaload, 1) := by decide +kernel
theorem dX3_allOf_29 : decode cX3_allOf 29 = .ok (.goto 4, 3) := by decide +kernel
theorem dX3_allOf_32 : decode cX3_allOf 32 = .ok (.iconst 0, 1) := by decide +kernel
theorem dX3_allOf_33 : decode cX3_allOf 33 = .ok (.iadd, 1) := by decide +kernel
theorem dX3_allOf_34 : decode cX3_allOf 34 = .ok (.istore_n 2, 1) := by decide +kernel
theorem dX3_allOf_35 : decode cX3_allOf 35 = .ok (.iinc 3 1, 3) := by decide +kernel
theorem dX3_allOf_38 : decode cX3_allOf 38 = .ok (.goto (-34), 3) := by decide +kernel
theorem dX3_allOf_41 : decode cX3_allOf 41 = .ok (.iload_n 2, 1) := by decide +kernel
theorem dX3_allOf_42 : decode cX3_allOf 42 = .ok (.ireturn, 1) := by decide +kernel
theorem dX3_sherd_0 : decode cX3_sherd 0 = .ok (.aload_n 0, 1) := by decide +kernel
theorem dX3_sherd_1 : decode cX3_sherd 1 = .ok (.aload_n 0, 1) := by decide +kernel
theorem dX3_sherd_2 : decode cX3_sherd 2 = .ok (.iload_n 1, 1) := by decide +kernel
theorem dX3_sherd_3 : decode cX3_sherd 3 = .ok (.invokevirtual 70, 3) := by decide +kernel
theorem dX3_sherd_6 : decode cX3_sherd 6 = .ok (.ifCond .ne 7, 3) := by decide +kernel
theorem dX3_sherd_9 : decode cX3_sherd 9 = .ok (.iconst 1, 1) := by decide +kernel
theorem dX3_sherd_10 : decode cX3_sherd 10 = .ok (.goto 4, 3) := by decide +kernel
theorem dX3_sherd_13 : decode cX3_sherd 13 = .ok (.iconst 0, 1) := by decide +kernel
theorem dX3_sherd_14 : decode cX3_sherd 14 = .ok (.iload_n 2, 1) := by decide +kernel
theorem dX3_sherd_15 : decode cX3_sherd 15 = .ok (.iconst 1, 1) := by decide +kernel
theorem dX3_sherd_16 : decode cX3_sherd 16 = .ok (.sipush 1000, 3) := by decide +kernel
theorem dX3_sherd_19 : decode cX3_sherd 19 = .ok (.invokestatic 55, 3) := by decide +kernel
theorem dX3_sherd_22 : decode cX3_sherd 22 = .ok (.ifCond .ne 7, 3) := by decide +kernel
theorem dX3_sherd_25 : decode cX3_sherd 25 = .ok (.iconst 1, 1) := by decide +kernel
theorem dX3_sherd_26 : decode cX3_sherd 26 = .ok (.goto 4, 3) := by decide +kernel
theorem dX3_sherd_29 : decode cX3_sherd 29 = .ok (.iconst 0, 1) := by decide +kernel
theorem dX3_sherd_30 : decode cX3_sherd 30 = .ok (.aload_n 0, 1) := by decide +kernel
theorem dX3_sherd_31 : decode cX3_sherd 31 = .ok (.getfield 154, 3) := by decide +kernel
theorem dX3_sherd_34 : decode cX3_sherd 34 = .ok (.bipush 60, 2) := by decide +kernel
theorem dX3_sherd_36 : decode cX3_sherd 36 = .ok (.if_icmp .ne 7, 3) := by decide +kernel
theorem dX3_sherd_39 : decode cX3_sherd 39 = .ok (.iconst 1, 1) := by decide +kernel
theorem dX3_sherd_40 : decode cX3_sherd 40 = .ok (.goto 4, 3) := by decide +kernel
theorem dX3_sherd_43 : decode cX3_sherd 43 = .ok (.iconst 0, 1) := by decide +kernel
theorem dX3_sherd_44 : decode cX3_sherd 44 = .ok (.invokevirtual 59, 3) := by decide +kernel
theorem dX3_sherd_47 : decode cX3_sherd 47 = .ok (.ifCond .eq 5, 3) := by decide +kernel
theorem dX3_sherd_50 : decode cX3_sherd 50 = .ok (.iconst 0, 1) := by decide +kernel
theorem dX3_sherd_51 : decode cX3_sherd 51 = .ok (.ireturn, 1) := by decide +kernel
theorem dX3_sherd_52 : decode cX3_sherd 52 = .ok (.aload_n 0, 1) := by decide +kernel
theorem dX3_sherd_53 : decode cX3_sherd 53 = .ok (.getfield 35, 3) := by decide +kernel
theorem dX3_sherd_56 : decode cX3_sherd 56 = .ok (.aload_n 0, 1) := by decide +kernel
theorem dX3_sherd_57 : decode cX3_sherd 57 = .ok (.getfield 154, 3) := by decide +kernel
theorem dX3_sherd_60 : decode cX3_sherd 60 = .ok (.iload_n 1, 1) := by decide +kernel
theorem dX3_sherd_61 : decode cX3_sherd 61 = .ok (.iastore, 1) := by decide +kernel
theorem dX3_sherd_62 : decode cX3_sherd 62 = .ok (.aload_n 0, 1) := by decide +kernel
theorem dX3_sherd_63 : decode cX3_sherd 63 = .ok (.getfield 38, 3) := by decide +kernel
theorem dX3_sherd_66 : decode cX3_sherd 66 = .ok (.aload_n 0, 1) := by decide +kernel
theorem dX3_sherd_67 : decode cX3_sherd 67 = .ok (.getfield 154, 3) := by decide +kernel
theorem dX3_sherd_70 : decode cX3_sherd 70 = .ok (.iload_n 2, 1) := by decide +kernel
theorem dX3_sherd_71 : decode cX3_sherd 71 = .ok (.iastore, 1) := by decide +kernel
theorem dX3_sherd_72 : decode cX3_sherd 72 = .ok (.aload_n 0, 1) := by decide +kernel
theorem dX3_sherd_73 : decode cX3_sherd 73 = .ok (.dup, 1) := by decide +kernel
theorem dX3_sherd_74 : decode cX3_sherd 74 = .ok (.getfield 154, 3) := by decide +kernel
theorem dX3_sherd_77 : decode cX3_sherd 77 = .ok (.iconst 1, 1) := by decide +kernel
theorem dX3_sherd_78 : decode cX3_sherd 78 = .ok (.iadd, 1) := by decide +kernel
theorem dX3_sherd_79 : decode cX3_sherd 79 = .ok (.putfield 154, 3) := by decide +kernel
theorem dX3_sherd_82 : decode cX3_sherd 82 = .ok (.aload_n 0, 1) := by decide +kernel
theorem dX3_sherd_83 : decode cX3_sherd 83 = .ok (.iload_n 1, 1) := by decide +kernel
theorem dX3_sherd_84 : decode cX3_sherd 84 = .ok (.invokevirtual 157, 3) := by decide +kernel
theorem dX3_sherd_87 : decode cX3_sherd 87 = .ok (.ireturn, 1) := by decide +kernel
theorem dX3_vessels_0 : decode cX3_vessels 0 = .ok (.aload_n 0, 1) := by decide +kernel
theorem dX3_vessels_1 : decode cX3_vessels 1 = .ok (.aload_n 0, 1) := by decide +kernel
theorem dX3_vessels_2 : decode cX3_vessels 2 = .ok (.iload_n 1, 1) := by decide +kernel
theorem dX3_vessels_3 : decode cX3_vessels 3 = .ok (.invokevirtual 70, 3) := by decide +kernel
theorem dX3_vessels_6 : decode cX3_vessels 6 = .ok (.ifCond .eq 12, 3) := by decide +kernel
theorem dX3_vessels_9 : decode cX3_vessels 9 = .ok (.iload_n 2, 1) := by decide +kernel
theorem dX3_vessels_10 : decode cX3_vessels 10 = .ok (.iconst 0, 1) := by decide +kernel
theorem dX3_vessels_11 : decode cX3_vessels 11 = .ok (.iconst 1, 1) := by decide +kernel
theorem dX3_vessels_12 : decode cX3_vessels 12 = .ok (.invokestatic 55, 3) := by decide +kernel
theorem dX3_vessels_15 : decode cX3_vessels 15 = .ok (.ifCond .ne 7, 3) := by decide +kernel
theorem dX3_vessels_18 : decode cX3_vessels 18 = .ok (.iconst 1, 1) := by decide +kernel
theorem dX3_vessels_19 : decode cX3_vessels 19 = .ok (.goto 4, 3) := by decide +kernel
theorem dX3_vessels_22 : decode cX3_vessels 22 = .ok (.iconst 0, 1) := by decide +kernel
theorem dX3_vessels_23 : decode cX3_vessels 23 = .ok (.iconst 0, 1) := by decide +kernel
theorem dX3_vessels_24 : decode cX3_vessels 24 = .ok (.iconst 0, 1) := by decide +kernel
theorem dX3_vessels_25 : decode cX3_vessels 25 = .ok (.invokevirtual 59, 3) := by decide +kernel
theorem dX3_vessels_28 : decode cX3_vessels 28 = .ok (.ifCond .eq 5, 3) := by decide +kernel
theorem dX3_vessels_31 : decode cX3_vessels 31 = .ok (.iconst 0, 1) := by decide +kernel
theorem dX3_vessels_32 : decode cX3_vessels 32 = .ok (.ireturn, 1) := by decide +kernel
theorem dX3_vessels_33 : decode cX3_vessels 33 = .ok (.iload_n 2, 1) := by decide +kernel
theorem dX3_vessels_34 : decode cX3_vessels 34 = .ok (.ifCond .ne 17, 3) := by decide +kernel
theorem dX3_vessels_37 : decode cX3_vessels 37 = .ok (.aload_n 0, 1) := by decide +kernel
theorem dX3_vessels_38 : decode cX3_vessels 38 = .ok (.iload_n 1, 1) := by decide +kernel
theorem dX3_vessels_39 : decode cX3_vessels 39 = .ok (.invokevirtual 157, 3) := by decide +kernel
theorem dX3_vessels_42 : decode cX3_vessels 42 = .ok (.sipush 999, 3) := by decide +kernel
theorem dX3_vessels_45 : decode cX3_vessels 45 = .ok (.iadd, 1) := by decide +kernel
theorem dX3_vessels_46 : decode cX3_vessels 46 = .ok (.sipush 1000, 3) := by decide +kernel
theorem dX3_vessels_49 : decode cX3_vessels 49 = .ok (.idiv, 1) := by decide +kernel
theorem dX3_vessels_50 : decode cX3_vessels 50 = .ok (.ireturn, 1) := by decide +kernel
theorem dX3_vessels_51 : decode cX3_vessels 51 = .ok (.iconst 0, 1) := by decide +kernel
theorem dX3_vessels_52 : decode cX3_vessels 52 = .ok (.istore_n 3, 1) := by decide +kernel
theorem dX3_vessels_53 : decode cX3_vessels 53 = .ok (.iconst 0, 1) := by decide +kernel
theorem dX3_vessels_54 : decode cX3_vessels 54 = .ok (.istore 4, 2) := by decide +kernel
theorem dX3_vessels_56 : decode cX3_vessels 56 = .ok (.iload 4, 2) := by decide +kernel
theorem dX3_vessels_58 : decode cX3_vessels 58 = .ok (.aload_n 0, 1) := by decide +kernel
theorem dX3_vessels_59 : decode cX3_vessels 59 = .ok (.getfield 154, 3) := by decide +kernel
theorem dX3_vessels_62 : decode cX3_vessels 62 = .ok (.if_icmp .ge 93, 3) := by decide +kernel
theorem dX3_vessels_65 : decode cX3_vessels 65 = .ok (.aload_n 0, 1) := by decide +kernel
theorem dX3_vessels_66 : decode cX3_vessels 66 = .ok (.getfield 35, 3) := by decide +kernel
theorem dX3_vessels_69 : decode cX3_vessels 69 = .ok (.iload 4, 2) := by decide +kernel
theorem dX3_vessels_71 : decode cX3_vessels 71 = .ok (.iaload, 1) := by decide +kernel
theorem dX3_vessels_72 : decode cX3_vessels 72 = .ok (.iload_n 1, 1) := by decide +kernel
theorem dX3_vessels_73 : decode cX3_vessels 73 = .ok (.if_icmp .eq 6, 3) := by decide +kernel
theorem dX3_vessels_76 : decode cX3_vessels 76 = .ok (.goto 73, 3) := by decide +kernel
theorem dX3_vessels_79 : decode cX3_vessels 79 = .ok (.iconst 0, 1) := by decide +kernel
theorem dX3_vessels_80 : decode cX3_vessels 80 = .ok (.istore 5, 2) := by decide +kernel
theorem dX3_vessels_82 : decode cX3_vessels 82 = .ok (.iload 5, 2) := by decide +kernel
theorem dX3_vessels_84 : decode cX3_vessels 84 = .ok (.iload_n 3, 1) := by decide +kernel
theorem dX3_vessels_85 : decode cX3_vessels 85 = .ok (.if_icmp .ge 30, 3) := by decide +kernel
theorem dX3_vessels_88 : decode cX3_vessels 88 = .ok (.aload_n 0, 1) := by decide +kernel
theorem dX3_vessels_89 : decode cX3_vessels 89 = .ok (.getfield 41, 3) := by decide +kernel
theorem dX3_vessels_92 : decode cX3_vessels 92 = .ok (.iload 5, 2) := by decide +kernel
theorem dX3_vessels_94 : decode cX3_vessels 94 = .ok (.iaload, 1) := by decide +kernel
theorem dX3_vessels_95 : decode cX3_vessels 95 = .ok (.aload_n 0, 1) := by decide +kernel
theorem dX3_vessels_96 : decode cX3_vessels 96 = .ok (.getfield 38, 3) := by decide +kernel
theorem dX3_vessels_99 : decode cX3_vessels 99 = .ok (.iload 4, 2) := by decide +kernel
theorem dX3_vessels_101 : decode cX3_vessels 101 = .ok (.iaload, 1) := by decide +kernel
theorem dX3_vessels_102 : decode cX3_vessels 102 = .ok (.iadd, 1) := by decide +kernel
theorem dX3_vessels_103 : decode cX3_vessels 103 = .ok (.sipush 1000, 3) := by decide +kernel
theorem dX3_vessels_106 : decode cX3_vessels 106 = .ok (.if_icmp .le 9, 3) := by decide +kernel
theorem dX3_vessels_109 : decode cX3_vessels 109 = .ok (.iinc 5 1, 3) := by decide +kernel
theorem dX3_vessels_112 : decode cX3_vessels 112 = .ok (.goto (-30), 3) := by decide +kernel
theorem dX3_vessels_115 : decode cX3_vessels 115 = .ok (.iload 5, 2) := by decide +kernel
theorem dX3_vessels_117 : decode cX3_vessels 117 = .ok (.iload_n 3, 1) := by decide +kernel
theorem dX3_vessels_118 : decode cX3_vessels 118 = .ok (.if_icmp .ne 14, 3) := by decide +kernel
theorem dX3_vessels_121 : decode cX3_vessels 121 = .ok (.aload_n 0, 1) := by decide +kernel
theorem dX3_vessels_122 : decode cX3_vessels 122 = .ok (.getfield 41, 3) := by decide +kernel
theorem dX3_vessels_125 : decode cX3_vessels 125 = .ok (.iload 5, 2) := by decide +kernel
theorem dX3_vessels_127 : decode cX3_vessels 127 = .ok (.iconst 0, 1) := by decide +kernel
theorem dX3_vessels_128 : decode cX3_vessels 128 = .ok (.iastore, 1) := by decide +kernel
theorem dX3_vessels_129 : decode cX3_vessels 129 = .ok (.iinc 3 1, 3) := by decide +kernel
theorem dX3_vessels_132 : decode cX3_vessels 132 = .ok (.aload_n 0, 1) := by decide +kernel
theorem dX3_vessels_133 : decode cX3_vessels 133 = .ok (.getfield 41, 3) := by decide +kernel
theorem dX3_vessels_136 : decode cX3_vessels 136 = .ok (.iload 5, 2) := by decide +kernel
theorem dX3_vessels_138 : decode cX3_vessels 138 = .ok (.dup2, 1) := by decide +kernel
theorem dX3_vessels_139 : decode cX3_vessels 139 = .ok (.iaload, 1) := by decide +kernel
theorem dX3_vessels_140 : decode cX3_vessels 140 = .ok (.aload_n 0, 1) := by decide +kernel
theorem dX3_vessels_141 : decode cX3_vessels 141 = .ok (.getfield 38, 3) := by decide +kernel
theorem dX3_vessels_144 : decode cX3_vessels 144 = .ok (.iload 4, 2) := by decide +kernel
theorem dX3_vessels_146 : decode cX3_vessels 146 = .ok (.iaload, 1) := by decide +kernel
theorem dX3_vessels_147 : decode cX3_vessels 147 = .ok (.iadd, 1) := by decide +kernel
theorem dX3_vessels_148 : decode cX3_vessels 148 = .ok (.iastore, 1) := by decide +kernel
theorem dX3_vessels_149 : decode cX3_vessels 149 = .ok (.iinc 4 1, 3) := by decide +kernel
theorem dX3_vessels_152 : decode cX3_vessels 152 = .ok (.goto (-96), 3) := by decide +kernel
theorem dX3_vessels_155 : decode cX3_vessels 155 = .ok (.iload_n 3, 1) := by decide +kernel
theorem dX3_vessels_156 : decode cX3_vessels 156 = .ok (.ireturn, 1) := by decide +kernel
theorem dX3_count_0 : decode cX3_count 0 = .ok (.aload_n 0, 1) := by decide +kernel
theorem dX3_count_1 : decode cX3_count 1 = .ok (.iload_n 1, 1) := by decide +kernel
theorem dX3_count_2 : decode cX3_count 2 = .ok (.iconst 0, 1) := by decide +kernel
theorem dX3_count_3 : decode cX3_count 3 = .ok (.iconst 3, 1) := by decide +kernel
theorem dX3_count_4 : decode cX3_count 4 = .ok (.invokestatic 55, 3) := by decide +kernel
theorem dX3_count_7 : decode cX3_count 7 = .ok (.ifCond .ne 7, 3) := by decide +kernel
theorem dX3_count_10 : decode cX3_count 10 = .ok (.iconst 1, 1) := by decide +kernel
theorem dX3_count_11 : decode cX3_count 11 = .ok (.goto 4, 3) := by decide +kernel
theorem dX3_count_14 : decode cX3_count 14 = .ok (.iconst 0, 1) := by decide +kernel
theorem dX3_count_15 : decode cX3_count 15 = .ok (.iconst 0, 1) := by decide +kernel
theorem dX3_count_16 : decode cX3_count 16 = .ok (.iconst 0, 1) := by decide +kernel
theorem dX3_count_17 : decode cX3_count 17 = .ok (.invokevirtual 59, 3) := by decide +kernel
theorem dX3_count_20 : decode cX3_count 20 = .ok (.ifCond .eq 5, 3) := by decide +kernel
theorem dX3_count_23 : decode cX3_count 23 = .ok (.iconst 0, 1) := by decide +kernel
theorem dX3_count_24 : decode cX3_count 24 = .ok (.ireturn, 1) := by decide +kernel
theorem dX3_count_25 : decode cX3_count 25 = .ok (.iload_n 1, 1) := by decide +kernel
theorem dX3_count_26 : decode cX3_count 26 = .ok (.ifCond .ne 10, 3) := by decide +kernel
theorem dX3_count_29 : decode cX3_count 29 = .ok (.aload_n 0, 1) := by decide +kernel
theorem dX3_count_30 : decode cX3_count 30 = .ok (.getfield 52, 3) := by decide +kernel
theorem dX3_count_33 : decode cX3_count 33 = .ok (.goto 31, 3) := by decide +kernel
theorem dX3_count_36 : decode cX3_count 36 = .ok (.iload_n 1, 1) := by decide +kernel
theorem dX3_count_37 : decode cX3_count 37 = .ok (.iconst 1, 1) := by decide +kernel
theorem dX3_count_38 : decode cX3_count 38 = .ok (.if_icmp .ne 10, 3) := by decide +kernel
theorem dX3_count_41 : decode cX3_count 41 = .ok (.aload_n 0, 1) := by decide +kernel
theorem dX3_count_42 : decode cX3_count 42 = .ok (.getfield 136, 3) := by decide +kernel
theorem dX3_count_45 : decode cX3_count 45 = .ok (.goto 19, 3) := by decide +kernel
theorem dX3_count_48 : decode cX3_count 48 = .ok (.iload_n 1, 1) := by decide +kernel
theorem dX3_count_49 : decode cX3_count 49 = .ok (.iconst 2, 1) := by decide +kernel
theorem dX3_count_50 : decode cX3_count 50 = .ok (.if_icmp .ne 10, 3) := by decide +kernel
theorem dX3_count_53 : decode cX3_count 53 = .ok (.aload_n 0, 1) := by decide +kernel
theorem dX3_count_54 : decode cX3_count 54 = .ok (.getfield 139, 3) := by decide +kernel
theorem dX3_count_57 : decode cX3_count 57 = .ok (.goto 7, 3) := by decide +kernel
theorem dX3_count_60 : decode cX3_count 60 = .ok (.aload_n 0, 1) := by decide +kernel
theorem dX3_count_61 : decode cX3_count 61 = .ok (.getfield 154, 3) := by decide +kernel
theorem dX3_count_64 : decode cX3_count 64 = .ok (.ireturn, 1) := by decide +kernel
