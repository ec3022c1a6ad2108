theorem dX6_open_38 : decode cX6_open 38 = .ok (.iaload, 1) := by decide +kernel
theorem dX6_open_39 : decode cX6_open 39 = .ok (.goto 8, 3) := by decide +kernel
theorem dX6_open_42 : decode cX6_open 42 = .ok (.aload_n 0, 1) := by decide +kernel
theorem dX6_open_43 : decode cX6_open 43 = .ok (.iconst 2, 1) := by decide +kernel
theorem dX6_open_44 : decode cX6_open 44 = .ok (.invokevirtual 107, 3) := by decide +kernel
theorem dX6_open_47 : decode cX6_open 47 = .ok (.ireturn, 1) := by decide +kernel
theorem dX6_coversOn_0 : decode cX6_coversOn 0 = .ok (.iconst 0, 1) := by decide +kernel
theorem dX6_coversOn_1 : decode cX6_coversOn 1 = .ok (.istore_n 3, 1) := by decide +kernel
theorem dX6_coversOn_2 : decode cX6_coversOn 2 = .ok (.iconst 0, 1) := by decide +kernel
theorem dX6_coversOn_3 : decode cX6_coversOn 3 = .ok (.istore 4, 2) := by decide +kernel
theorem dX6_coversOn_5 : decode cX6_coversOn 5 = .ok (.iload 4, 2) := by decide +kernel
theorem dX6_coversOn_7 : decode cX6_coversOn 7 = .ok (.aload_n 0, 1) := by decide +kernel
theorem dX6_coversOn_8 : decode cX6_coversOn 8 = .ok (.invokevirtual 54, 3) := by decide +kernel
theorem dX6_coversOn_11 : decode cX6_coversOn 11 = .ok (.if_icmp .ge 37, 3) := by decide +kernel
theorem dX6_coversOn_14 : decode cX6_coversOn 14 = .ok (.aload_n 0, 1) := by decide +kernel
theorem dX6_coversOn_15 : decode cX6_coversOn 15 = .ok (.iload 4, 2) := by decide +kernel
theorem dX6_coversOn_17 : decode cX6_coversOn 17 = .ok (.iconst 5, 1) := by decide +kernel
theorem dX6_coversOn_18 : decode cX6_coversOn 18 = .ok (.invokevirtual 78, 3) := by decide +kernel
theorem dX6_coversOn_21 : decode cX6_coversOn 21 = .ok (.iload_n 1, 1) := by decide +kernel
theorem dX6_coversOn_22 : decode cX6_coversOn 22 = .ok (.if_icmp .ne 20, 3) := by decide +kernel
theorem dX6_coversOn_25 : decode cX6_coversOn 25 = .ok (.aload_n 0, 1) := by decide +kernel
theorem dX6_coversOn_26 : decode cX6_coversOn 26 = .ok (.iload 4, 2) := by decide +kernel
theorem dX6_coversOn_28 : decode cX6_coversOn 28 = .ok (.iconst 0, 1) := by decide +kernel
theorem dX6_coversOn_29 : decode cX6_coversOn 29 = .ok (.invokevirtual 78, 3) := by decide +kernel
theorem dX6_coversOn_32 : decode cX6_coversOn 32 = .ok (.bipush 6, 2) := by decide +kernel
theorem dX6_coversOn_34 : decode cX6_coversOn 34 = .ok (.idiv, 1) := by decide +kernel
theorem dX6_coversOn_35 : decode cX6_coversOn 35 = .ok (.iload_n 2, 1) := by decide +kernel
theorem dX6_coversOn_36 : decode cX6_coversOn 36 = .ok (.if_icmp .ne 6, 3) := by decide +kernel
theorem dX6_coversOn_39 : decode cX6_coversOn 39 = .ok (.iinc 3 1, 3) := by decide +kernel
theorem dX6_coversOn_42 : decode cX6_coversOn 42 = .ok (.iinc 4 1, 3) := by decide +kernel
theorem dX6_coversOn_45 : decode cX6_coversOn 45 = .ok (.goto (-40), 3) := by decide +kernel
theorem dX6_coversOn_48 : decode cX6_coversOn 48 = .ok (.iload_n 3, 1) := by decide +kernel
theorem dX6_coversOn_49 : decode cX6_coversOn 49 = .ok (.ireturn, 1) := by decide +kernel
theorem dX6_bar_0 : decode cX6_bar 0 = .ok (.aload_n 0, 1) := by decide +kernel
theorem dX6_bar_1 : decode cX6_bar 1 = .ok (.iload_n 1, 1) := by decide +kernel
theorem dX6_bar_2 : decode cX6_bar 2 = .ok (.iconst 0, 1) := by decide +kernel
theorem dX6_bar_3 : decode cX6_bar 3 = .ok (.invokevirtual 78, 3) := by decide +kernel
theorem dX6_bar_6 : decode cX6_bar 6 = .ok (.istore_n 3, 1) := by decide +kernel
theorem dX6_bar_7 : decode cX6_bar 7 = .ok (.aload_n 0, 1) := by decide +kernel
theorem dX6_bar_8 : decode cX6_bar 8 = .ok (.iload_n 1, 1) := by decide +kernel
theorem dX6_bar_9 : decode cX6_bar 9 = .ok (.iconst 3, 1) := by decide +kernel
theorem dX6_bar_10 : decode cX6_bar 10 = .ok (.invokevirtual 78, 3) := by decide +kernel
theorem dX6_bar_13 : decode cX6_bar 13 = .ok (.iload_n 2, 1) := by decide +kernel
theorem dX6_bar_14 : decode cX6_bar 14 = .ok (.if_icmp .ne 5, 3) := by decide +kernel
theorem dX6_bar_17 : decode cX6_bar 17 = .ok (.iconst 1, 1) := by decide +kernel
theorem dX6_bar_18 : decode cX6_bar 18 = .ok (.ireturn, 1) := by decide +kernel
theorem dX6_bar_19 : decode cX6_bar 19 = .ok (.aload_n 0, 1) := by decide +kernel
theorem dX6_bar_20 : decode cX6_bar 20 = .ok (.iload_n 2, 1) := by decide +kernel
theorem dX6_bar_21 : decode cX6_bar 21 = .ok (.iload_n 3, 1) := by decide +kernel
theorem dX6_bar_22 : decode cX6_bar 22 = .ok (.invokevirtual 81, 3) := by decide +kernel
theorem dX6_bar_25 : decode cX6_bar 25 = .ok (.ifCond .eq 5, 3) := by decide +kernel
theorem dX6_bar_28 : decode cX6_bar 28 = .ok (.iconst 2, 1) := by decide +kernel
theorem dX6_bar_29 : decode cX6_bar 29 = .ok (.ireturn, 1) := by decide +kernel
theorem dX6_bar_30 : decode cX6_bar 30 = .ok (.aload_n 0, 1) := by decide +kernel
theorem dX6_bar_31 : decode cX6_bar 31 = .ok (.iload_n 3, 1) := by decide +kernel
theorem dX6_bar_32 : decode cX6_bar 32 = .ok (.iconst 3, 1) := by decide +kernel
theorem dX6_bar_33 : decode cX6_bar 33 = .ok (.iload_n 2, 1) := by decide +kernel
theorem dX6_bar_34 : decode cX6_bar 34 = .ok (.invokevirtual 165, 3) := by decide +kernel
theorem dX6_bar_37 : decode cX6_bar 37 = .ok (.iconst (-1), 1) := by decide +kernel
theorem dX6_bar_38 : decode cX6_bar 38 = .ok (.if_icmp .eq 5, 3) := by decide +kernel
theorem dX6_bar_41 : decode cX6_bar 41 = .ok (.iconst 3, 1) := by decide +kernel
theorem dX6_bar_42 : decode cX6_bar 42 = .ok (.ireturn, 1) := by decide +kernel
theorem dX6_bar_43 : decode cX6_bar 43 = .ok (.aload_n 0, 1) := by decide +kernel
theorem dX6_bar_44 : decode cX6_bar 44 = .ok (.iload_n 2, 1) := by decide +kernel
theorem dX6_bar_45 : decode cX6_bar 45 = .ok (.iload_n 3, 1) := by decide +kernel
theorem dX6_bar_46 : decode cX6_bar 46 = .ok (.invokevirtual 139, 3) := by decide +kernel
theorem dX6_bar_49 : decode cX6_bar 49 = .ok (.ifCond .eq 5, 3) := by decide +kernel
theorem dX6_bar_52 : decode cX6_bar 52 = .ok (.iconst 4, 1) := by decide +kernel
theorem dX6_bar_53 : decode cX6_bar 53 = .ok (.ireturn, 1) := by decide +kernel
theorem dX6_bar_54 : decode cX6_bar 54 = .ok (.aload_n 0, 1) := by decide +kernel
theorem dX6_bar_55 : decode cX6_bar 55 = .ok (.iload_n 2, 1) := by decide +kernel
theorem dX6_bar_56 : decode cX6_bar 56 = .ok (.iload_n 3, 1) := by decide +kernel
theorem dX6_bar_57 : decode cX6_bar 57 = .ok (.bipush 6, 2) := by decide +kernel
theorem dX6_bar_59 : decode cX6_bar 59 = .ok (.idiv, 1) := by decide +kernel
theorem dX6_bar_60 : decode cX6_bar 60 = .ok (.invokevirtual 179, 3) := by decide +kernel
theorem dX6_bar_63 : decode cX6_bar 63 = .ok (.aload_n 0, 1) := by decide +kernel
theorem dX6_bar_64 : decode cX6_bar 64 = .ok (.iload_n 2, 1) := by decide +kernel
theorem dX6_bar_65 : decode cX6_bar 65 = .ok (.iconst 2, 1) := by decide +kernel
theorem dX6_bar_66 : decode cX6_bar 66 = .ok (.invokevirtual 70, 3) := by decide +kernel
theorem dX6_bar_69 : decode cX6_bar 69 = .ok (.if_icmp .lt 7, 3) := by decide +kernel
theorem dX6_bar_72 : decode cX6_bar 72 = .ok (.iconst 5, 1) := by decide +kernel
theorem dX6_bar_73 : decode cX6_bar 73 = .ok (.goto 4, 3) := by decide +kernel
theorem dX6_bar_76 : decode cX6_bar 76 = .ok (.iconst 0, 1) := by decide +kernel
theorem dX6_bar_77 : decode cX6_bar 77 = .ok (.ireturn, 1) := by decide +kernel
theorem dX6_why_0 : decode cX6_why 0 = .ok (.aload_n 0, 1) := by decide +kernel
theorem dX6_why_1 : decode cX6_why 1 = .ok (.iconst 0, 1) := by decide +kernel
theorem dX6_why_2 : decode cX6_why 2 = .ok (.putfield 44, 3) := by decide +kernel
theorem dX6_why_5 : decode cX6_why 5 = .ok (.aload_n 0, 1) := by decide +kernel
theorem dX6_why_6 : decode cX6_why 6 = .ok (.iload_n 1, 1) := by decide +kernel
theorem dX6_why_7 : decode cX6_why 7 = .ok (.invokevirtual 153, 3) := by decide +kernel
theorem dX6_why_10 : decode cX6_why 10 = .ok (.ifCond .eq 11, 3) := by decide +kernel
theorem dX6_why_13 : decode cX6_why 13 = .ok (.aload_n 0, 1) := by decide +kernel
theorem dX6_why_14 : decode cX6_why 14 = .ok (.iload_n 2, 1) := by decide +kernel
theorem dX6_why_15 : decode cX6_why 15 = .ok (.invokevirtual 119, 3) := by decide +kernel
theorem dX6_why_18 : decode cX6_why 18 = .ok (.ifCond .ne 9, 3) := by decide +kernel
theorem dX6_why_21 : decode cX6_why 21 = .ok (.aload_n 0, 1) := by decide +kernel
theorem dX6_why_22 : decode cX6_why 22 = .ok (.iconst 1, 1) := by decide +kernel
theorem dX6_why_23 : decode cX6_why 23 = .ok (.invokevirtual 107, 3) := by decide +kernel
theorem dX6_why_26 : decode cX6_why 26 = .ok (.ireturn, 1) := by decide +kernel
theorem dX6_why_27 : decode cX6_why 27 = .ok (.aload_n 0, 1) := by decide +kernel
theorem dX6_why_28 : decode cX6_why 28 = .ok (.iload_n 1, 1) := by decide +kernel
theorem dX6_why_29 : decode cX6_why 29 = .ok (.invokevirtual 84, 3) := by decide +kernel
theorem dX6_why_32 : decode cX6_why 32 = .ok (.iconst 3, 1) := by decide +kernel
theorem dX6_why_33 : decode cX6_why 33 = .ok (.if_icmp .ne 12, 3) := by decide +kernel
theorem dX6_why_36 : decode cX6_why 36 = .ok (.aload_n 0, 1) := by decide +kernel
theorem dX6_why_37 : decode cX6_why 37 = .ok (.iload_n 1, 1) := by decide +kernel
theorem dX6_why_38 : decode cX6_why 38 = .ok (.iload_n 2, 1) := by decide +kernel
theorem dX6_why_39 : decode cX6_why 39 = .ok (.invokevirtual 182, 3) := by decide +kernel
theorem dX6_why_42 : decode cX6_why 42 = .ok (.goto 8, 3) := by decide +kernel
theorem dX6_why_45 : decode cX6_why 45 = .ok (.aload_n 0, 1) := by decide +kernel
theorem dX6_why_46 : decode cX6_why 46 = .ok (.iconst 2, 1) := by decide +kernel
theorem dX6_why_47 : decode cX6_why 47 = .ok (.invokevirtual 107, 3) := by decide +kernel
theorem dX6_why_50 : decode cX6_why 50 = .ok (.ireturn, 1) := by decide +kernel
theorem dX6_points_0 : decode cX6_points 0 = .ok (.aload_n 0, 1) := by decide +kernel
theorem dX6_points_1 : decode cX6_points 1 = .ok (.iconst 0, 1) := by decide +kernel
theorem dX6_points_2 : decode cX6_points 2 = .ok (.putfield 44, 3) := by decide +kernel
theorem dX6_points_5 : decode cX6_points 5 = .ok (.aload_n 0, 1) := by decide +kernel
theorem dX6_points_6 : decode cX6_points 6 = .ok (.iload_n 1, 1) := by decide +kernel
theorem dX6_points_7 : decode cX6_points 7 = .ok (.invokevirtual 153, 3) := by decide +kernel
theorem dX6_points_10 : decode cX6_points 10 = .ok (.ifCond .eq 20, 3) := by decide +kernel
theorem dX6_points_13 : decode cX6_points 13 = .ok (.aload_n 0, 1) := by decide +kernel
theorem dX6_points_14 : decode cX6_points 14 = .ok (.iload_n 2, 1) := by decide +kernel
theorem dX6_points_15 : decode cX6_points 15 = .ok (.invokevirtual 119, 3) := by decide +kernel
theorem dX6_points_18 : decode cX6_points 18 = .ok (.ifCond .eq 12, 3) := by decide +kernel
theorem dX6_points_21 : decode cX6_points 21 = .ok (.aload_n 0, 1) := by decide +kernel
theorem dX6_points_22 : decode cX6_points 22 = .ok (.iload_n 1, 1) := by decide +kernel
theorem dX6_points_23 : decode cX6_points 23 = .ok (.iload_n 2, 1) := by decide +kernel
theorem dX6_points_24 : decode cX6_points 24 = .ok (.invokevirtual 101, 3) := by decide +kernel
theorem dX6_points_27 : decode cX6_points 27 = .ok (.goto 8, 3) := by decide +kernel
theorem dX6_points_30 : decode cX6_points 30 = .ok (.aload_n 0, 1) := by decide +kernel
theorem dX6_points_31 : decode cX6_points 31 = .ok (.iconst 1, 1) := by decide +kernel
theorem dX6_points_32 : decode cX6_points 32 = .ok (.invokevirtual 107, 3) := by decide +kernel
theorem dX6_points_35 : decode cX6_points 35 = .ok (.ireturn, 1) := by decide +kernel
theorem dX6_knows_0 : decode cX6_knows 0 = .ok (.aload_n 0, 1) := by decide +kernel
theorem dX6_knows_1 : decode cX6_knows 1 = .ok (.iload_n 1, 1) := by decide +kernel
theorem dX6_knows_2 : decode cX6_knows 2 = .ok (.iconst 0, 1) := by decide +kernel
theorem dX6_knows_3 : decode cX6_knows 3 = .ok (.invokevirtual 70, 3) := by decide +kernel
theorem dX6_knows_6 : decode cX6_knows 6 = .ok (.aload_n 0, 1) := by decide +kernel
theorem dX6_knows_7 : decode cX6_knows 7 = .ok (.iload_n 2, 1) := by decide +kernel
theorem dX6_knows_8 : decode cX6_knows 8 = .ok (.iconst 2, 1) := by decide +kernel
theorem dX6_knows_9 : decode cX6_knows 9 = .ok (.invokevirtual 78, 3) := by decide +kernel
theorem dX6_knows_12 : decode cX6_knows 12 = .ok (.invokestatic 74, 3) := by decide +kernel
theorem dX6_knows_15 : decode cX6_knows 15 = .ok (.ireturn, 1) := by decide +kernel
theorem dX6_suggested_0 : decode cX6_suggested 0 = .ok (.iconst (-1), 1) := by decide +kernel
theorem dX6_suggested_1 : decode cX6_suggested 1 = .ok (.istore_n 2, 1) := by decide +kernel
theorem dX6_suggested_2 : decode cX6_suggested 2 = .ok (.iconst 0, 1) := by decide +kernel
theorem dX6_suggested_3 : decode cX6_suggested 3 = .ok (.istore_n 3, 1) := by decide +kernel
theorem dX6_suggested_4 : decode cX6_suggested 4 = .ok (.iconst 0, 1) := by decide +kernel
theorem dX6_suggested_5 : decode cX6_suggested 5 = .ok (.istore 4, 2) := by decide +kernel
theorem dX6_suggested_7 : decode cX6_suggested 7 = .ok (.iload 4, 2) := by decide +kernel
theorem dX6_suggested_9 : decode cX6_suggested 9 = .ok (.aload_n 0, 1) := by decide +kernel
theorem dX6_suggested_10 : decode cX6_suggested 10 = .ok (.invokevirtual 62, 3) := by decide +kernel
theorem dX6_suggested_13 : decode cX6_suggested 13 = .ok (.if_icmp .ge 112, 3) := by decide +kernel
theorem dX6_suggested_16 : decode cX6_suggested 16 = .ok (.aload_n 0, 1) := by decide +kernel
theorem dX6_suggested_17 : decode cX6_suggested 17 = .ok (.iload_n 1, 1) := by decide +kernel
theorem dX6_suggested_18 : decode cX6_suggested 18 = .ok (.iload 4, 2) := by decide +kernel
theorem dX6_suggested_20 : decode cX6_suggested 20 = .ok (.invokevirtual 182, 3) := by decide +kernel
theorem dX6_suggested_23 : decode cX6_suggested 23 = .ok (.ifCond .le 6, 3) := by decide +kernel
theorem dX6_suggested_26 : decode cX6_suggested 26 = .ok (.goto 93, 3) := by decide +kernel
theorem dX6_suggested_29 : decode cX6_suggested 29 = .ok (.aload_n 0, 1) := by decide +kernel
theorem dX6_suggested_30 : decode cX6_suggested 30 = .ok (.iload 4, 2) := by decide +kernel
theorem dX6_suggested_32 : decode cX6_suggested 32 = .ok (.aload_n 0, 1) := by decide +kernel
theorem dX6_suggested_33 : decode cX6_suggested 33 = .ok (.iload 4, 2) := by decide +kernel
theorem dX6_suggested_35 : decode cX6_suggested 35 = .ok (.iconst 4, 1) := by decide +kernel
theorem dX6_suggested_36 : decode cX6_suggested 36 = .ok (.invokevirtual 70, 3) := by decide +kernel
theorem dX6_suggested_39 : decode cX6_suggested 39 = .ok (.aload_n 0, 1) := by decide +kernel
theorem dX6_suggested_40 : decode cX6_suggested 40 = .ok (.iload_n 1, 1) := by decide +kernel
theorem dX6_suggested_41 : decode cX6_suggested 41 = .ok (.iload 4, 2) := by decide +kernel
theorem dX6_suggested_43 : decode cX6_suggested 43 = .ok (.invokevirtual 101, 3) := by decide +kernel
theorem dX6_suggested_46 : decode cX6_suggested 46 = .ok (.iadd, 1) := by decide +kernel
theorem dX6_suggested_47 : decode cX6_suggested 47 = .ok (.invokevirtual 159, 3) := by decide +kernel
theorem dX6_suggested_50 : decode cX6_suggested 50 = .ok (.istore 5, 2) := by decide +kernel
theorem dX6_suggested_52 : decode cX6_suggested 52 = .ok (.iload_n 2, 1) := by decide +kernel
theorem dX6_suggested_53 : decode cX6_suggested 53 = .ok (.iconst (-1), 1) := by decide +kernel
theorem dX6_suggested_54 : decode cX6_suggested 54 = .ok (.if_icmp .eq 44, 3) := by decide +kernel
theorem dX6_suggested_57 : decode cX6_suggested 57 = .ok (.aload_n 0, 1) := by decide +kernel
theorem dX6_suggested_58 : decode cX6_suggested 58 = .ok (.iload 4, 2) := by decide +kernel
theorem dX6_suggested_60 : decode cX6_suggested 60 = .ok (.iload_n 1, 1) := by decide +kernel
theorem dX6_suggested_61 : decode cX6_suggested 61 = .ok (.invokevirtual 185, 3) := by decide +kernel
theorem dX6_suggested_64 : decode cX6_suggested 64 = .ok (.ifCond .eq 12, 3) := by decide +kernel
theorem dX6_suggested_67 : decode cX6_suggested 67 = .ok (.aload_n 0, 1) := by decide +kernel
theorem dX6_suggested_68 : decode cX6_suggested 68 = .ok (.iload_n 2, 1) := by decide +kernel
theorem dX6_suggested_69 : decode cX6_suggested 69 = .ok (.iload_n 1, 1) := by decide +kernel
theorem dX6_suggested_70 : decode cX6_suggested 70 = .ok (.invokevirtual 185, 3) := by decide +kernel
theorem dX6_suggested_73 : decode cX6_suggested 73 = .ok (.ifCond .eq 25, 3) := by decide +kernel
theorem dX6_suggested_76 : decode cX6_suggested 76 = .ok (.aload_n 0, 1) := by decide +kernel
theorem dX6_suggested_77 : decode cX6_suggested 77 = .ok (.iload 4, 2) := by decide +kernel
theorem dX6_suggested_79 : decode cX6_suggested 79 = .ok (.iload_n 1, 1) := by decide +kernel
theorem dX6_suggested_80 : decode cX6_suggested 80 = .ok (.invokevirtual 185, 3) := by decide +kernel
theorem dX6_suggested_83 : decode cX6_suggested 83 = .ok (.aload_n 0, 1) := by decide +kernel
theorem dX6_suggested_84 : decode cX6_suggested 84 = .ok (.iload_n 2, 1) := by decide +kernel
theorem dX6_suggested_85 : decode cX6_suggested 85 = .ok (.iload_n 1, 1) := by decide +kernel
theorem dX6_suggested_86 : decode cX6_suggested 86 = .ok (.invokevirtual 185, 3) := by decide +kernel
theorem dX6_suggested_89 : decode cX6_suggested 89 = .ok (.if_icmp .ne 13, 3) := by decide +kernel
theorem dX6_suggested_92 : decode cX6_suggested 92 = .ok (.iload 5, 2) := by decide +kernel
theorem dX6_suggested_94 : decode cX6_suggested 94 = .ok (.iload_n 3, 1) := by decide +kernel
theorem dX6_suggested_95 : decode cX6_suggested 95 = .ok (.if_icmp .ge 7, 3) := by decide +kernel
theorem dX6_suggested_98 : decode cX6_suggested 98 = .ok (.iconst 1, 1) := by decide +kernel
theorem dX6_suggested_99 : decode cX6_suggested 99 = .ok (.goto 4, 3) := by decide +kernel
theorem dX6_suggested_102 : decode cX6_suggested 102 = .ok (.iconst 0, 1) := by decide +kernel
theorem dX6_suggested_103 : decode cX6_suggested 103 = .ok (.istore 6, 2) := by decide +kernel
theorem dX6_suggested_105 : decode cX6_suggested 105 = .ok (.iload 6, 2) := by decide +kernel
theorem dX6_suggested_107 : decode cX6_suggested 107 = .ok (.ifCond .ne 6, 3) := by decide +kernel
theorem dX6_suggested_110 : decode cX6_suggested 110 = .ok (.goto 9, 3) := by decide +kernel
theorem dX6_suggested_113 : decode cX6_suggested 113 = .ok (.iload 4, 2) := by decide +kernel
theorem dX6_suggested_115 : decode cX6_suggested 115 = .ok (.istore_n 2, 1) := by decide +kernel
theorem dX6_suggested_116 : decode cX6_suggested 116 = .ok (.iload 5, 2) := by decide +kernel
theorem dX6_suggested_118 : decode cX6_suggested 118 = .ok (.istore_n 3, 1) := by decide +kernel
theorem dX6_suggested_119 : decode cX6_suggested 119 = .ok (.iinc 4 1, 3) := by decide +kernel
theorem dX6_suggested_122 : decode cX6_suggested 122 = .ok (.goto (-115), 3) := by decide +kernel
theorem dX6_suggested_125 : decode cX6_suggested 125 = .ok (.iload_n 2, 1) := by decide +kernel
theorem dX6_suggested_126 : decode cX6_suggested 126 = .ok (.ireturn, 1) := by decide +kernel
theorem dX6_suggestion_0 : decode cX6_suggestion 0 = .ok (.aload_n 0, 1) := by decide +kernel
theorem dX6_suggestion_1 : decode cX6_suggestion 1 = .ok (.iconst 0, 1) := by decide +kernel
theorem dX6_suggestion_2 : decode cX6_suggestion 2 = .ok (.putfield 44, 3) := by decide +kernel
theorem dX6_suggestion_5 : decode cX6_suggestion 5 = .ok (.aload_n 0, 1) := by decide +kernel
theorem dX6_suggestion_6 : decode cX6_suggestion 6 = .ok (.iload_n 1, 1) := by decide +kernel
theorem dX6_suggestion_7 : decode cX6_suggestion 7 = .ok (.invokevirtual 153, 3) := by decide +kernel
theorem dX6_suggestion_10 : decode cX6_suggestion 10 = .ok (.ifCond .ne 9, 3) := by decide +kernel
theorem dX6_suggestion_13 : decode cX6_suggestion 13 = .ok (.aload_n 0, 1) := by decide +kernel
theorem dX6_suggestion_14 : decode cX6_suggestion 14 = .ok (.iconst 1, 1) := by decide +kernel
theorem dX6_suggestion_15 : decode cX6_suggestion 15 = .ok (.invokevirtual 107, 3) := by decide +kernel
theorem dX6_suggestion_18 : decode cX6_suggestion 18 = .ok (.ireturn, 1) := by decide +kernel
theorem dX6_suggestion_19 : decode cX6_suggestion 19 = .ok (.aload_n 0, 1) := by decide +kernel
theorem dX6_suggestion_20 : decode cX6_suggestion 20 = .ok (.iload_n 1, 1) := by decide +kernel
theorem dX6_suggestion_21 : decode cX6_suggestion 21 = .ok (.invokevirtual 84, 3) := by decide +kernel
theorem dX6_suggestion_24 : decode cX6_suggestion 24 = .ok (.iconst 3, 1) := by decide +kernel
theorem dX6_suggestion_25 : decode cX6_suggestion 25 = .ok (.if_icmp .eq 9, 3) := by decide +kernel
theorem dX6_suggestion_28 : decode cX6_suggestion 28 = .ok (.aload_n 0, 1) := by decide +kernel
theorem dX6_suggestion_29 : decode cX6_suggestion 29 = .ok (.iconst 2, 1) := by decide +kernel
theorem dX6_suggestion_30 : decode cX6_suggestion 30 = .ok (.invokevirtual 107, 3) := by decide +kernel
theorem dX6_suggestion_33 : decode cX6_suggestion 33 = .ok (.ireturn, 1) := by decide +kernel
theorem dX6_suggestion_34 : decode cX6_suggestion 34 = .ok (.aload_n 0, 1) := by decide +kernel
theorem dX6_suggestion_35 : decode cX6_suggestion 35 = .ok (.iload_n 1, 1) := by decide +kernel
theorem dX6_suggestion_36 : decode cX6_suggestion 36 = .ok (.invokevirtual 188, 3) := by decide +kernel
theorem dX6_suggestion_39 : decode cX6_suggestion 39 = .ok (.istore_n 2, 1) := by decide +kernel
theorem dX6_suggestion_40 : decode cX6_suggestion 40 = .ok (.iload_n 2, 1) := by decide +kernel
theorem dX6_suggestion_41 : decode cX6_suggestion 41 = .ok (.iconst (-1), 1) := by decide +kernel
theorem dX6_suggestion_42 : decode cX6_suggestion 42 = .ok (.if_icmp .ne 11, 3) := by decide +kernel
theorem dX6_suggestion_45 : decode cX6_suggestion 45 = .ok (.aload_n 0, 1) := by decide +kernel
theorem dX6_suggestion_46 : decode cX6_suggestion 46 = .ok (.iconst 3, 1) := by decide +kernel
theorem dX6_suggestion_47 : decode cX6_suggestion 47 = .ok (.invokevirtual 107, 3) := by decide +kernel
theorem dX6_suggestion_50 : decode cX6_suggestion 50 = .ok (.goto 4, 3) := by decide +kernel
theorem dX6_suggestion_53 : decode cX6_suggestion 53 = .ok (.iload_n 2, 1) := by decide +kernel
theorem dX6_suggestion_54 : decode cX6_suggestion 54 = .ok (.ireturn, 1) := by decide +kernel
theorem dX6_begins_0 : decode cX6_begins 0 = .ok (.aload_n 0, 1) := by decide +kernel
theorem dX6_begins_1 : decode cX6_begins 1 = .ok (.getfield 9, 3) := by decide +kernel
theorem dX6_begins_4 : decode cX6_begins 4 = .ok (.iload_n 1, 1) := by decide +kernel
theorem dX6_begins_5 : decode cX6_begins 5 = .ok (.invokestatic 47, 3) := by decide +kernel
theorem dX6_begins_8 : decode cX6_begins 8 = .ok (.iconst 5, 1) := by decide +kernel
theorem dX6_begins_9 : decode cX6_begins 9 = .ok (.iadd, 1) := by decide +kernel
theorem dX6_begins_10 : decode cX6_begins 10 = .ok (.iload_n 2, 1) := by decide +kernel
theorem dX6_begins_11 : decode cX6_begins 11 = .ok (.iastore, 1) := by decide +kernel
theorem dX6_begins_12 : decode cX6_begins 12 = .ok (.aload_n 0, 1) := by decide +kernel
theorem dX6_begins_13 : decode cX6_begins 13 = .ok (.iload_n 2, 1) := by decide +kernel
theorem dX6_begins_14 : decode cX6_begins 14 = .ok (.aload_n 0, 1) := by decide +kernel
theorem dX6_begins_15 : decode cX6_begins 15 = .ok (.iload_n 1, 1) := by decide +kernel
theorem dX6_begins_16 : decode cX6_begins 16 = .ok (.iload_n 2, 1) := by decide +kernel
theorem dX6_begins_17 : decode cX6_begins 17 = .ok (.invokevirtual 101, 3) := by decide +kernel
theorem dX6_begins_20 : decode cX6_begins 20 = .ok (.invokevirtual 90, 3) := by decide +kernel
theorem dX6_begins_23 : decode cX6_begins 23 = .ok (.aload_n 0, 1) := by decide +kernel
theorem dX6_begins_24 : decode cX6_begins 24 = .ok (.iload_n 1, 1) := by decide +kernel
theorem dX6_begins_25 : decode cX6_begins 25 = .ok (.iload_n 2, 1) := by decide +kernel
theorem dX6_begins_26 : decode cX6_begins 26 = .ok (.invokevirtual 101, 3) := by decide +kernel
theorem dX6_begins_29 : decode cX6_begins 29 = .ok (.ireturn, 1) := by decide +kernel
theorem dX6_cover_0 : decode cX6_cover 0 = .ok (.aload_n 0, 1) := by decide +kernel
theorem dX6_cover_1 : decode cX6_cover 1 = .ok (.iconst 0, 1) := by decide +kernel
theorem dX6_cover_2 : decode cX6_cover 2 = .ok (.putfield 44, 3) := by decide +kernel
theorem dX6_cover_5 : decode cX6_cover 5 = .ok (.aload_n 0, 1) := by decide +kernel
theorem dX6_cover_6 : decode cX6_cover 6 = .ok (.iload_n 1, 1) := by decide +kernel
theorem dX6_cover_7 : decode cX6_cover 7 = .ok (.invokevirtual 153, 3) := by decide +kernel
theorem dX6_cover_10 : decode cX6_cover 10 = .ok (.ifCond .eq 11, 3) := by decide +kernel
theorem dX6_cover_13 : decode cX6_cover 13 = .ok (.aload_n 0, 1) := by decide +kernel
theorem dX6_cover_14 : decode cX6_cover 14 = .ok (.iload_n 2, 1) := by decide +kernel
theorem dX6_cover_15 : decode cX6_cover 15 = .ok (.invokevirtual 119, 3) := by decide +kernel
theorem dX6_cover_18 : decode cX6_cover 18 = .ok (.ifCond .ne 9, 3) := by decide +kernel
theorem dX6_cover_21 : decode cX6_cover 21 = .ok (.aload_n 0, 1) := by decide +kernel
theorem dX6_cover_22 : decode cX6_cover 22 = .ok (.iconst 1, 1) := by decide +kernel
theorem dX6_cover_23 : decode cX6_cover 23 = .ok (.invokevirtual 107, 3) := by decide +kernel
theorem dX6_cover_26 : decode cX6_cover 26 = .ok (.ireturn, 1) := by decide +kernel
theorem dX6_cover_27 : decode cX6_cover 27 = .ok (.aload_n 0, 1) := by decide +kernel
theorem dX6_cover_28 : decode cX6_cover 28 = .ok (.iload_n 1, 1) := by decide +kernel
theorem dX6_cover_29 : decode cX6_cover 29 = .ok (.invokevirtual 84, 3) := by decide +kernel
theorem dX6_cover_32 : decode cX6_cover 32 = .ok (.iconst 3, 1) := by decide +kernel
theorem dX6_cover_33 : decode cX6_cover 33 = .ok (.if_icmp .eq 9, 3) := by decide +kernel
theorem dX6_cover_36 : decode cX6_cover 36 = .ok (.aload_n 0, 1) := by decide +kernel
theorem dX6_cover_37 : decode cX6_cover 37 = .ok (.iconst 2, 1) := by decide +kernel
theorem dX6_cover_38 : decode cX6_cover 38 = .ok (.invokevirtual 107, 3) := by decide +kernel
theorem dX6_cover_41 : decode cX6_cover 41 = .ok (.ireturn, 1) := by decide +kernel
theorem dX6_cover_42 : decode cX6_cover 42 = .ok (.aload_n 0, 1) := by decide +kernel
theorem dX6_cover_43 : decode cX6_cover 43 = .ok (.iload_n 1, 1) := by decide +kernel
theorem dX6_cover_44 : decode cX6_cover 44 = .ok (.iload_n 2, 1) := by decide +kernel
theorem dX6_cover_45 : decode cX6_cover 45 = .ok (.invokevirtual 182, 3) := by decide +kernel
theorem dX6_cover_48 : decode cX6_cover 48 = .ok (.istore_n 3, 1) := by decide +kernel
theorem dX6_cover_49 : decode cX6_cover 49 = .ok (.iload_n 3, 1) := by decide +kernel
theorem dX6_cover_50 : decode cX6_cover 50 = .ok (.ifCond .le 14, 3) := by decide +kernel
theorem dX6_cover_53 : decode cX6_cover 53 = .ok (.aload_n 0, 1) := by decide +kernel
theorem dX6_cover_54 : decode cX6_cover 54 = .ok (.iload_n 3, 1) := by decide +kernel
theorem dX6_cover_55 : decode cX6_cover 55 = .ok (.putfield 191, 3) := by decide +kernel
theorem dX6_cover_58 : decode cX6_cover 58 = .ok (.aload_n 0, 1) := by decide +kernel
theorem dX6_cover_59 : decode cX6_cover 59 = .ok (.iconst 3, 1) := by decide +kernel
theorem dX6_cover_60 : decode cX6_cover 60 = .ok (.invokevirtual 107, 3) := by decide +kernel
theorem dX6_cover_63 : decode cX6_cover 63 = .ok (.ireturn, 1) := by decide +kernel
theorem dX6_cover_64 : decode cX6_cover 64 = .ok (.aload_n 0, 1) := by decide +kernel
theorem dX6_cover_65 : decode cX6_cover 65 = .ok (.invokevirtual 68, 3) := by decide +kernel
theorem dX6_cover_68 : decode cX6_cover 68 = .ok (.aload_n 0, 1) := by decide +kernel
theorem dX6_cover_69 : decode cX6_cover 69 = .ok (.iload_n 1, 1) := by decide +kernel
theorem dX6_cover_70 : decode cX6_cover 70 = .ok (.iload_n 2, 1) := by decide +kernel
theorem dX6_cover_71 : decode cX6_cover 71 = .ok (.invokevirtual 194, 3) := by decide +kernel
theorem dX6_cover_74 : decode cX6_cover 74 = .ok (.ireturn, 1) := by decide +kernel
theorem dX6_uncover_0 : decode cX6_uncover 0 = .ok (.aload_n 0, 1) := by decide +kernel
theorem dX6_uncover_1 : decode cX6_uncover 1 = .ok (.iconst 0, 1) := by decide +kernel
theorem dX6_uncover_2 : decode cX6_uncover 2 = .ok (.putfield 44, 3) := by decide +kernel
theorem dX6_uncover_5 : decode cX6_uncover 5 = .ok (.aload_n 0, 1) := by decide +kernel
theorem dX6_uncover_6 : decode cX6_uncover 6 = .ok (.iload_n 1, 1) := by decide +kernel
theorem dX6_uncover_7 : decode cX6_uncover 7 = .ok (.invokevirtual 153, 3) := by decide +kernel
theorem dX6_uncover_10 : decode cX6_uncover 10 = .ok (.ifCond .ne 9, 3) := by decide +kernel
theorem dX6_uncover_13 : decode cX6_uncover 13 = .ok (.aload_n 0, 1) := by decide +kernel
theorem dX6_uncover_14 : decode cX6_uncover 14 = .ok (.iconst 1, 1) := by decide +kernel
theorem dX6_uncover_15 : decode cX6_uncover 15 = .ok (.invokevirtual 107, 3) := by decide +kernel
theorem dX6_uncover_18 : decode cX6_uncover 18 = .ok (.ireturn, 1) := by decide +kernel
theorem dX6_uncover_19 : decode cX6_uncover 19 = .ok (.aload_n 0, 1) := by decide +kernel
theorem dX6_uncover_20 : decode cX6_uncover 20 = .ok (.iload_n 1, 1) := by decide +kernel
theorem dX6_uncover_21 : decode cX6_uncover 21 = .ok (.invokevirtual 84, 3) := by decide +kernel
theorem dX6_uncover_24 : decode cX6_uncover 24 = .ok (.iconst 1, 1) := by decide +kernel
theorem dX6_uncover_25 : decode cX6_uncover 25 = .ok (.if_icmp .eq 9, 3) := by decide +kernel
theorem dX6_uncover_28 : decode cX6_uncover 28 = .ok (.aload_n 0, 1) := by decide +kernel
theorem dX6_uncover_29 : decode cX6_uncover 29 = .ok (.iconst 2, 1) := by decide +kernel
theorem dX6_uncover_30 : decode cX6_uncover 30 = .ok (.invokevirtual 107, 3) := by decide +kernel
theorem dX6_uncover_33 : decode cX6_uncover 33 = .ok (.ireturn, 1) := by decide +kernel
theorem dX6_uncover_34 : decode cX6_uncover 34 = .ok (.aload_n 0, 1) := by decide +kernel
theorem dX6_uncover_35 : decode cX6_uncover 35 = .ok (.invokevirtual 68, 3) := by decide +kernel
theorem dX6_uncover_38 : decode cX6_uncover 38 = .ok (.aload_n 0, 1) := by decide +kernel
theorem dX6_uncover_39 : decode cX6_uncover 39 = .ok (.iload_n 1, 1) := by decide +kernel
theorem dX6_uncover_40 : decode cX6_uncover 40 = .ok (.iconst 5, 1) := by decide +kernel
theorem dX6_uncover_41 : decode cX6_uncover 41 = .ok (.invokevirtual 78, 3) := by decide +kernel
theorem dX6_uncover_44 : decode cX6_uncover 44 = .ok (.istore_n 2, 1) := by decide +kernel
theorem dX6_uncover_45 : decode cX6_uncover 45 = .ok (.aload_n 0, 1) := by decide +kernel
theorem dX6_uncover_46 : decode cX6_uncover 46 = .ok (.iload_n 1, 1) := by decide +kernel
theorem dX6_uncover_47 : decode cX6_uncover 47 = .ok (.invokevirtual 104, 3) := by decide +kernel
theorem dX6_uncover_50 : decode cX6_uncover 50 = .ok (.pop, 1) := by decide +kernel
theorem dX6_uncover_51 : decode cX6_uncover 51 = .ok (.iload_n 2, 1) := by decide +kernel
theorem dX6_uncover_52 : decode cX6_uncover 52 = .ok (.ireturn, 1) := by decide +kernel
theorem dX6_canHost_0 : decode cX6_canHost 0 = .ok (.aload_n 0, 1) := by decide +kernel
theorem dX6_canHost_1 : decode cX6_canHost 1 = .ok (.iload_n 1, 1) := by decide +kernel
theorem dX6_canHost_2 : decode cX6_canHost 2 = .ok (.invokevirtual 87, 3) := by decide +kernel
theorem dX6_canHost_5 : decode cX6_canHost 5 = .ok (.iconst (-1), 1) := by decide +kernel
theorem dX6_canHost_6 : decode cX6_canHost 6 = .ok (.if_icmp .eq 31, 3) := by decide +kernel
theorem dX6_canHost_9 : decode cX6_canHost 9 = .ok (.aload_n 0, 1) := by decide +kernel
theorem dX6_canHost_10 : decode cX6_canHost 10 = .ok (.iload_n 1, 1) := by decide +kernel
theorem dX6_canHost_11 : decode cX6_canHost 11 = .ok (.invokevirtual 126, 3) := by decide +kernel
theorem dX6_canHost_14 : decode cX6_canHost 14 = .ok (.iload_n 2, 1) := by decide +kernel
theorem dX6_canHost_15 : decode cX6_canHost 15 = .ok (.iadd, 1) := by decide +kernel
theorem dX6_canHost_16 : decode cX6_canHost 16 = .ok (.aload_n 0, 1) := by decide +kernel
theorem dX6_canHost_17 : decode cX6_canHost 17 = .ok (.getfield 9, 3) := by decide +kernel
theorem dX6_canHost_20 : decode cX6_canHost 20 = .ok (.bipush 10, 2) := by decide +kernel
theorem dX6_canHost_22 : decode cX6_canHost 22 = .ok (.aload_n 0, 1) := by decide +kernel
theorem dX6_canHost_23 : decode cX6_canHost 23 = .ok (.iload_n 1, 1) := by decide +kernel
theorem dX6_canHost_24 : decode cX6_canHost 24 = .ok (.iconst 4, 1) := by decide +kernel
theorem dX6_canHost_25 : decode cX6_canHost 25 = .ok (.invokevirtual 78, 3) := by decide +kernel
theorem dX6_canHost_28 : decode cX6_canHost 28 = .ok (.iadd, 1) := by decide +kernel
theorem dX6_canHost_29 : decode cX6_canHost 29 = .ok (.iaload, 1) := by decide +kernel
theorem dX6_canHost_30 : decode cX6_canHost 30 = .ok (.if_icmp .gt 7, 3) := by decide +kernel
theorem dX6_canHost_33 : decode cX6_canHost 33 = .ok (.iconst 1, 1) := by decide +kernel
theorem dX6_canHost_34 : decode cX6_canHost 34 = .ok (.goto 4, 3) := by decide +kernel
theorem dX6_canHost_37 : decode cX6_canHost 37 = .ok (.iconst 0, 1) := by decide +kernel
theorem dX6_canHost_38 : decode cX6_canHost 38 = .ok (.ireturn, 1) := by decide +kernel
theorem dX6_split_0 : decode cX6_split 0 = .ok (.aload_n 0, 1) := by decide +kernel
theorem dX6_split_1 : decode cX6_split 1 = .ok (.iconst 0, 1) := by decide +kernel
theorem dX6_split_2 : decode cX6_split 2 = .ok (.putfield 44, 3) := by decide +kernel
theorem dX6_split_5 : decode cX6_split 5 = .ok (.aload_n 0, 1) := by decide +kernel
theorem dX6_split_6 : decode cX6_split 6 = .ok (.iload_n 1, 1) := by decide +kernel
theorem dX6_split_7 : decode cX6_split 7 = .ok (.invokevirtual 153, 3) := by decide +kernel
theorem dX6_split_10 : decode cX6_split 10 = .ok (.ifCond .eq 19, 3) := by decide +kernel
theorem dX6_split_13 : decode cX6_split 13 = .ok (.aload_n 0, 1) := by decide +kernel
theorem dX6_split_14 : decode cX6_split 14 = .ok (.iload_n 2, 1) := by decide +kernel
theorem dX6_split_15 : decode cX6_split 15 = .ok (.invokevirtual 153, 3) := by decide +kernel
theorem dX6_split_18 : decode cX6_split 18 = .ok (.ifCond .eq 11, 3) := by decide +kernel
theorem dX6_split_21 : decode cX6_split 21 = .ok (.aload_n 0, 1) := by decide +kernel
theorem dX6_split_22 : decode cX6_split 22 = .ok (.iload_n 3, 1) := by decide +kernel
theorem dX6_split_23 : decode cX6_split 23 = .ok (.invokevirtual 153, 3) := by decide +kernel
theorem dX6_split_26 : decode cX6_split 26 = .ok (.ifCond .ne 9, 3) := by decide +kernel
theorem dX6_split_29 : decode cX6_split 29 = .ok (.aload_n 0, 1) := by decide +kernel
theorem dX6_split_30 : decode cX6_split 30 = .ok (.iconst 1, 1) := by decide +kernel
theorem dX6_split_31 : decode cX6_split 31 = .ok (.invokevirtual 107, 3) := by decide +kernel
theorem dX6_split_34 : decode cX6_split 34 = .ok (.ireturn, 1) := by decide +kernel
theorem dX6_split_35 : decode cX6_split 35 = .ok (.aload_n 0, 1) := by decide +kernel
theorem dX6_split_36 : decode cX6_split 36 = .ok (.iload_n 1, 1) := by decide +kernel
theorem dX6_split_37 : decode cX6_split 37 = .ok (.invokevirtual 84, 3) := by decide +kernel
theorem dX6_split_40 : decode cX6_split 40 = .ok (.iconst 3, 1) := by decide +kernel
theorem dX6_split_41 : decode cX6_split 41 = .ok (.if_icmp .eq 9, 3) := by decide +kernel
theorem dX6_split_44 : decode cX6_split 44 = .ok (.aload_n 0, 1) := by decide +kernel
theorem dX6_split_45 : decode cX6_split 45 = .ok (.iconst 2, 1) := by decide +kernel
theorem dX6_split_46 : decode cX6_split 46 = .ok (.invokevirtual 107, 3) := by decide +kernel
theorem dX6_split_49 : decode cX6_split 49 = .ok (.ireturn, 1) := by decide +kernel
theorem dX6_split_50 : decode cX6_split 50 = .ok (.iload_n 2, 1) := by decide +kernel
theorem dX6_split_51 : decode cX6_split 51 = .ok (.iload_n 3, 1) := by decide +kernel
theorem dX6_split_52 : decode cX6_split 52 = .ok (.if_icmp .eq 33, 3) := by decide +kernel
theorem dX6_split_55 : decode cX6_split 55 = .ok (.aload_n 0, 1) := by decide +kernel
theorem dX6_split_56 : decode cX6_split 56 = .ok (.iload_n 2, 1) := by decide +kernel
theorem dX6_split_57 : decode cX6_split 57 = .ok (.iconst 0, 1) := by decide +kernel
theorem dX6_split_58 : decode cX6_split 58 = .ok (.invokevirtual 78, 3) := by decide +kernel
theorem dX6_split_61 : decode cX6_split 61 = .ok (.aload_n 0, 1) := by decide +kernel
theorem dX6_split_62 : decode cX6_split 62 = .ok (.iload_n 1, 1) := by decide +kernel
theorem dX6_split_63 : decode cX6_split 63 = .ok (.iconst 0, 1) := by decide +kernel
theorem dX6_split_64 : decode cX6_split 64 = .ok (.invokevirtual 78, 3) := by decide +kernel
theorem dX6_split_67 : decode cX6_split 67 = .ok (.if_icmp .ne 18, 3) := by decide +kernel
theorem dX6_split_70 : decode cX6_split 70 = .ok (.aload_n 0, 1) := by decide +kernel
theorem dX6_split_71 : decode cX6_split 71 = .ok (.iload_n 3, 1) := by decide +kernel
theorem dX6_split_72 : decode cX6_split 72 = .ok (.iconst 0, 1) := by decide +kernel
theorem dX6_split_73 : decode cX6_split 73 = .ok (.invokevirtual 78, 3) := by decide +kernel
theorem dX6_split_76 : decode cX6_split 76 = .ok (.aload_n 0, 1) := by decide +kernel
theorem dX6_split_77 : decode cX6_split 77 = .ok (.iload_n 1, 1) := by decide +kernel
theorem dX6_split_78 : decode cX6_split 78 = .ok (.iconst 0, 1) := by decide +kernel
theorem dX6_split_79 : decode cX6_split 79 = .ok (.invokevirtual 78, 3) := by decide +kernel
theorem dX6_split_82 : decode cX6_split 82 = .ok (.if_icmp .eq 9, 3) := by decide +kernel
theorem dX6_split_85 : decode cX6_split 85 = .ok (.aload_n 0, 1) := by decide +kernel
theorem dX6_split_86 : decode cX6_split 86 = .ok (.iconst 3, 1) := by decide +kernel
theorem dX6_split_87 : decode cX6_split 87 = .ok (.invokevirtual 107, 3) := by decide +kernel
theorem dX6_split_90 : decode cX6_split 90 = .ok (.ireturn, 1) := by decide +kernel
theorem dX6_split_91 : decode cX6_split 91 = .ok (.aload_n 0, 1) := by decide +kernel
theorem dX6_split_92 : decode cX6_split 92 = .ok (.getfield 9, 3) := by decide +kernel
theorem dX6_split_95 : decode cX6_split 95 = .ok (.iconst 4, 1) := by decide +kernel
theorem dX6_split_96 : decode cX6_split 96 = .ok (.aload_n 0, 1) := by decide +kernel
theorem dX6_split_97 : decode cX6_split 97 = .ok (.iload_n 1, 1) := by decide +kernel
theorem dX6_split_98 : decode cX6_split 98 = .ok (.iconst 1, 1) := by decide +kernel
theorem dX6_split_99 : decode cX6_split 99 = .ok (.invokevirtual 78, 3) := by decide +kernel
theorem dX6_split_102 : decode cX6_split 102 = .ok (.iadd, 1) := by decide +kernel
theorem dX6_split_103 : decode cX6_split 103 = .ok (.iaload, 1) := by decide +kernel
theorem dX6_split_104 : decode cX6_split 104 = .ok (.istore 4, 2) := by decide +kernel
theorem dX6_split_106 : decode cX6_split 106 = .ok (.aload_n 0, 1) := by decide +kernel
theorem dX6_split_107 : decode cX6_split 107 = .ok (.iload_n 2, 1) := by decide +kernel
theorem dX6_split_108 : decode cX6_split 108 = .ok (.iload 4, 2) := by decide +kernel
theorem dX6_split_110 : decode cX6_split 110 = .ok (.iconst 1, 1) := by decide +kernel
theorem dX6_split_111 : decode cX6_split 111 = .ok (.iadd, 1) := by decide +kernel
theorem dX6_split_112 : decode cX6_split 112 = .ok (.iconst 2, 1) := by decide +kernel
theorem dX6_split_113 : decode cX6_split 113 = .ok (.idiv, 1) := by decide +kernel
theorem dX6_split_114 : decode cX6_split 114 = .ok (.invokevirtual 197, 3) := by decide +kernel
theorem dX6_split_117 : decode cX6_split 117 = .ok (.ifCond .eq 15, 3) := by decide +kernel
theorem dX6_split_120 : decode cX6_split 120 = .ok (.aload_n 0, 1) := by decide +kernel
theorem dX6_split_121 : decode cX6_split 121 = .ok (.iload_n 3, 1) := by decide +kernel
theorem dX6_split_122 : decode cX6_split 122 = .ok (.iload 4, 2) := by decide +kernel
theorem dX6_split_124 : decode cX6_split 124 = .ok (.iconst 2, 1) := by decide +kernel
theorem dX6_split_125 : decode cX6_split 125 = .ok (.idiv, 1) := by decide +kernel
theorem dX6_split_126 : decode cX6_split 126 = .ok (.invokevirtual 197, 3) := by decide +kernel
theorem dX6_split_129 : decode cX6_split 129 = .ok (.ifCond .ne 9, 3) := by decide +kernel
theorem dX6_split_132 : decode cX6_split 132 = .ok (.aload_n 0, 1) := by decide +kernel
theorem dX6_split_133 : decode cX6_split 133 = .ok (.iconst 4, 1) := by decide +kernel
theorem dX6_split_134 : decode cX6_split 134 = .ok (.invokevirtual 107, 3) := by decide +kernel
theorem dX6_split_137 : decode cX6_split 137 = .ok (.ireturn, 1) := by decide +kernel
theorem dX6_split_138 : decode cX6_split 138 = .ok (.aload_n 0, 1) := by decide +kernel
theorem dX6_split_139 : decode cX6_split 139 = .ok (.invokevirtual 68, 3) := by decide +kernel
theorem dX6_split_142 : decode cX6_split 142 = .ok (.aload_n 0, 1) := by decide +kernel
theorem dX6_split_143 : decode cX6_split 143 = .ok (.getfield 9, 3) := by decide +kernel
theorem dX6_split_146 : decode cX6_split 146 = .ok (.iload_n 1, 1) := by decide +kernel
theorem dX6_split_147 : decode cX6_split 147 = .ok (.invokestatic 47, 3) := by decide +kernel
theorem dX6_split_150 : decode cX6_split 150 = .ok (.bipush 6, 2) := by decide +kernel
theorem dX6_split_152 : decode cX6_split 152 = .ok (.iadd, 1) := by decide +kernel
theorem dX6_split_153 : decode cX6_split 153 = .ok (.iload_n 2, 1) := by decide +kernel
theorem dX6_split_154 : decode cX6_split 154 = .ok (.iastore, 1) := by decide +kernel
theorem dX6_split_155 : decode cX6_split 155 = .ok (.aload_n 0, 1) := by decide +kernel
theorem dX6_split_156 : decode cX6_split 156 = .ok (.getfield 9, 3) := by decide +kernel
theorem dX6_split_159 : decode cX6_split 159 = .ok (.iload_n 1, 1) := by decide +kernel
theorem dX6_split_160 : decode cX6_split 160 = .ok (.invokestatic 47, 3) := by decide +kernel
theorem dX6_split_163 : decode cX6_split 163 = .ok (.bipush 7, 2) := by decide +kernel
theorem dX6_split_165 : decode cX6_split 165 = .ok (.iadd, 1) := by decide +kernel
theorem dX6_split_166 : decode cX6_split 166 = .ok (.iload_n 3, 1) := by decide +kernel
theorem dX6_split_167 : decode cX6_split 167 = .ok (.iastore, 1) := by decide +kernel
theorem dX6_split_168 : decode cX6_split 168 = .ok (.aload_n 0, 1) := by decide +kernel
theorem dX6_split_169 : decode cX6_split 169 = .ok (.aload_n 0, 1) := by decide +kernel
theorem dX6_split_170 : decode cX6_split 170 = .ok (.iload_n 2, 1) := by decide +kernel
theorem dX6_split_171 : decode cX6_split 171 = .ok (.invokevirtual 87, 3) := by decide +kernel
theorem dX6_split_174 : decode cX6_split 174 = .ok (.iconst 1, 1) := by decide +kernel
theorem dX6_split_175 : decode cX6_split 175 = .ok (.invokevirtual 90, 3) := by decide +kernel
theorem dX6_split_178 : decode cX6_split 178 = .ok (.aload_n 0, 1) := by decide +kernel
theorem dX6_split_179 : decode cX6_split 179 = .ok (.aload_n 0, 1) := by decide +kernel
theorem dX6_split_180 : decode cX6_split 180 = .ok (.iload_n 3, 1) := by decide +kernel
theorem dX6_split_181 : decode cX6_split 181 = .ok (.invokevirtual 87, 3) := by decide +kernel
theorem dX6_split_184 : decode cX6_split 184 = .ok (.iconst 1, 1) := by decide +kernel
theorem dX6_split_185 : decode cX6_split 185 = .ok (.invokevirtual 90, 3) := by decide +kernel
theorem dX6_split_188 : decode cX6_split 188 = .ok (.iload 4, 2) := by decide +kernel
theorem dX6_split_190 : decode cX6_split 190 = .ok (.iconst 1, 1) := by decide +kernel
theorem dX6_split_191 : decode cX6_split 191 = .ok (.iadd, 1) := by decide +kernel
theorem dX6_split_192 : decode cX6_split 192 = .ok (.iconst 2, 1) := by decide +kernel
theorem dX6_split_193 : decode cX6_split 193 = .ok (.idiv, 1) := by decide +kernel
theorem dX6_split_194 : decode cX6_split 194 = .ok (.ireturn, 1) := by decide +kernel
theorem dX6_unsplit_0 : decode cX6_unsplit 0 = .ok (.aload_n 0, 1) := by decide +kernel
theorem dX6_unsplit_1 : decode cX6_unsplit 1 = .ok (.iconst 0, 1) := by decide +kernel
theorem dX6_unsplit_2 : decode cX6_unsplit 2 = .ok (.putfield 44, 3) := by decide +kernel
theorem dX6_unsplit_5 : decode cX6_unsplit 5 = .ok (.aload_n 0, 1) := by decide +kernel
theorem dX6_unsplit_6 : decode cX6_unsplit 6 = .ok (.iload_n 1, 1) := by decide +kernel
theorem dX6_unsplit_7 : decode cX6_unsplit 7 = .ok (.invokevirtual 153, 3) := by decide +kernel
theorem dX6_unsplit_10 : decode cX6_unsplit 10 = .ok (.ifCond .ne 9, 3) := by decide +kernel
theorem dX6_unsplit_13 : decode cX6_unsplit 13 = .ok (.aload_n 0, 1) := by decide +kernel
theorem dX6_unsplit_14 : decode cX6_unsplit 14 = .ok (.iconst 1, 1) := by decide +kernel
theorem dX6_unsplit_15 : decode cX6_unsplit 15 = .ok (.invokevirtual 107, 3) := by decide +kernel
theorem dX6_unsplit_18 : decode cX6_unsplit 18 = .ok (.ireturn, 1) := by decide +kernel
theorem dX6_unsplit_19 : decode cX6_unsplit 19 = .ok (.aload_n 0, 1) := by decide +kernel
theorem dX6_unsplit_20 : decode cX6_unsplit 20 = .ok (.iload_n 1, 1) := by decide +kernel
theorem dX6_unsplit_21 : decode cX6_unsplit 21 = .ok (.invokevirtual 84, 3) := by decide +kernel
theorem dX6_unsplit_24 : decode cX6_unsplit 24 = .ok (.iconst 2, 1) := by decide +kernel
theorem dX6_unsplit_25 : decode cX6_unsplit 25 = .ok (.if_icmp .eq 9, 3) := by decide +kernel
theorem dX6_unsplit_28 : decode cX6_unsplit 28 = .ok (.aload_n 0, 1) := by decide +kernel
theorem dX6_unsplit_29 : decode cX6_unsplit 29 = .ok (.iconst 2, 1) := by decide +kernel
theorem dX6_unsplit_30 : decode cX6_unsplit 30 = .ok (.invokevirtual 107, 3) := by decide +kernel
theorem dX6_unsplit_33 : decode cX6_unsplit 33 = .ok (.ireturn, 1) := by decide +kernel
theorem dX6_unsplit_34 : decode cX6_unsplit 34 = .ok (.aload_n 0, 1) := by decide +kernel
theorem dX6_unsplit_35 : decode cX6_unsplit 35 = .ok (.invokevirtual 68, 3) := by decide +kernel
theorem dX6_unsplit_38 : decode cX6_unsplit 38 = .ok (.aload_n 0, 1) := by decide +kernel
theorem dX6_unsplit_39 : decode cX6_unsplit 39 = .ok (.iload_n 1, 1) := by decide +kernel
theorem dX6_unsplit_40 : decode cX6_unsplit 40 = .ok (.invokevirtual 94, 3) := by decide +kernel
theorem dX6_unsplit_43 : decode cX6_unsplit 43 = .ok (.aload_n 0, 1) := by decide +kernel
theorem dX6_unsplit_44 : decode cX6_unsplit 44 = .ok (.getfield 9, 3) := by decide +kernel
theorem dX6_unsplit_47 : decode cX6_unsplit 47 = .ok (.iconst 4, 1) := by decide +kernel
theorem dX6_unsplit_48 : decode cX6_unsplit 48 = .ok (.aload_n 0, 1) := by decide +kernel
theorem dX6_unsplit_49 : decode cX6_unsplit 49 = .ok (.iload_n 1, 1) := by decide +kernel
theorem dX6_unsplit_50 : decode cX6_unsplit 50 = .ok (.iconst 1, 1) := by decide +kernel
theorem dX6_unsplit_51 : decode cX6_unsplit 51 = .ok (.invokevirtual 78, 3) := by decide +kernel
theorem dX6_unsplit_54 : decode cX6_unsplit 54 = .ok (.iadd, 1) := by decide +kernel
theorem dX6_unsplit_55 : decode cX6_unsplit 55 = .ok (.iaload, 1) := by decide +kernel
theorem dX6_unsplit_56 : decode cX6_unsplit 56 = .ok (.ireturn, 1) := by decide +kernel
theorem dX6_host_0 : decode cX6_host 0 = .ok (.aload_n 0, 1) := by decide +kernel
theorem dX6_host_1 : decode cX6_host 1 = .ok (.iconst 0, 1) := by decide +kernel
theorem dX6_host_2 : decode cX6_host 2 = .ok (.putfield 44, 3) := by decide +kernel
theorem dX6_host_5 : decode cX6_host 5 = .ok (.aload_n 0, 1) := by decide +kernel
theorem dX6_host_6 : decode cX6_host 6 = .ok (.iload_n 1, 1) := by decide +kernel
theorem dX6_host_7 : decode cX6_host 7 = .ok (.invokevirtual 153, 3) := by decide +kernel
theorem dX6_host_10 : decode cX6_host 10 = .ok (.ifCond .ne 9, 3) := by decide +kernel
theorem dX6_host_13 : decode cX6_host 13 = .ok (.aload_n 0, 1) := by decide +kernel
theorem dX6_host_14 : decode cX6_host 14 = .ok (.iconst 1, 1) := by decide +kernel
theorem dX6_host_15 : decode cX6_host 15 = .ok (.invokevirtual 107, 3) := by decide +kernel
theorem dX6_host_18 : decode cX6_host 18 = .ok (.ireturn, 1) := by decide +kernel
theorem dX6_host_19 : decode cX6_host 19 = .ok (.aload_n 0, 1) := by decide +kernel
theorem dX6_host_20 : decode cX6_host 20 = .ok (.iload_n 1, 1) := by decide +kernel
theorem dX6_host_21 : decode cX6_host 21 = .ok (.invokevirtual 84, 3) := by decide +kernel
theorem dX6_host_24 : decode cX6_host 24 = .ok (.iconst 2, 1) := by decide +kernel
theorem dX6_host_25 : decode cX6_host 25 = .ok (.if_icmp .ne 22, 3) := by decide +kernel
theorem dX6_host_28 : decode cX6_host 28 = .ok (.aload_n 0, 1) := by decide +kernel
theorem dX6_host_29 : decode cX6_host 29 = .ok (.iload_n 1, 1) := by decide +kernel
theorem dX6_host_30 : decode cX6_host 30 = .ok (.iload_n 2, 1) := by decide +kernel
theorem dX6_host_31 : decode cX6_host 31 = .ok (.ifCond .eq 8, 3) := by decide +kernel
theorem dX6_host_34 : decode cX6_host 34 = .ok (.bipush 7, 2) := by decide +kernel
theorem dX6_host_36 : decode cX6_host 36 = .ok (.goto 5, 3) := by decide +kernel
theorem dX6_host_39 : decode cX6_host 39 = .ok (.bipush 6, 2) := by decide +kernel
theorem dX6_host_41 : decode cX6_host 41 = .ok (.invokevirtual 78, 3) := by decide +kernel
theorem dX6_host_44 : decode cX6_host 44 = .ok (.goto 8, 3) := by decide +kernel
theorem dX6_host_47 : decode cX6_host 47 = .ok (.aload_n 0, 1) := by decide +kernel
theorem dX6_host_48 : decode cX6_host 48 = .ok (.iconst 2, 1) := by decide +kernel
theorem dX6_host_49 : decode cX6_host 49 = .ok (.invokevirtual 107, 3) := by decide +kernel
theorem dX6_host_52 : decode cX6_host 52 = .ok (.ireturn, 1) := by decide +kernel
theorem dX6_refusal_0 : decode cX6_refusal 0 = .ok (.aload_n 0, 1) := by decide +kernel
theorem dX6_refusal_1 : decode cX6_refusal 1 = .ok (.iconst 0, 1) := by decide +kernel
theorem dX6_refusal_2 : decode cX6_refusal 2 = .ok (.putfield 44, 3) := by decide +kernel
theorem dX6_refusal_5 : decode cX6_refusal 5 = .ok (.aload_n 0, 1) := by decide +kernel
theorem dX6_refusal_6 : decode cX6_refusal 6 = .ok (.getfield 191, 3) := by decide +kernel
theorem dX6_refusal_9 : decode cX6_refusal 9 = .ok (.ifCond .ne 11, 3) := by decide +kernel
theorem dX6_refusal_12 : decode cX6_refusal 12 = .ok (.aload_n 0, 1) := by decide +kernel
theorem dX6_refusal_13 : decode cX6_refusal 13 = .ok (.iconst 1, 1) := by decide +kernel
theorem dX6_refusal_14 : decode cX6_refusal 14 = .ok (.invokevirtual 107, 3) := by decide +kernel
theorem dX6_refusal_17 : decode cX6_refusal 17 = .ok (.goto 7, 3) := by decide +kernel
theorem dX6_refusal_20 : decode cX6_refusal 20 = .ok (.aload_n 0, 1) := by decide +kernel
theorem dX6_refusal_21 : decode cX6_refusal 21 = .ok (.getfield 191, 3) := by decide +kernel
theorem dX6_refusal_24 : decode cX6_refusal 24 = .ok (.ireturn, 1) := by decide +kernel
theorem dX6_coverDay_0 : decode cX6_coverDay 0 = .ok (.aload_n 0, 1) := by decide +kernel
theorem dX6_coverDay_1 : decode cX6_coverDay 1 = .ok (.iconst 0, 1) := by decide +kernel
theorem dX6_coverDay_2 : decode cX6_coverDay 2 = .ok (.putfield 44, 3) := by decide +kernel
theorem dX6_coverDay_5 : decode cX6_coverDay 5 = .ok (.iload_n 1, 1) := by decide +kernel
theorem dX6_coverDay_6 : decode cX6_coverDay 6 = .ok (.invokestatic 173, 3) := by decide +kernel
theorem dX6_coverDay_9 : decode cX6_coverDay 9 = .ok (.ifCond .ne 9, 3) := by decide +kernel
theorem dX6_coverDay_12 : decode cX6_coverDay 12 = .ok (.aload_n 0, 1) := by decide +kernel
theorem dX6_coverDay_13 : decode cX6_coverDay 13 = .ok (.iconst 1, 1) := by decide +kernel
theorem dX6_coverDay_14 : decode cX6_coverDay 14 = .ok (.invokevirtual 107, 3) := by decide +kernel
theorem dX6_coverDay_17 : decode cX6_coverDay 17 = .ok (.ireturn, 1) := by decide +kernel
theorem dX6_coverDay_18 : decode cX6_coverDay 18 = .ok (.aload_n 0, 1) := by decide +kernel
theorem dX6_coverDay_19 : decode cX6_coverDay 19 = .ok (.invokevirtual 68, 3) := by decide +kernel
theorem dX6_coverDay_22 : decode cX6_coverDay 22 = .ok (.aload_n 0, 1) := by decide +kernel
theorem dX6_coverDay_23 : decode cX6_coverDay 23 = .ok (.iload_n 1, 1) := by decide +kernel
theorem dX6_coverDay_24 : decode cX6_coverDay 24 = .ok (.invokevirtual 176, 3) := by decide +kernel
theorem dX6_coverDay_27 : decode cX6_coverDay 27 = .ok (.istore_n 2, 1) := by decide +kernel
theorem dX6_coverDay_28 : decode cX6_coverDay 28 = .ok (.iconst 0, 1) := by decide +kernel
theorem dX6_coverDay_29 : decode cX6_coverDay 29 = .ok (.istore_n 3, 1) := by decide +kernel
theorem dX6_coverDay_30 : decode cX6_coverDay 30 = .ok (.iconst 0, 1) := by decide +kernel
theorem dX6_coverDay_31 : decode cX6_coverDay 31 = .ok (.istore 4, 2) := by decide +kernel
theorem dX6_coverDay_33 : decode cX6_coverDay 33 = .ok (.iload 4, 2) := by decide +kernel
theorem dX6_coverDay_35 : decode cX6_coverDay 35 = .ok (.iload_n 2, 1) := by decide +kernel
theorem dX6_coverDay_36 : decode cX6_coverDay 36 = .ok (.if_icmp .ge 48, 3) := by decide +kernel
theorem dX6_coverDay_39 : decode cX6_coverDay 39 = .ok (.aload_n 0, 1) := by decide +kernel
theorem dX6_coverDay_40 : decode cX6_coverDay 40 = .ok (.aload_n 0, 1) := by decide +kernel
theorem dX6_coverDay_41 : decode cX6_coverDay 41 = .ok (.getfield 29, 3) := by decide +kernel
theorem dX6_coverDay_44 : decode cX6_coverDay 44 = .ok (.iload 4, 2) := by decide +kernel
theorem dX6_coverDay_46 : decode cX6_coverDay 46 = .ok (.iaload, 1) := by decide +kernel
theorem dX6_coverDay_47 : decode cX6_coverDay 47 = .ok (.invokevirtual 188, 3) := by decide +kernel
theorem dX6_coverDay_50 : decode cX6_coverDay 50 = .ok (.istore 5, 2) := by decide +kernel
theorem dX6_coverDay_52 : decode cX6_coverDay 52 = .ok (.iload 5, 2) := by decide +kernel
theorem dX6_coverDay_54 : decode cX6_coverDay 54 = .ok (.iconst (-1), 1) := by decide +kernel
theorem dX6_coverDay_55 : decode cX6_coverDay 55 = .ok (.if_icmp .ne 6, 3) := by decide +kernel
theorem dX6_coverDay_58 : decode cX6_coverDay 58 = .ok (.goto 20, 3) := by decide +kernel
theorem dX6_coverDay_61 : decode cX6_coverDay 61 = .ok (.aload_n 0, 1) := by decide +kernel
theorem dX6_coverDay_62 : decode cX6_coverDay 62 = .ok (.aload_n 0, 1) := by decide +kernel
theorem dX6_coverDay_63 : decode cX6_coverDay 63 = .ok (.getfield 29, 3) := by decide +kernel
theorem dX6_coverDay_66 : decode cX6_coverDay 66 = .ok (.iload 4, 2) := by decide +kernel
theorem dX6_coverDay_68 : decode cX6_coverDay 68 = .ok (.iaload, 1) := by decide +kernel
theorem dX6_coverDay_69 : decode cX6_coverDay 69 = .ok (.iload 5, 2) := by decide +kernel
theorem dX6_coverDay_71 : decode cX6_coverDay 71 = .ok (.invokevirtual 194, 3) := by decide +kernel
theorem dX6_coverDay_74 : decode cX6_coverDay 74 = .ok (.pop, 1) := by decide +kernel
theorem dX6_coverDay_75 : decode cX6_coverDay 75 = .ok (.iinc 3 1, 3) := by decide +kernel
theorem dX6_coverDay_78 : decode cX6_coverDay 78 = .ok (.iinc 4 1, 3) := by decide +kernel
theorem dX6_coverDay_81 : decode cX6_coverDay 81 = .ok (.goto (-48), 3) := by decide +kernel
theorem dX6_coverDay_84 : decode cX6_coverDay 84 = .ok (.iload_n 3, 1) := by decide +kernel
theorem dX6_coverDay_85 : decode cX6_coverDay 85 = .ok (.ireturn, 1) := by decide +kernel
theorem dX6_spreadNow_0 : decode cX6_spreadNow 0 = .ok (.aload_n 0, 1) := by decide +kernel
theorem dX6_spreadNow_1 : decode cX6_spreadNow 1 = .ok (.iconst 0, 1) := by decide +kernel
theorem dX6_spreadNow_2 : decode cX6_spreadNow 2 = .ok (.aload_n 0, 1) := by decide +kernel
theorem dX6_spreadNow_3 : decode cX6_spreadNow 3 = .ok (.iconst 0, 1) := by decide +kernel
theorem dX6_spreadNow_4 : decode cX6_spreadNow 4 = .ok (.iconst 4, 1) := by decide +kernel
theorem dX6_spreadNow_5 : decode cX6_spreadNow 5 = .ok (.invokevirtual 70, 3) := by decide +kernel
theorem dX6_spreadNow_8 : decode cX6_spreadNow 8 = .ok (.invokevirtual 159, 3) := by decide +kernel
theorem dX6_spreadNow_11 : decode cX6_spreadNow 11 = .ok (.istore_n 1, 1) := by decide +kernel
theorem dX6_spreadNow_12 : decode cX6_spreadNow 12 = .ok (.iload_n 1, 1) := by decide +kernel
theorem dX6_spreadNow_13 : decode cX6_spreadNow 13 = .ok (.istore_n 2, 1) := by decide +kernel
theorem dX6_spreadNow_14 : decode cX6_spreadNow 14 = .ok (.iconst 1, 1) := by decide +kernel
theorem dX6_spreadNow_15 : decode cX6_spreadNow 15 = .ok (.istore_n 3, 1) := by decide +kernel
theorem dX6_spreadNow_16 : decode cX6_spreadNow 16 = .ok (.iload_n 3, 1) := by decide +kernel
theorem dX6_spreadNow_17 : decode cX6_spreadNow 17 = .ok (.aload_n 0, 1) := by decide +kernel
theorem dX6_spreadNow_18 : decode cX6_spreadNow 18 = .ok (.invokevirtual 62, 3) := by decide +kernel
theorem dX6_spreadNow_21 : decode cX6_spreadNow 21 = .ok (.if_icmp .ge 41, 3) := by decide +kernel
theorem dX6_spreadNow_24 : decode cX6_spreadNow 24 = .ok (.iload_n 1, 1) := by decide +kernel
theorem dX6_spreadNow_25 : decode cX6_spreadNow 25 = .ok (.aload_n 0, 1) := by decide +kernel
theorem dX6_spreadNow_26 : decode cX6_spreadNow 26 = .ok (.iload_n 3, 1) := by decide +kernel
theorem dX6_spreadNow_27 : decode cX6_spreadNow 27 = .ok (.aload_n 0, 1) := by decide +kernel
theorem dX6_spreadNow_28 : decode cX6_spreadNow 28 = .ok (.iload_n 3, 1) := by decide +kernel
theorem dX6_spreadNow_29 : decode cX6_spreadNow 29 = .ok (.iconst 4, 1) := by decide +kernel
theorem dX6_spreadNow_30 : decode cX6_spreadNow 30 = .ok (.invokevirtual 70, 3) := by decide +kernel
theorem dX6_spreadNow_33 : decode cX6_spreadNow 33 = .ok (.invokevirtual 159, 3) := by decide +kernel
theorem dX6_spreadNow_36 : decode cX6_spreadNow 36 = .ok (.invokestatic 200, 3) := by decide +kernel
theorem dX6_spreadNow_39 : decode cX6_spreadNow 39 = .ok (.istore_n 1, 1) := by decide +kernel
theorem dX6_spreadNow_40 : decode cX6_spreadNow 40 = .ok (.iload_n 2, 1) := by decide +kernel
theorem dX6_spreadNow_41 : decode cX6_spreadNow 41 = .ok (.aload_n 0, 1) := by decide +kernel
theorem dX6_spreadNow_42 : decode cX6_spreadNow 42 = .ok (.iload_n 3, 1) := by decide +kernel
theorem dX6_spreadNow_43 : decode cX6_spreadNow 43 = .ok (.aload_n 0, 1) := by decide +kernel
theorem dX6_spreadNow_44 : decode cX6_spreadNow 44 = .ok (.iload_n 3, 1) := by decide +kernel
theorem dX6_spreadNow_45 : decode cX6_spreadNow 45 = .ok (.iconst 4, 1) := by decide +kernel
theorem dX6_spreadNow_46 : decode cX6_spreadNow 46 = .ok (.invokevirtual 70, 3) := by decide +kernel
theorem dX6_spreadNow_49 : decode cX6_spreadNow 49 = .ok (.invokevirtual 159, 3) := by decide +kernel
theorem dX6_spreadNow_52 : decode cX6_spreadNow 52 = .ok (.invokestatic 205, 3) := by decide +kernel
theorem dX6_spreadNow_55 : decode cX6_spreadNow 55 = .ok (.istore_n 2, 1) := by decide +kernel
theorem dX6_spreadNow_56 : decode cX6_spreadNow 56 = .ok (.iinc 3 1, 3) := by decide +kernel
theorem dX6_spreadNow_59 : decode cX6_spreadNow 59 = .ok (.goto (-43), 3) := by decide +kernel
theorem dX6_spreadNow_62 : decode cX6_spreadNow 62 = .ok (.iload_n 2, 1) := by decide +kernel
theorem dX6_spreadNow_63 : decode cX6_spreadNow 63 = .ok (.iload_n 1, 1) := by decide +kernel
theorem dX6_spreadNow_64 : decode cX6_spreadNow 64 = .ok (.isub, 1) := by decide +kernel
theorem dX6_spreadNow_65 : decode cX6_spreadNow 65 = .ok (.ireturn, 1) := by decide +kernel
theorem dX6_spread_0 : decode cX6_spread 0 = .ok (.aload_n 0, 1) := by decide +kernel
theorem dX6_spread_1 : decode cX6_spread 1 = .ok (.iconst 0, 1) := by decide +kernel
theorem dX6_spread_2 : decode cX6_spread 2 = .ok (.putfield 44, 3) := by decide +kernel
theorem dX6_spread_5 : decode cX6_spread 5 = .ok (.aload_n 0, 1) := by decide +kernel
theorem dX6_spread_6 : decode cX6_spread 6 = .ok (.invokevirtual 62, 3) := by decide +kernel
theorem dX6_spread_9 : decode cX6_spread 9 = .ok (.ifCond .ne 11, 3) := by decide +kernel
theorem dX6_spread_12 : decode cX6_spread 12 = .ok (.aload_n 0, 1) := by decide +kernel
theorem dX6_spread_13 : decode cX6_spread 13 = .ok (.iconst 1, 1) := by decide +kernel
theorem dX6_spread_14 : decode cX6_spread 14 = .ok (.invokevirtual 107, 3) := by decide +kernel
theorem dX6_spread_17 : decode cX6_spread 17 = .ok (.goto 7, 3) := by decide +kernel
theorem dX6_spread_20 : decode cX6_spread 20 = .ok (.aload_n 0, 1) := by decide +kernel
theorem dX6_spread_21 : decode cX6_spread 21 = .ok (.invokevirtual 208, 3) := by decide +kernel
theorem dX6_spread_24 : decode cX6_spread 24 = .ok (.ireturn, 1) := by decide +kernel
theorem dX6_extreme_0 : decode cX6_extreme 0 = .ok (.aload_n 0, 1) := by decide +kernel
theorem dX6_extreme_1 : decode cX6_extreme 1 = .ok (.iconst 0, 1) := by decide +kernel
theorem dX6_extreme_2 : decode cX6_extreme 2 = .ok (.putfield 44, 3) := by decide +kernel
theorem dX6_extreme_5 : decode cX6_extreme 5 = .ok (.aload_n 0, 1) := by decide +kernel
theorem dX6_extreme_6 : decode cX6_extreme 6 = .ok (.invokevirtual 62, 3) := by decide +kernel
theorem dX6_extreme_9 : decode cX6_extreme 9 = .ok (.ifCond .ne 9, 3) := by decide +kernel
theorem dX6_extreme_12 : decode cX6_extreme 12 = .ok (.aload_n 0, 1) := by decide +kernel
theorem dX6_extreme_13 : decode cX6_extreme 13 = .ok (.iconst 1, 1) := by decide +kernel
theorem dX6_extreme_14 : decode cX6_extreme 14 = .ok (.invokevirtual 107, 3) := by decide +kernel
theorem dX6_extreme_17 : decode cX6_extreme 17 = .ok (.ireturn, 1) := by decide +kernel
theorem dX6_extreme_18 : decode cX6_extreme 18 = .ok (.iconst 0, 1) := by decide +kernel
theorem dX6_extreme_19 : decode cX6_extreme 19 = .ok (.istore_n 2, 1) := by decide +kernel
theorem dX6_extreme_20 : decode cX6_extreme 20 = .ok (.iconst 1, 1) := by decide +kernel
theorem dX6_extreme_21 : decode cX6_extreme 21 = .ok (.istore_n 3, 1) := by decide +kernel
theorem dX6_extreme_22 : decode cX6_extreme 22 = .ok (.iload_n 3, 1) := by decide +kernel
theorem dX6_extreme_23 : decode cX6_extreme 23 = .ok (.aload_n 0, 1) := by decide +kernel
theorem dX6_extreme_24 : decode cX6_extreme 24 = .ok (.invokevirtual 62, 3) := by decide +kernel
theorem dX6_extreme_27 : decode cX6_extreme 27 = .ok (.if_icmp .ge 53, 3) := by decide +kernel
theorem dX6_extreme_30 : decode cX6_extreme 30 = .ok (.aload_n 0, 1) := by decide +kernel
theorem dX6_extreme_31 : decode cX6_extreme 31 = .ok (.iload_n 3, 1) := by decide +kernel
theorem dX6_extreme_32 : decode cX6_extreme 32 = .ok (.aload_n 0, 1) := by decide +kernel
theorem dX6_extreme_33 : decode cX6_extreme 33 = .ok (.iload_n 3, 1) := by decide +kernel
theorem dX6_extreme_34 : decode cX6_extreme 34 = .ok (.iconst 4, 1) := by decide +kernel
theorem dX6_extreme_35 : decode cX6_extreme 35 = .ok (.invokevirtual 70, 3) := by decide +kernel
theorem dX6_extreme_38 : decode cX6_extreme 38 = .ok (.invokevirtual 159, 3) := by decide +kernel
theorem dX6_extreme_41 : decode cX6_extreme 41 = .ok (.aload_n 0, 1) := by decide +kernel
theorem dX6_extreme_42 : decode cX6_extreme 42 = .ok (.iload_n 2, 1) := by decide +kernel
theorem dX6_extreme_43 : decode cX6_extreme 43 = .ok (.aload_n 0, 1) := by decide +kernel
theorem dX6_extreme_44 : decode cX6_extreme 44 = .ok (.iload_n 2, 1) := by decide +kernel
theorem dX6_extreme_45 : decode cX6_extreme 45 = .ok (.iconst 4, 1) := by decide +kernel
theorem dX6_extreme_46 : decode cX6_extreme 46 = .ok (.invokevirtual 70, 3) := by decide +kernel
theorem dX6_extreme_49 : decode cX6_extreme 49 = .ok (.invokevirtual 159, 3) := by decide +kernel
theorem dX6_extreme_52 : decode cX6_extreme 52 = .ok (.isub, 1) := by decide +kernel
theorem dX6_extreme_53 : decode cX6_extreme 53 = .ok (.istore 4, 2) := by decide +kernel
theorem dX6_extreme_55 : decode cX6_extreme 55 = .ok (.iload_n 1, 1) := by decide +kernel
theorem dX6_extreme_56 : decode cX6_extreme 56 = .ok (.ifCond .eq 11, 3) := by decide +kernel
theorem dX6_extreme_59 : decode cX6_extreme 59 = .ok (.iload 4, 2) := by decide +kernel
theorem dX6_extreme_61 : decode cX6_extreme 61 = .ok (.ifCond .le 13, 3) := by decide +kernel
theorem dX6_extreme_64 : decode cX6_extreme 64 = .ok (.goto 8, 3) := by decide +kernel
theorem dX6_extreme_67 : decode cX6_extreme 67 = .ok (.iload 4, 2) := by decide +kernel
theorem dX6_extreme_69 : decode cX6_extreme 69 = .ok (.ifCond .ge 5, 3) := by decide +kernel
theorem dX6_extreme_72 : decode cX6_extreme 72 = .ok (.iload_n 3, 1) := by decide +kernel
theorem dX6_extreme_73 : decode cX6_extreme 73 = .ok (.istore_n 2, 1) := by decide +kernel
theorem dX6_extreme_74 : decode cX6_extreme 74 = .ok (.iinc 3 1, 3) := by decide +kernel
theorem dX6_extreme_77 : decode cX6_extreme 77 = .ok (.goto (-55), 3) := by decide +kernel
theorem dX6_extreme_80 : decode cX6_extreme 80 = .ok (.iload_n 2, 1) := by decide +kernel
theorem dX6_extreme_81 : decode cX6_extreme 81 = .ok (.ireturn, 1) := by decide +kernel
theorem dX6_plans_0 : decode cX6_plans 0 = .ok (.iload_n 1, 1) := by decide +kernel
theorem dX6_plans_1 : decode cX6_plans 1 = .ok (.iload_n 2, 1) := by decide +kernel
theorem dX6_plans_2 : decode cX6_plans 2 = .ok (.if_icmp .ne 81, 3) := by decide +kernel
theorem dX6_plans_5 : decode cX6_plans 5 = .ok (.aload_n 0, 1) := by decide +kernel
theorem dX6_plans_6 : decode cX6_plans 6 = .ok (.dup, 1) := by decide +kernel
theorem dX6_plans_7 : decode cX6_plans 7 = .ok (.getfield 211, 3) := by decide +kernel
theorem dX6_plans_10 : decode cX6_plans 10 = .ok (.iconst 1, 1) := by decide +kernel
theorem dX6_plans_11 : decode cX6_plans 11 = .ok (.iadd, 1) := by decide +kernel
theorem dX6_plans_12 : decode cX6_plans 12 = .ok (.putfield 211, 3) := by decide +kernel
theorem dX6_plans_15 : decode cX6_plans 15 = .ok (.aload_n 0, 1) := by decide +kernel
theorem dX6_plans_16 : decode cX6_plans 16 = .ok (.invokevirtual 62, 3) := by decide +kernel
theorem dX6_plans_19 : decode cX6_plans 19 = .ok (.ifCond .ne 7, 3) := by decide +kernel
theorem dX6_plans_22 : decode cX6_plans 22 = .ok (.iconst 0, 1) := by decide +kernel
theorem dX6_plans_23 : decode cX6_plans 23 = .ok (.goto 7, 3) := by decide +kernel
theorem dX6_plans_26 : decode cX6_plans 26 = .ok (.aload_n 0, 1) := by decide +kernel
theorem dX6_plans_27 : decode cX6_plans 27 = .ok (.invokevirtual 208, 3) := by decide +kernel
theorem dX6_plans_30 : decode cX6_plans 30 = .ok (.istore_n 3, 1) := by decide +kernel
theorem dX6_plans_31 : decode cX6_plans 31 = .ok (.aload_n 0, 1) := by decide +kernel
theorem dX6_plans_32 : decode cX6_plans 32 = .ok (.getfield 211, 3) := by decide +kernel
theorem dX6_plans_35 : decode cX6_plans 35 = .ok (.iconst 1, 1) := by decide +kernel
theorem dX6_plans_36 : decode cX6_plans 36 = .ok (.if_icmp .le 12, 3) := by decide +kernel
theorem dX6_plans_39 : decode cX6_plans 39 = .ok (.iload_n 3, 1) := by decide +kernel
theorem dX6_plans_40 : decode cX6_plans 40 = .ok (.aload_n 0, 1) := by decide +kernel
theorem dX6_plans_41 : decode cX6_plans 41 = .ok (.getfield 214, 3) := by decide +kernel
theorem dX6_plans_44 : decode cX6_plans 44 = .ok (.if_icmp .lt 4, 3) := by decide +kernel
theorem dX6_plans_47 : decode cX6_plans 47 = .ok (.return_, 1) := by decide +kernel
theorem dX6_plans_48 : decode cX6_plans 48 = .ok (.aload_n 0, 1) := by decide +kernel
theorem dX6_plans_49 : decode cX6_plans 49 = .ok (.iload_n 3, 1) := by decide +kernel
theorem dX6_plans_50 : decode cX6_plans 50 = .ok (.putfield 214, 3) := by decide +kernel
theorem dX6_plans_53 : decode cX6_plans 53 = .ok (.iconst 0, 1) := by decide +kernel
theorem dX6_plans_54 : decode cX6_plans 54 = .ok (.istore 4, 2) := by decide +kernel
theorem dX6_plans_56 : decode cX6_plans 56 = .ok (.iload 4, 2) := by decide +kernel
theorem dX6_plans_58 : decode cX6_plans 58 = .ok (.iload_n 2, 1) := by decide +kernel
theorem dX6_plans_59 : decode cX6_plans 59 = .ok (.if_icmp .ge 23, 3) := by decide +kernel
theorem dX6_plans_62 : decode cX6_plans 62 = .ok (.aload_n 0, 1) := by decide +kernel
theorem dX6_plans_63 : decode cX6_plans 63 = .ok (.getfield 35, 3) := by decide +kernel
theorem dX6_plans_66 : decode cX6_plans 66 = .ok (.iload 4, 2) := by decide +kernel
theorem dX6_plans_68 : decode cX6_plans 68 = .ok (.aload_n 0, 1) := by decide +kernel
theorem dX6_plans_69 : decode cX6_plans 69 = .ok (.getfield 32, 3) := by decide +kernel
theorem dX6_plans_72 : decode cX6_plans 72 = .ok (.iload 4, 2) := by decide +kernel
theorem dX6_plans_74 : decode cX6_plans 74 = .ok (.iaload, 1) := by decide +kernel
theorem dX6_plans_75 : decode cX6_plans 75 = .ok (.iastore, 1) := by decide +kernel
theorem dX6_plans_76 : decode cX6_plans 76 = .ok (.iinc 4 1, 3) := by decide +kernel
theorem dX6_plans_79 : decode cX6_plans 79 = .ok (.goto (-23), 3) := by decide +kernel
theorem dX6_plans_82 : decode cX6_plans 82 = .ok (.return_, 1) := by decide +kernel
theorem dX6_plans_83 : decode cX6_plans 83 = .ok (.aload_n 0, 1) := by decide +kernel
theorem dX6_plans_84 : decode cX6_plans 84 = .ok (.getfield 29, 3) := by decide +kernel
theorem dX6_plans_87 : decode cX6_plans 87 = .ok (.iload_n 1, 1) := by decide +kernel
theorem dX6_plans_88 : decode cX6_plans 88 = .ok (.iaload, 1) := by decide +kernel
theorem dX6_plans_89 : decode cX6_plans 89 = .ok (.istore_n 3, 1) := by decide +kernel
theorem dX6_plans_90 : decode cX6_plans 90 = .ok (.iconst 0, 1) := by decide +kernel
theorem dX6_plans_91 : decode cX6_plans 91 = .ok (.istore 4, 2) := by decide +kernel
theorem dX6_plans_93 : decode cX6_plans 93 = .ok (.iload 4, 2) := by decide +kernel
theorem dX6_plans_95 : decode cX6_plans 95 = .ok (.aload_n 0, 1) := by decide +kernel
theorem dX6_plans_96 : decode cX6_plans 96 = .ok (.invokevirtual 62, 3) := by decide +kernel
theorem dX6_plans_99 : decode cX6_plans 99 = .ok (.if_icmp .ge 72, 3) := by decide +kernel
theorem dX6_plans_102 : decode cX6_plans 102 = .ok (.aload_n 0, 1) := by decide +kernel
theorem dX6_plans_103 : decode cX6_plans 103 = .ok (.iload_n 3, 1) := by decide +kernel
theorem dX6_plans_104 : decode cX6_plans 104 = .ok (.iload 4, 2) := by decide +kernel
theorem dX6_plans_106 : decode cX6_plans 106 = .ok (.invokevirtual 182, 3) := by decide +kernel
theorem dX6_plans_109 : decode cX6_plans 109 = .ok (.ifCond .le 6, 3) := by decide +kernel
theorem dX6_plans_112 : decode cX6_plans 112 = .ok (.goto 53, 3) := by decide +kernel
theorem dX6_plans_115 : decode cX6_plans 115 = .ok (.aload_n 0, 1) := by decide +kernel
theorem dX6_plans_116 : decode cX6_plans 116 = .ok (.getfield 32, 3) := by decide +kernel
theorem dX6_plans_119 : decode cX6_plans 119 = .ok (.iload_n 1, 1) := by decide +kernel
theorem dX6_plans_120 : decode cX6_plans 120 = .ok (.iload 4, 2) := by decide +kernel
theorem dX6_plans_122 : decode cX6_plans 122 = .ok (.iastore, 1) := by decide +kernel
theorem dX6_plans_123 : decode cX6_plans 123 = .ok (.aload_n 0, 1) := by decide +kernel
theorem dX6_plans_124 : decode cX6_plans 124 = .ok (.iload_n 3, 1) := by decide +kernel
theorem dX6_plans_125 : decode cX6_plans 125 = .ok (.iload 4, 2) := by decide +kernel
theorem dX6_plans_127 : decode cX6_plans 127 = .ok (.invokevirtual 194, 3) := by decide +kernel
theorem dX6_plans_130 : decode cX6_plans 130 = .ok (.pop, 1) := by decide +kernel
theorem dX6_plans_131 : decode cX6_plans 131 = .ok (.aload_n 0, 1) := by decide +kernel
theorem dX6_plans_132 : decode cX6_plans 132 = .ok (.iload_n 1, 1) := by decide +kernel
theorem dX6_plans_133 : decode cX6_plans 133 = .ok (.iconst 1, 1) := by decide +kernel
theorem dX6_plans_134 : decode cX6_plans 134 = .ok (.iadd, 1) := by decide +kernel
theorem dX6_plans_135 : decode cX6_plans 135 = .ok (.iload_n 2, 1) := by decide +kernel
theorem dX6_plans_136 : decode cX6_plans 136 = .ok (.invokevirtual 217, 3) := by decide +kernel
theorem dX6_plans_139 : decode cX6_plans 139 = .ok (.aload_n 0, 1) := by decide +kernel
theorem dX6_plans_140 : decode cX6_plans 140 = .ok (.iload 4, 2) := by decide +kernel
theorem dX6_plans_142 : decode cX6_plans 142 = .ok (.aload_n 0, 1) := by decide +kernel
theorem dX6_plans_143 : decode cX6_plans 143 = .ok (.iload_n 3, 1) := by decide +kernel
theorem dX6_plans_144 : decode cX6_plans 144 = .ok (.iload 4, 2) := by decide +kernel
theorem dX6_plans_146 : decode cX6_plans 146 = .ok (.invokevirtual 101, 3) := by decide +kernel
theorem dX6_plans_149 : decode cX6_plans 149 = .ok (.ineg, 1) := by decide +kernel
theorem dX6_plans_150 : decode cX6_plans 150 = .ok (.invokevirtual 90, 3) := by decide +kernel
theorem dX6_plans_153 : decode cX6_plans 153 = .ok (.aload_n 0, 1) := by decide +kernel
theorem dX6_plans_154 : decode cX6_plans 154 = .ok (.getfield 9, 3) := by decide +kernel
theorem dX6_plans_157 : decode cX6_plans 157 = .ok (.iload_n 3, 1) := by decide +kernel
theorem dX6_plans_158 : decode cX6_plans 158 = .ok (.invokestatic 47, 3) := by decide +kernel
theorem dX6_plans_161 : decode cX6_plans 161 = .ok (.iconst 5, 1) := by decide +kernel
theorem dX6_plans_162 : decode cX6_plans 162 = .ok (.iadd, 1) := by decide +kernel
theorem dX6_plans_163 : decode cX6_plans 163 = .ok (.iconst (-1), 1) := by decide +kernel
theorem dX6_plans_164 : decode cX6_plans 164 = .ok (.iastore, 1) := by decide +kernel
theorem dX6_plans_165 : decode cX6_plans 165 = .ok (.iinc 4 1, 3) := by decide +kernel
theorem dX6_plans_168 : decode cX6_plans 168 = .ok (.goto (-75), 3) := by decide +kernel
theorem dX6_plans_171 : decode cX6_plans 171 = .ok (.return_, 1) := by decide +kernel
theorem dX6_looks_0 : decode cX6_looks 0 = .ok (.aload_n 0, 1) := by decide +kernel
theorem dX6_looks_1 : decode cX6_looks 1 = .ok (.iconst 0, 1) := by decide +kernel
theorem dX6_looks_2 : decode cX6_looks 2 = .ok (.putfield 44, 3) := by decide +kernel
theorem dX6_looks_5 : decode cX6_looks 5 = .ok (.iload_n 1, 1) := by decide +kernel
theorem dX6_looks_6 : decode cX6_looks 6 = .ok (.invokestatic 173, 3) := by decide +kernel
theorem dX6_looks_9 : decode cX6_looks 9 = .ok (.ifCond .ne 9, 3) := by decide +kernel
theorem dX6_looks_12 : decode cX6_looks 12 = .ok (.aload_n 0, 1) := by decide +kernel
theorem dX6_looks_13 : decode cX6_looks 13 = .ok (.iconst 1, 1) := by decide +kernel
theorem dX6_looks_14 : decode cX6_looks 14 = .ok (.invokevirtual 107, 3) := by decide +kernel
theorem dX6_looks_17 : decode cX6_looks 17 = .ok (.ireturn, 1) := by decide +kernel
theorem dX6_looks_18 : decode cX6_looks 18 = .ok (.aload_n 0, 1) := by decide +kernel
theorem dX6_looks_19 : decode cX6_looks 19 = .ok (.iload_n 1, 1) := by decide +kernel
theorem dX6_looks_20 : decode cX6_looks 20 = .ok (.invokevirtual 176, 3) := by decide +kernel
theorem dX6_looks_23 : decode cX6_looks 23 = .ok (.istore_n 2, 1) := by decide +kernel
theorem dX6_looks_24 : decode cX6_looks 24 = .ok (.iload_n 2, 1) := by decide +kernel
theorem dX6_looks_25 : decode cX6_looks 25 = .ok (.iconst 4, 1) := by decide +kernel
theorem dX6_looks_26 : decode cX6_looks 26 = .ok (.if_icmp .le 9, 3) := by decide +kernel
theorem dX6_looks_29 : decode cX6_looks 29 = .ok (.aload_n 0, 1) := by decide +kernel
theorem dX6_looks_30 : decode cX6_looks 30 = .ok (.iconst 2, 1) := by decide +kernel
theorem dX6_looks_31 : decode cX6_looks 31 = .ok (.invokevirtual 107, 3) := by decide +kernel
theorem dX6_looks_34 : decode cX6_looks 34 = .ok (.ireturn, 1) := by decide +kernel
theorem dX6_looks_35 : decode cX6_looks 35 = .ok (.aload_n 0, 1) := by decide +kernel
theorem dX6_looks_36 : decode cX6_looks 36 = .ok (.iconst 0, 1) := by decide +kernel
theorem dX6_looks_37 : decode cX6_looks 37 = .ok (.putfield 211, 3) := by decide +kernel
theorem dX6_looks_40 : decode cX6_looks 40 = .ok (.aload_n 0, 1) := by decide +kernel
theorem dX6_looks_41 : decode cX6_looks 41 = .ok (.iconst 0, 1) := by decide +kernel
theorem dX6_looks_42 : decode cX6_looks 42 = .ok (.iload_n 2, 1) := by decide +kernel
theorem dX6_looks_43 : decode cX6_looks 43 = .ok (.invokevirtual 217, 3) := by decide +kernel
theorem dX6_looks_46 : decode cX6_looks 46 = .ok (.aload_n 0, 1) := by decide +kernel
theorem dX6_looks_47 : decode cX6_looks 47 = .ok (.getfield 211, 3) := by decide +kernel
theorem dX6_looks_50 : decode cX6_looks 50 = .ok (.ifCond .ne 8, 3) := by decide +kernel
theorem dX6_looks_53 : decode cX6_looks 53 = .ok (.aload_n 0, 1) := by decide +kernel
theorem dX6_looks_54 : decode cX6_looks 54 = .ok (.iconst 3, 1) := by decide +kernel
theorem dX6_looks_55 : decode cX6_looks 55 = .ok (.putfield 44, 3) := by decide +kernel
theorem dX6_looks_58 : decode cX6_looks 58 = .ok (.iload_n 2, 1) := by decide +kernel
theorem dX6_looks_59 : decode cX6_looks 59 = .ok (.ireturn, 1) := by decide +kernel
theorem dX6_plannedSpread_0 : decode cX6_plannedSpread 0 = .ok (.aload_n 0, 1) := by decide +kernel
theorem dX6_plannedSpread_1 : decode cX6_plannedSpread 1 = .ok (.iload_n 1, 1) := by decide +kernel
theorem dX6_plannedSpread_2 : decode cX6_plannedSpread 2 = .ok (.invokevirtual 220, 3) := by decide +kernel
theorem dX6_plannedSpread_5 : decode cX6_plannedSpread 5 = .ok (.pop, 1) := by decide +kernel
theorem dX6_plannedSpread_6 : decode cX6_plannedSpread 6 = .ok (.aload_n 0, 1) := by decide +kernel
theorem dX6_plannedSpread_7 : decode cX6_plannedSpread 7 = .ok (.getfield 44, 3) := by decide +kernel
theorem dX6_plannedSpread_10 : decode cX6_plannedSpread 10 = .ok (.ifCond .ne 15, 3) := by decide +kernel
theorem dX6_plannedSpread_13 : decode cX6_plannedSpread 13 = .ok (.aload_n 0, 1) := by decide +kernel
theorem dX6_plannedSpread_14 : decode cX6_plannedSpread 14 = .ok (.invokevirtual 62, 3) := by decide +kernel
theorem dX6_plannedSpread_17 : decode cX6_plannedSpread 17 = .ok (.ifCond .ne 8, 3) := by decide +kernel
theorem dX6_plannedSpread_20 : decode cX6_plannedSpread 20 = .ok (.aload_n 0, 1) := by decide +kernel
theorem dX6_plannedSpread_21 : decode cX6_plannedSpread 21 = .ok (.iconst 3, 1) := by decide +kernel
theorem dX6_plannedSpread_22 : decode cX6_plannedSpread 22 = .ok (.putfield 44, 3) := by decide +kernel
theorem dX6_plannedSpread_25 : decode cX6_plannedSpread 25 = .ok (.aload_n 0, 1) := by decide +kernel
theorem dX6_plannedSpread_26 : decode cX6_plannedSpread 26 = .ok (.getfield 44, 3) := by decide +kernel
theorem dX6_plannedSpread_29 : decode cX6_plannedSpread 29 = .ok (.ifCond .le 7, 3) := by decide +kernel
theorem dX6_plannedSpread_32 : decode cX6_plannedSpread 32 = .ok (.iconst 0, 1) := by decide +kernel
theorem dX6_plannedSpread_33 : decode cX6_plannedSpread 33 = .ok (.goto 7, 3) := by decide +kernel
theorem dX6_plannedSpread_36 : decode cX6_plannedSpread 36 = .ok (.aload_n 0, 1) := by decide +kernel
theorem dX6_plannedSpread_37 : decode cX6_plannedSpread 37 = .ok (.getfield 214, 3) := by decide +kernel
theorem dX6_plannedSpread_40 : decode cX6_plannedSpread 40 = .ok (.ireturn, 1) := by decide +kernel
theorem dX6_planned_0 : decode cX6_planned 0 = .ok (.aload_n 0, 1) := by decide +kernel
theorem dX6_planned_1 : decode cX6_planned 1 = .ok (.iload_n 1, 1) := by decide +kernel
theorem dX6_planned_2 : decode cX6_planned 2 = .ok (.invokevirtual 220, 3) := by decide +kernel
theorem dX6_planned_5 : decode cX6_planned 5 = .ok (.istore_n 3, 1) := by decide +kernel
theorem dX6_planned_6 : decode cX6_planned 6 = .ok (.aload_n 0, 1) := by decide +kernel
theorem dX6_planned_7 : decode cX6_planned 7 = .ok (.getfield 44, 3) := by decide +kernel
theorem dX6_planned_10 : decode cX6_planned 10 = .ok (.ifCond .le 5, 3) := by decide +kernel
theorem dX6_planned_13 : decode cX6_planned 13 = .ok (.iconst 0, 1) := by decide +kernel
theorem dX6_planned_14 : decode cX6_planned 14 = .ok (.ireturn, 1) := by decide +kernel
theorem dX6_planned_15 : decode cX6_planned 15 = .ok (.iload_n 2, 1) := by decide +kernel
theorem dX6_planned_16 : decode cX6_planned 16 = .ok (.iconst 0, 1) := by decide +kernel
theorem dX6_planned_17 : decode cX6_planned 17 = .ok (.iload_n 3, 1) := by decide +kernel
theorem dX6_planned_18 : decode cX6_planned 18 = .ok (.iconst 1, 1) := by decide +kernel
theorem dX6_planned_19 : decode cX6_planned 19 = .ok (.isub, 1) := by decide +kernel
theorem dX6_planned_20 : decode cX6_planned 20 = .ok (.invokestatic 58, 3) := by decide +kernel
theorem dX6_planned_23 : decode cX6_planned 23 = .ok (.ifCond .eq 12, 3) := by decide +kernel
theorem dX6_planned_26 : decode cX6_planned 26 = .ok (.aload_n 0, 1) := by decide +kernel
theorem dX6_planned_27 : decode cX6_planned 27 = .ok (.getfield 35, 3) := by decide +kernel
theorem dX6_planned_30 : decode cX6_planned 30 = .ok (.iload_n 2, 1) := by decide +kernel
theorem dX6_planned_31 : decode cX6_planned 31 = .ok (.iaload, 1) := by decide +kernel
theorem dX6_planned_32 : decode cX6_planned 32 = .ok (.goto 8, 3) := by decide +kernel
theorem dX6_planned_35 : decode cX6_planned 35 = .ok (.aload_n 0, 1) := by decide +kernel
theorem dX6_planned_36 : decode cX6_planned 36 = .ok (.iconst 3, 1) := by decide +kernel
theorem dX6_planned_37 : decode cX6_planned 37 = .ok (.invokevirtual 107, 3) := by decide +kernel
theorem dX6_planned_40 : decode cX6_planned 40 = .ok (.ireturn, 1) := by decide +kernel
theorem dX6_carryOut_0 : decode cX6_carryOut 0 = .ok (.aload_n 0, 1) := by decide +kernel
theorem dX6_carryOut_1 : decode cX6_carryOut 1 = .ok (.iload_n 1, 1) := by decide +kernel
theorem dX6_carryOut_2 : decode cX6_carryOut 2 = .ok (.invokevirtual 220, 3) := by decide +kernel
theorem dX6_carryOut_5 : decode cX6_carryOut 5 = .ok (.istore_n 2, 1) := by decide +kernel
theorem dX6_carryOut_6 : decode cX6_carryOut 6 = .ok (.aload_n 0, 1) := by decide +kernel
theorem dX6_carryOut_7 : decode cX6_carryOut 7 = .ok (.getfield 44, 3) := by decide +kernel
theorem dX6_carryOut_10 : decode cX6_carryOut 10 = .ok (.ifCond .ne 15, 3) := by decide +kernel
theorem dX6_carryOut_13 : decode cX6_carryOut 13 = .ok (.aload_n 0, 1) := by decide +kernel
theorem dX6_carryOut_14 : decode cX6_carryOut 14 = .ok (.invokevirtual 62, 3) := by decide +kernel
theorem dX6_carryOut_17 : decode cX6_carryOut 17 = .ok (.ifCond .ne 8, 3) := by decide +kernel
theorem dX6_carryOut_20 : decode cX6_carryOut 20 = .ok (.aload_n 0, 1) := by decide +kernel
theorem dX6_carryOut_21 : decode cX6_carryOut 21 = .ok (.iconst 3, 1) := by decide +kernel
theorem dX6_carryOut_22 : decode cX6_carryOut 22 = .ok (.putfield 44, 3) := by decide +kernel
theorem dX6_carryOut_25 : decode cX6_carryOut 25 = .ok (.aload_n 0, 1) := by decide +kernel
theorem dX6_carryOut_26 : decode cX6_carryOut 26 = .ok (.getfield 44, 3) := by decide +kernel
theorem dX6_carryOut_29 : decode cX6_carryOut 29 = .ok (.ifCond .le 5, 3) := by decide +kernel
theorem dX6_carryOut_32 : decode cX6_carryOut 32 = .ok (.iconst 0, 1) := by decide +kernel
theorem dX6_carryOut_33 : decode cX6_carryOut 33 = .ok (.ireturn, 1) := by decide +kernel
theorem dX6_carryOut_34 : decode cX6_carryOut 34 = .ok (.aload_n 0, 1) := by decide +kernel
theorem dX6_carryOut_35 : decode cX6_carryOut 35 = .ok (.invokevirtual 68, 3) := by decide +kernel
theorem dX6_carryOut_38 : decode cX6_carryOut 38 = .ok (.iconst 0, 1) := by decide +kernel
theorem dX6_carryOut_39 : decode cX6_carryOut 39 = .ok (.istore_n 3, 1) := by decide +kernel
theorem dX6_carryOut_40 : decode cX6_carryOut 40 = .ok (.iload_n 3, 1) := by decide +kernel
theorem dX6_carryOut_41 : decode cX6_carryOut 41 = .ok (.iload_n 2, 1) := by decide +kernel
theorem dX6_carryOut_42 : decode cX6_carryOut 42 = .ok (.if_icmp .ge 26, 3) := by decide +kernel
theorem dX6_carryOut_45 : decode cX6_carryOut 45 = .ok (.aload_n 0, 1) := by decide +kernel
theorem dX6_carryOut_46 : decode cX6_carryOut 46 = .ok (.aload_n 0, 1) := by decide +kernel
theorem dX6_carryOut_47 : decode cX6_carryOut 47 = .ok (.getfield 29, 3) := by decide +kernel
theorem dX6_carryOut_50 : decode cX6_carryOut 50 = .ok (.iload_n 3, 1) := by decide +kernel
theorem dX6_carryOut_51 : decode cX6_carryOut 51 = .ok (.iaload, 1) := by decide +kernel
theorem dX6_carryOut_52 : decode cX6_carryOut 52 = .ok (.aload_n 0, 1) := by decide +kernel
theorem dX6_carryOut_53 : decode cX6_carryOut 53 = .ok (.getfield 35, 3) := by decide +kernel
theorem dX6_carryOut_56 : decode cX6_carryOut 56 = .ok (.iload_n 3, 1) := by decide +kernel
theorem dX6_carryOut_57 : decode cX6_carryOut 57 = .ok (.iaload, 1) := by decide +kernel
theorem dX6_carryOut_58 : decode cX6_carryOut 58 = .ok (.invokevirtual 194, 3) := by decide +kernel
theorem dX6_carryOut_61 : decode cX6_carryOut 61 = .ok (.pop, 1) := by decide +kernel
theorem dX6_carryOut_62 : decode cX6_carryOut 62 = .ok (.iinc 3 1, 3) := by decide +kernel
theorem dX6_carryOut_65 : decode cX6_carryOut 65 = .ok (.goto (-25), 3) := by decide +kernel
theorem dX6_carryOut_68 : decode cX6_carryOut 68 = .ok (.iload_n 2, 1) := by decide +kernel
theorem dX6_carryOut_69 : decode cX6_carryOut 69 = .ok (.ireturn, 1) := by decide +kernel
theorem dX6_plans__0 : decode cX6_plans_ 0 = .ok (.aload_n 0, 1) := by decide +kernel
theorem dX6_plans__1 : decode cX6_plans_ 1 = .ok (.iload_n 1, 1) := by decide +kernel
theorem dX6_plans__2 : decode cX6_plans_ 2 = .ok (.invokevirtual 220, 3) := by decide +kernel
theorem dX6_plans__5 : decode cX6_plans_ 5 = .ok (.pop, 1) := by decide +kernel
theorem dX6_plans__6 : decode cX6_plans_ 6 = .ok (.aload_n 0, 1) := by decide +kernel
theorem dX6_plans__7 : decode cX6_plans_ 7 = .ok (.getfield 44, 3) := by decide +kernel
theorem dX6_plans__10 : decode cX6_plans_ 10 = .ok (.iconst 3, 1) := by decide +kernel
theorem dX6_plans__11 : decode cX6_plans_ 11 = .ok (.if_icmp .ne 8, 3) := by decide +kernel
theorem dX6_plans__14 : decode cX6_plans_ 14 = .ok (.aload_n 0, 1) := by decide +kernel
theorem dX6_plans__15 : decode cX6_plans_ 15 = .ok (.iconst 0, 1) := by decide +kernel
theorem dX6_plans__16 : decode cX6_plans_ 16 = .ok (.putfield 44, 3) := by decide +kernel
theorem dX6_plans__19 : decode cX6_plans_ 19 = .ok (.aload_n 0, 1) := by decide +kernel
theorem dX6_plans__20 : decode cX6_plans_ 20 = .ok (.getfield 44, 3) := by decide +kernel
theorem dX6_plans__23 : decode cX6_plans_ 23 = .ok (.ifCond .le 7, 3) := by decide +kernel
theorem dX6_plans__26 : decode cX6_plans_ 26 = .ok (.iconst 0, 1) := by decide +kernel
theorem dX6_plans__27 : decode cX6_plans_ 27 = .ok (.goto 7, 3) := by decide +kernel
theorem dX6_plans__30 : decode cX6_plans_ 30 = .ok (.aload_n 0, 1) := by decide +kernel
theorem dX6_plans__31 : decode cX6_plans_ 31 = .ok (.getfield 211, 3) := by decide +kernel
theorem dX6_plans__34 : decode cX6_plans_ 34 = .ok (.ireturn, 1) := by decide +kernel
theorem dX6_averagePoints_0 : decode cX6_averagePoints 0 = .ok (.aload_n 0, 1) := by decide +kernel
theorem dX6_averagePoints_1 : decode cX6_averagePoints 1 = .ok (.iconst 0, 1) := by decide +kernel
theorem dX6_averagePoints_2 : decode cX6_averagePoints 2 = .ok (.putfield 44, 3) := by decide +kernel
theorem dX6_averagePoints_5 : decode cX6_averagePoints 5 = .ok (.iload_n 1, 1) := by decide +kernel
theorem dX6_averagePoints_6 : decode cX6_averagePoints 6 = .ok (.iconst 0, 1) := by decide +kernel
theorem dX6_averagePoints_7 : decode cX6_averagePoints 7 = .ok (.iconst 1, 1) := by decide +kernel
theorem dX6_averagePoints_8 : decode cX6_averagePoints 8 = .ok (.aload_n 0, 1) := by decide +kernel
theorem dX6_averagePoints_9 : decode cX6_averagePoints 9 = .ok (.invokevirtual 62, 3) := by decide +kernel
theorem dX6_averagePoints_12 : decode cX6_averagePoints 12 = .ok (.ishl, 1) := by decide +kernel
theorem dX6_averagePoints_13 : decode cX6_averagePoints 13 = .ok (.iconst 1, 1) := by decide +kernel
theorem dX6_averagePoints_14 : decode cX6_averagePoints 14 = .ok (.isub, 1) := by decide +kernel
theorem dX6_averagePoints_15 : decode cX6_averagePoints 15 = .ok (.invokestatic 58, 3) := by decide +kernel
theorem dX6_averagePoints_18 : decode cX6_averagePoints 18 = .ok (.ifCond .ne 10, 3) := by decide +kernel
theorem dX6_averagePoints_21 : decode cX6_averagePoints 21 = .ok (.aload_n 0, 1) := by decide +kernel
theorem dX6_averagePoints_22 : decode cX6_averagePoints 22 = .ok (.iconst 1, 1) := by decide +kernel
theorem dX6_averagePoints_23 : decode cX6_averagePoints 23 = .ok (.invokevirtual 107, 3) := by decide +kernel
theorem dX6_averagePoints_26 : decode cX6_averagePoints 26 = .ok (.i2d, 1) := by decide +kernel
theorem dX6_averagePoints_27 : decode cX6_averagePoints 27 = .ok (.dreturn, 1) := by decide +kernel
theorem dX6_averagePoints_28 : decode cX6_averagePoints 28 = .ok (.iload_n 1, 1) := by decide +kernel
theorem dX6_averagePoints_29 : decode cX6_averagePoints 29 = .ok (.ifCond .ne 10, 3) := by decide +kernel
theorem dX6_averagePoints_32 : decode cX6_averagePoints 32 = .ok (.aload_n 0, 1) := by decide +kernel
theorem dX6_averagePoints_33 : decode cX6_averagePoints 33 = .ok (.iconst 2, 1) := by decide +kernel
theorem dX6_averagePoints_34 : decode cX6_averagePoints 34 = .ok (.invokevirtual 107, 3) := by decide +kernel
theorem dX6_averagePoints_37 : decode cX6_averagePoints 37 = .ok (.i2d, 1) := by decide +kernel
theorem dX6_averagePoints_38 : decode cX6_averagePoints 38 = .ok (.dreturn, 1) := by decide +kernel
theorem dX6_averagePoints_39 : decode cX6_averagePoints 39 = .ok (.iconst 0, 1) := by decide +kernel
theorem dX6_averagePoints_40 : decode cX6_averagePoints 40 = .ok (.istore_n 2, 1) := by decide +kernel
theorem dX6_averagePoints_41 : decode cX6_averagePoints 41 = .ok (.iconst 0, 1) := by decide +kernel
theorem dX6_averagePoints_42 : decode cX6_averagePoints 42 = .ok (.istore_n 3, 1) := by decide +kernel
theorem dX6_averagePoints_43 : decode cX6_averagePoints 43 = .ok (.iload_n 3, 1) := by decide +kernel
theorem dX6_averagePoints_44 : decode cX6_averagePoints 44 = .ok (.aload_n 0, 1) := by decide +kernel
theorem dX6_averagePoints_45 : decode cX6_averagePoints 45 = .ok (.invokevirtual 62, 3) := by decide +kernel
theorem dX6_averagePoints_48 : decode cX6_averagePoints 48 = .ok (.if_icmp .ge 26, 3) := by decide +kernel
theorem dX6_averagePoints_51 : decode cX6_averagePoints 51 = .ok (.iload_n 1, 1) := by decide +kernel
theorem dX6_averagePoints_52 : decode cX6_averagePoints 52 = .ok (.iload_n 3, 1) := by decide +kernel
theorem dX6_averagePoints_53 : decode cX6_averagePoints 53 = .ok (.invokestatic 74, 3) := by decide +kernel
theorem dX6_averagePoints_56 : decode cX6_averagePoints 56 = .ok (.ifCond .eq 12, 3) := by decide +kernel
theorem dX6_averagePoints_59 : decode cX6_averagePoints 59 = .ok (.iload_n 2, 1) := by decide +kernel
theorem dX6_averagePoints_60 : decode cX6_averagePoints 60 = .ok (.aload_n 0, 1) := by decide +kernel
theorem dX6_averagePoints_61 : decode cX6_averagePoints 61 = .ok (.iload_n 3, 1) := by decide +kernel
theorem dX6_averagePoints_62 : decode cX6_averagePoints 62 = .ok (.iconst 4, 1) := by decide +kernel
theorem dX6_averagePoints_63 : decode cX6_averagePoints 63 = .ok (.invokevirtual 70, 3) := by decide +kernel
theorem dX6_averagePoints_66 : decode cX6_averagePoints 66 = .ok (.iadd, 1) := by decide +kernel
theorem dX6_averagePoints_67 : decode cX6_averagePoints 67 = .ok (.istore_n 2, 1) := by decide +kernel
theorem dX6_averagePoints_68 : decode cX6_averagePoints 68 = .ok (.iinc 3 1, 3) := by decide +kernel
theorem dX6_averagePoints_71 : decode cX6_averagePoints 71 = .ok (.goto (-28), 3) := by decide +kernel
theorem dX6_averagePoints_74 : decode cX6_averagePoints 74 = .ok (.iload_n 2, 1) := by decide +kernel
theorem dX6_averagePoints_75 : decode cX6_averagePoints 75 = .ok (.i2d, 1) := by decide +kernel
theorem dX6_averagePoints_76 : decode cX6_averagePoints 76 = .ok (.iload_n 1, 1) := by decide +kernel
theorem dX6_averagePoints_77 : decode cX6_averagePoints 77 = .ok (.invokestatic 223, 3) := by decide +kernel
theorem dX6_averagePoints_80 : decode cX6_averagePoints 80 = .ok (.i2d, 1) := by decide +kernel
theorem dX6_averagePoints_81 : decode cX6_averagePoints 81 = .ok (.ddiv, 1) := by decide +kernel
theorem dX6_averagePoints_82 : decode cX6_averagePoints 82 = .ok (.dreturn, 1) := by decide +kernel
theorem dX6_audit_0 : decode cX6_audit 0 = .ok (.aload_n 0, 1) := by decide +kernel
theorem dX6_audit_1 : decode cX6_audit 1 = .ok (.iconst 0, 1) := by decide +kernel
theorem dX6_audit_2 : decode cX6_audit 2 = .ok (.putfield 44, 3) := by decide +kernel
theorem dX6_audit_5 : decode cX6_audit 5 = .ok (.iconst 0, 1) := by decide +kernel
theorem dX6_audit_6 : decode cX6_audit 6 = .ok (.istore_n 1, 1) := by decide +kernel
theorem dX6_audit_7 : decode cX6_audit 7 = .ok (.iconst 0, 1) := by decide +kernel
theorem dX6_audit_8 : decode cX6_audit 8 = .ok (.istore_n 2, 1) := by decide +kernel
theorem dX6_audit_9 : decode cX6_audit 9 = .ok (.iload_n 2, 1) := by decide +kernel
theorem dX6_audit_10 : decode cX6_audit 10 = .ok (.aload_n 0, 1) := by decide +kernel
theorem dX6_audit_11 : decode cX6_audit 11 = .ok (.invokevirtual 62, 3) := by decide +kernel
theorem dX6_audit_14 : decode cX6_audit 14 = .ok (.if_icmp .ge 116, 3) := by decide +kernel
theorem dX6_audit_17 : decode cX6_audit 17 = .ok (.iconst 0, 1) := by decide +kernel
theorem dX6_audit_18 : decode cX6_audit 18 = .ok (.istore_n 3, 1) := by decide +kernel
theorem dX6_audit_19 : decode cX6_audit 19 = .ok (.iconst 0, 1) := by decide +kernel
theorem dX6_audit_20 : decode cX6_audit 20 = .ok (.istore 4, 2) := by decide +kernel
theorem dX6_audit_22 : decode cX6_audit 22 = .ok (.iload 4, 2) := by decide +kernel
theorem dX6_audit_24 : decode cX6_audit 24 = .ok (.aload_n 0, 1) := by decide +kernel
theorem dX6_audit_25 : decode cX6_audit 25 = .ok (.invokevirtual 54, 3) := by decide +kernel
theorem dX6_audit_28 : decode cX6_audit 28 = .ok (.if_icmp .ge 83, 3) := by decide +kernel
theorem dX6_audit_31 : decode cX6_audit 31 = .ok (.aload_n 0, 1) := by decide +kernel
theorem dX6_audit_32 : decode cX6_audit 32 = .ok (.iload 4, 2) := by decide +kernel
theorem dX6_audit_34 : decode cX6_audit 34 = .ok (.iconst 5, 1) := by decide +kernel
theorem dX6_audit_35 : decode cX6_audit 35 = .ok (.invokevirtual 78, 3) := by decide +kernel
theorem dX6_audit_38 : decode cX6_audit 38 = .ok (.iload_n 2, 1) := by decide +kernel
theorem dX6_audit_39 : decode cX6_audit 39 = .ok (.if_icmp .ne 13, 3) := by decide +kernel
theorem dX6_audit_42 : decode cX6_audit 42 = .ok (.iload_n 3, 1) := by decide +kernel
theorem dX6_audit_43 : decode cX6_audit 43 = .ok (.aload_n 0, 1) := by decide +kernel
theorem dX6_audit_44 : decode cX6_audit 44 = .ok (.iload 4, 2) := by decide +kernel
theorem dX6_audit_46 : decode cX6_audit 46 = .ok (.iload_n 2, 1) := by decide +kernel
theorem dX6_audit_47 : decode cX6_audit 47 = .ok (.invokevirtual 101, 3) := by decide +kernel
theorem dX6_audit_50 : decode cX6_audit 50 = .ok (.iadd, 1) := by decide +kernel
theorem dX6_audit_51 : decode cX6_audit 51 = .ok (.istore_n 3, 1) := by decide +kernel
theorem dX6_audit_52 : decode cX6_audit 52 = .ok (.aload_n 0, 1) := by decide +kernel
theorem dX6_audit_53 : decode cX6_audit 53 = .ok (.iload 4, 2) := by decide +kernel
theorem dX6_audit_55 : decode cX6_audit 55 = .ok (.bipush 6, 2) := by decide +kernel
theorem dX6_audit_57 : decode cX6_audit 57 = .ok (.invokevirtual 78, 3) := by decide +kernel
theorem dX6_audit_60 : decode cX6_audit 60 = .ok (.iconst (-1), 1) := by decide +kernel
theorem dX6_audit_61 : decode cX6_audit 61 = .ok (.if_icmp .ne 6, 3) := by decide +kernel
theorem dX6_audit_64 : decode cX6_audit 64 = .ok (.goto 41, 3) := by decide +kernel
theorem dX6_audit_67 : decode cX6_audit 67 = .ok (.aload_n 0, 1) := by decide +kernel
theorem dX6_audit_68 : decode cX6_audit 68 = .ok (.aload_n 0, 1) := by decide +kernel
theorem dX6_audit_69 : decode cX6_audit 69 = .ok (.iload 4, 2) := by decide +kernel
theorem dX6_audit_71 : decode cX6_audit 71 = .ok (.bipush 6, 2) := by decide +kernel
theorem dX6_audit_73 : decode cX6_audit 73 = .ok (.invokevirtual 78, 3) := by decide +kernel
theorem dX6_audit_76 : decode cX6_audit 76 = .ok (.invokevirtual 87, 3) := by decide +kernel
theorem dX6_audit_79 : decode cX6_audit 79 = .ok (.iload_n 2, 1) := by decide +kernel
theorem dX6_audit_80 : decode cX6_audit 80 = .ok (.if_icmp .ne 6, 3) := by decide +kernel
theorem dX6_audit_83 : decode cX6_audit 83 = .ok (.iinc 3 1, 3) := by decide +kernel
theorem dX6_audit_86 : decode cX6_audit 86 = .ok (.aload_n 0, 1) := by decide +kernel
theorem dX6_audit_87 : decode cX6_audit 87 = .ok (.aload_n 0, 1) := by decide +kernel
theorem dX6_audit_88 : decode cX6_audit 88 = .ok (.iload 4, 2) := by decide +kernel
theorem dX6_audit_90 : decode cX6_audit 90 = .ok (.bipush 7, 2) := by decide +kernel
theorem dX6_audit_92 : decode cX6_audit 92 = .ok (.invokevirtual 78, 3) := by decide +kernel
theorem dX6_audit_95 : decode cX6_audit 95 = .ok (.invokevirtual 87, 3) := by decide +kernel
theorem dX6_audit_98 : decode cX6_audit 98 = .ok (.iload_n 2, 1) := by decide +kernel
theorem dX6_audit_99 : decode cX6_audit 99 = .ok (.if_icmp .ne 6, 3) := by decide +kernel
theorem dX6_audit_102 : decode cX6_audit 102 = .ok (.iinc 3 1, 3) := by decide +kernel
theorem dX6_audit_105 : decode cX6_audit 105 = .ok (.iinc 4 1, 3) := by decide +kernel
theorem dX6_audit_108 : decode cX6_audit 108 = .ok (.goto (-86), 3) := by decide +kernel
theorem dX6_audit_111 : decode cX6_audit 111 = .ok (.iload_n 3, 1) := by decide +kernel
theorem dX6_audit_112 : decode cX6_audit 112 = .ok (.aload_n 0, 1) := by decide +kernel
theorem dX6_audit_113 : decode cX6_audit 113 = .ok (.iload_n 2, 1) := by decide +kernel
theorem dX6_audit_114 : decode cX6_audit 114 = .ok (.iconst 4, 1) := by decide +kernel
theorem dX6_audit_115 : decode cX6_audit 115 = .ok (.invokevirtual 70, 3) := by decide +kernel
theorem dX6_audit_118 : decode cX6_audit 118 = .ok (.if_icmp .eq 6, 3) := by decide +kernel
theorem dX6_audit_121 : decode cX6_audit 121 = .ok (.iinc 1 1, 3) := by decide +kernel
theorem dX6_audit_124 : decode cX6_audit 124 = .ok (.iinc 2 1, 3) := by decide +kernel
theorem dX6_audit_127 : decode cX6_audit 127 = .ok (.goto (-118), 3) := by decide +kernel
theorem dX6_audit_130 : decode cX6_audit 130 = .ok (.iload_n 1, 1) := by decide +kernel
theorem dX6_audit_131 : decode cX6_audit 131 = .ok (.ireturn, 1) := by decide +kernel
theorem dX6_lost_0 : decode cX6_lost 0 = .ok (.aload_n 0, 1) := by decide +kernel
theorem dX6_lost_1 : decode cX6_lost 1 = .ok (.iconst 0, 1) := by decide +kernel
theorem dX6_lost_2 : decode cX6_lost 2 = .ok (.putfield 44, 3) := by decide +kernel
theorem dX6_lost_5 : decode cX6_lost 5 = .ok (.iload_n 1, 1) := by decide +kernel
theorem dX6_lost_6 : decode cX6_lost 6 = .ok (.invokestatic 129, 3) := by decide +kernel
theorem dX6_lost_9 : decode cX6_lost 9 = .ok (.ifCond .ne 9, 3) := by decide +kernel
theorem dX6_lost_12 : decode cX6_lost 12 = .ok (.aload_n 0, 1) := by decide +kernel
theorem dX6_lost_13 : decode cX6_lost 13 = .ok (.iconst 1, 1) := by decide +kernel
theorem dX6_lost_14 : decode cX6_lost 14 = .ok (.invokevirtual 107, 3) := by decide +kernel
theorem dX6_lost_17 : decode cX6_lost 17 = .ok (.ireturn, 1) := by decide +kernel
theorem dX6_lost_18 : decode cX6_lost 18 = .ok (.iconst 0, 1) := by decide +kernel
theorem dX6_lost_19 : decode cX6_lost 19 = .ok (.istore_n 2, 1) := by decide +kernel
theorem dX6_lost_20 : decode cX6_lost 20 = .ok (.iconst 0, 1) := by decide +kernel
theorem dX6_lost_21 : decode cX6_lost 21 = .ok (.istore_n 3, 1) := by decide +kernel
theorem dX6_lost_22 : decode cX6_lost 22 = .ok (.iload_n 3, 1) := by decide +kernel
theorem dX6_lost_23 : decode cX6_lost 23 = .ok (.aload_n 0, 1) := by decide +kernel
theorem dX6_lost_24 : decode cX6_lost 24 = .ok (.invokevirtual 54, 3) := by decide +kernel
theorem dX6_lost_27 : decode cX6_lost 27 = .ok (.if_icmp .ge 31, 3) := by decide +kernel
theorem dX6_lost_30 : decode cX6_lost 30 = .ok (.aload_n 0, 1) := by decide +kernel
theorem dX6_lost_31 : decode cX6_lost 31 = .ok (.iload_n 3, 1) := by decide +kernel
theorem dX6_lost_32 : decode cX6_lost 32 = .ok (.iconst 1, 1) := by decide +kernel
theorem dX6_lost_33 : decode cX6_lost 33 = .ok (.invokevirtual 78, 3) := by decide +kernel
theorem dX6_lost_36 : decode cX6_lost 36 = .ok (.iload_n 1, 1) := by decide +kernel
theorem dX6_lost_37 : decode cX6_lost 37 = .ok (.if_icmp .ne 15, 3) := by decide +kernel
theorem dX6_lost_40 : decode cX6_lost 40 = .ok (.aload_n 0, 1) := by decide +kernel
theorem dX6_lost_41 : decode cX6_lost 41 = .ok (.iload_n 3, 1) := by decide +kernel
theorem dX6_lost_42 : decode cX6_lost 42 = .ok (.invokevirtual 84, 3) := by decide +kernel
theorem dX6_lost_45 : decode cX6_lost 45 = .ok (.iconst 1, 1) := by decide +kernel
theorem dX6_lost_46 : decode cX6_lost 46 = .ok (.if_icmp .le 6, 3) := by decide +kernel
theorem dX6_lost_49 : decode cX6_lost 49 = .ok (.iinc 2 1, 3) := by decide +kernel
theorem dX6_lost_52 : decode cX6_lost 52 = .ok (.iinc 3 1, 3) := by decide +kernel
theorem dX6_lost_55 : decode cX6_lost 55 = .ok (.goto (-33), 3) := by decide +kernel
theorem dX6_lost_58 : decode cX6_lost 58 = .ok (.iload_n 2, 1) := by decide +kernel
theorem dX6_lost_59 : decode cX6_lost 59 = .ok (.ireturn, 1) := by decide +kernel
theorem dX6_append_0 : decode cX6_append 0 = .ok (.aload_n 0, 1) := by decide +kernel
theorem dX6_append_1 : decode cX6_append 1 = .ok (.iconst 0, 1) := by decide +kernel
theorem dX6_append_2 : decode cX6_append 2 = .ok (.putfield 44, 3) := by decide +kernel
theorem dX6_append_5 : decode cX6_append 5 = .ok (.iload_n 1, 1) := by decide +kernel
theorem dX6_append_6 : decode cX6_append 6 = .ok (.bipush 32, 2) := by decide +kernel
theorem dX6_append_8 : decode cX6_append 8 = .ok (.bipush 126, 2) := by decide +kernel
theorem dX6_append_10 : decode cX6_append 10 = .ok (.invokestatic 58, 3) := by decide +kernel
theorem dX6_append_13 : decode cX6_append 13 = .ok (.ifCond .ne 9, 3) := by decide +kernel
theorem dX6_append_16 : decode cX6_append 16 = .ok (.aload_n 0, 1) := by decide +kernel
theorem dX6_append_17 : decode cX6_append 17 = .ok (.iconst 1, 1) := by decide +kernel
theorem dX6_append_18 : decode cX6_append 18 = .ok (.invokevirtual 107, 3) := by decide +kernel
theorem dX6_append_21 : decode cX6_append 21 = .ok (.ireturn, 1) := by decide +kernel
theorem dX6_append_22 : decode cX6_append 22 = .ok (.aload_n 0, 1) := by decide +kernel
theorem dX6_append_23 : decode cX6_append 23 = .ok (.getfield 228, 3) := by decide +kernel
theorem dX6_append_26 : decode cX6_append 26 = .ok (.bipush 70, 2) := by decide +kernel
theorem dX6_append_28 : decode cX6_append 28 = .ok (.if_icmp .ne 9, 3) := by decide +kernel
theorem dX6_append_31 : decode cX6_append 31 = .ok (.aload_n 0, 1) := by decide +kernel
theorem dX6_append_32 : decode cX6_append 32 = .ok (.iconst 2, 1) := by decide +kernel
theorem dX6_append_33 : decode cX6_append 33 = .ok (.invokevirtual 107, 3) := by decide +kernel
theorem dX6_append_36 : decode cX6_append 36 = .ok (.ireturn, 1) := by decide +kernel
theorem dX6_append_37 : decode cX6_append 37 = .ok (.aload_n 0, 1) := by decide +kernel
theorem dX6_append_38 : decode cX6_append 38 = .ok (.getfield 22, 3) := by decide +kernel
theorem dX6_append_41 : decode cX6_append 41 = .ok (.aload_n 0, 1) := by decide +kernel
theorem dX6_append_42 : decode cX6_append 42 = .ok (.dup, 1) := by decide +kernel
theorem dX6_append_43 : decode cX6_append 43 = .ok (.getfield 228, 3) := by decide +kernel
theorem dX6_append_46 : decode cX6_append 46 = .ok (.dup_x1, 1) := by decide +kernel
theorem dX6_append_47 : decode cX6_append 47 = .ok (.iconst 1, 1) := by decide +kernel
theorem dX6_append_48 : decode cX6_append 48 = .ok (.iadd, 1) := by decide +kernel
theorem dX6_append_49 : decode cX6_append 49 = .ok (.putfield 228, 3) := by decide +kernel
theorem dX6_append_52 : decode cX6_append 52 = .ok (.iload_n 1, 1) := by decide +kernel
theorem dX6_append_53 : decode cX6_append 53 = .ok (.iastore, 1) := by decide +kernel
theorem dX6_append_54 : decode cX6_append 54 = .ok (.aload_n 0, 1) := by decide +kernel
theorem dX6_append_55 : decode cX6_append 55 = .ok (.getfield 228, 3) := by decide +kernel
theorem dX6_append_58 : decode cX6_append 58 = .ok (.ireturn, 1) := by decide +kernel
theorem dX6_takes_0 : decode cX6_takes 0 = .ok (.aload_n 0, 1) := by decide +kernel
theorem dX6_takes_1 : decode cX6_takes 1 = .ok (.getfield 231, 3) := by decide +kernel
theorem dX6_takes_4 : decode cX6_takes 4 = .ok (.aload_n 0, 1) := by decide +kernel
theorem dX6_takes_5 : decode cX6_takes 5 = .ok (.getfield 228, 3) := by decide +kernel
theorem dX6_takes_8 : decode cX6_takes 8 = .ok (.if_icmp .ge 20, 3) := by decide +kernel
theorem dX6_takes_11 : decode cX6_takes 11 = .ok (.aload_n 0, 1) := by decide +kernel
theorem dX6_takes_12 : decode cX6_takes 12 = .ok (.getfield 22, 3) := by decide +kernel
theorem dX6_takes_15 : decode cX6_takes 15 = .ok (.aload_n 0, 1) := by decide +kernel
theorem dX6_takes_16 : decode cX6_takes 16 = .ok (.getfield 231, 3) := by decide +kernel
theorem dX6_takes_19 : decode cX6_takes 19 = .ok (.iaload, 1) := by decide +kernel
theorem dX6_takes_20 : decode cX6_takes 20 = .ok (.iload_n 1, 1) := by decide +kernel
theorem dX6_takes_21 : decode cX6_takes 21 = .ok (.iload_n 2, 1) := by decide +kernel
theorem dX6_takes_22 : decode cX6_takes 22 = .ok (.invokestatic 58, 3) := by decide +kernel
theorem dX6_takes_25 : decode cX6_takes 25 = .ok (.ifCond .ne 5, 3) := by decide +kernel
theorem dX6_takes_28 : decode cX6_takes 28 = .ok (.iconst 0, 1) := by decide +kernel
theorem dX6_takes_29 : decode cX6_takes 29 = .ok (.ireturn, 1) := by decide +kernel
theorem dX6_takes_30 : decode cX6_takes 30 = .ok (.aload_n 0, 1) := by decide +kernel
theorem dX6_takes_31 : decode cX6_takes 31 = .ok (.dup, 1) := by decide +kernel
theorem dX6_takes_32 : decode cX6_takes 32 = .ok (.getfield 231, 3) := by decide +kernel
theorem dX6_takes_35 : decode cX6_takes 35 = .ok (.iconst 1, 1) := by decide +kernel
theorem dX6_takes_36 : decode cX6_takes 36 = .ok (.iadd, 1) := by decide +kernel
theorem dX6_takes_37 : decode cX6_takes 37 = .ok (.putfield 231, 3) := by decide +kernel
theorem dX6_takes_40 : decode cX6_takes 40 = .ok (.iconst 1, 1) := by decide +kernel
theorem dX6_takes_41 : decode cX6_takes 41 = .ok (.ireturn, 1) := by decide +kernel
theorem dX6_isNumber_0 : decode cX6_isNumber 0 = .ok (.aload_n 0, 1) := by decide +kernel
theorem dX6_isNumber_1 : decode cX6_isNumber 1 = .ok (.bipush 48, 2) := by decide +kernel
theorem dX6_isNumber_3 : decode cX6_isNumber 3 = .ok (.bipush 48, 2) := by decide +kernel
theorem dX6_isNumber_5 : decode cX6_isNumber 5 = .ok (.invokevirtual 234, 3) := by decide +kernel
theorem dX6_isNumber_8 : decode cX6_isNumber 8 = .ok (.ifCond .eq 5, 3) := by decide +kernel
theorem dX6_isNumber_11 : decode cX6_isNumber 11 = .ok (.iconst 1, 1) := by decide +kernel
theorem dX6_isNumber_12 : decode cX6_isNumber 12 = .ok (.ireturn, 1) := by decide +kernel
theorem dX6_isNumber_13 : decode cX6_isNumber 13 = .ok (.aload_n 0, 1) := by decide +kernel
theorem dX6_isNumber_14 : decode cX6_isNumber 14 = .ok (.bipush 49, 2) := by decide +kernel
theorem dX6_isNumber_16 : decode cX6_isNumber 16 = .ok (.bipush 57, 2) := by decide +kernel
theorem dX6_isNumber_18 : decode cX6_isNumber 18 = .ok (.invokevirtual 234, 3) := by decide +kernel
theorem dX6_isNumber_21 : decode cX6_isNumber 21 = .ok (.ifCond .ne 5, 3) := by decide +kernel
theorem dX6_isNumber_24 : decode cX6_isNumber 24 = .ok (.iconst 0, 1) := by decide +kernel
theorem dX6_isNumber_25 : decode cX6_isNumber 25 = .ok (.ireturn, 1) := by decide +kernel
theorem dX6_isNumber_26 : decode cX6_isNumber 26 = .ok (.aload_n 0, 1) := by decide +kernel
theorem dX6_isNumber_27 : decode cX6_isNumber 27 = .ok (.bipush 48, 2) := by decide +kernel
theorem dX6_isNumber_29 : decode cX6_isNumber 29 = .ok (.bipush 57, 2) := by decide +kernel
theorem dX6_isNumber_31 : decode cX6_isNumber 31 = .ok (.invokevirtual 234, 3) := by decide +kernel
theorem dX6_isNumber_34 : decode cX6_isNumber 34 = .ok (.pop, 1) := by decide +kernel
theorem dX6_isNumber_35 : decode cX6_isNumber 35 = .ok (.iconst 1, 1) := by decide +kernel
theorem dX6_isNumber_36 : decode cX6_isNumber 36 = .ok (.ireturn, 1) := by decide +kernel
theorem dX6_isMarked_0 : decode cX6_isMarked 0 = .ok (.aload_n 0, 1) := by decide +kernel
theorem dX6_isMarked_1 : decode cX6_isMarked 1 = .ok (.iload_n 1, 1) := by decide +kernel
theorem dX6_isMarked_2 : decode cX6_isMarked 2 = .ok (.iload_n 1, 1) := by decide +kernel
theorem dX6_isMarked_3 : decode cX6_isMarked 3 = .ok (.invokevirtual 234, 3) := by decide +kernel
theorem dX6_isMarked_6 : decode cX6_isMarked 6 = .ok (.ifCond .eq 17, 3) := by decide +kernel
theorem dX6_isMarked_9 : decode cX6_isMarked 9 = .ok (.aload_n 0, 1) := by decide +kernel
theorem dX6_isMarked_10 : decode cX6_isMarked 10 = .ok (.bipush 48, 2) := by decide +kernel
theorem dX6_isMarked_12 : decode cX6_isMarked 12 = .ok (.iload_n 2, 1) := by decide +kernel
theorem dX6_isMarked_13 : decode cX6_isMarked 13 = .ok (.invokevirtual 234, 3) := by decide +kernel
theorem dX6_isMarked_16 : decode cX6_isMarked 16 = .ok (.ifCond .eq 7, 3) := by decide +kernel
theorem dX6_isMarked_19 : decode cX6_isMarked 19 = .ok (.iconst 1, 1) := by decide +kernel
theorem dX6_isMarked_20 : decode cX6_isMarked 20 = .ok (.goto 4, 3) := by decide +kernel
theorem dX6_isMarked_23 : decode cX6_isMarked 23 = .ok (.iconst 0, 1) := by decide +kernel
theorem dX6_isMarked_24 : decode cX6_isMarked 24 = .ok (.ireturn, 1) := by decide +kernel
theorem dX6_isEntry_0 : decode cX6_isEntry 0 = .ok (.aload_n 0, 1) := by decide +kernel
theorem dX6_isEntry_1 : decode cX6_isEntry 1 = .ok (.bipush 116, 2) := by decide +kernel
theorem dX6_isEntry_3 : decode cX6_isEntry 3 = .ok (.bipush 116, 2) := by decide +kernel
theorem dX6_isEntry_5 : decode cX6_isEntry 5 = .ok (.invokevirtual 234, 3) := by decide +kernel
theorem dX6_isEntry_8 : decode cX6_isEntry 8 = .ok (.ifCond .eq 96, 3) := by decide +kernel
theorem dX6_isEntry_11 : decode cX6_isEntry 11 = .ok (.aload_n 0, 1) := by decide +kernel
theorem dX6_isEntry_12 : decode cX6_isEntry 12 = .ok (.bipush 48, 2) := by decide +kernel
theorem dX6_isEntry_14 : decode cX6_isEntry 14 = .ok (.bipush 53, 2) := by decide +kernel
theorem dX6_isEntry_16 : decode cX6_isEntry 16 = .ok (.invokevirtual 234, 3) := by decide +kernel
theorem dX6_isEntry_19 : decode cX6_isEntry 19 = .ok (.ifCond .ne 5, 3) := by decide +kernel
theorem dX6_isEntry_22 : decode cX6_isEntry 22 = .ok (.iconst 0, 1) := by decide +kernel
theorem dX6_isEntry_23 : decode cX6_isEntry 23 = .ok (.ireturn, 1) := by decide +kernel
theorem dX6_isEntry_24 : decode cX6_isEntry 24 = .ok (.aload_n 0, 1) := by decide +kernel
theorem dX6_isEntry_25 : decode cX6_isEntry 25 = .ok (.getfield 22, 3) := by decide +kernel
theorem dX6_isEntry_28 : decode cX6_isEntry 28 = .ok (.aload_n 0, 1) := by decide +kernel
theorem dX6_isEntry_29 : decode cX6_isEntry 29 = .ok (.getfield 231, 3) := by decide +kernel
theorem dX6_isEntry_32 : decode cX6_isEntry 32 = .ok (.iconst 1, 1) := by decide +kernel
theorem dX6_isEntry_33 : decode cX6_isEntry 33 = .ok (.isub, 1) := by decide +kernel
theorem dX6_isEntry_34 : decode cX6_isEntry 34 = .ok (.iaload, 1) := by decide +kernel
theorem dX6_isEntry_35 : decode cX6_isEntry 35 = .ok (.iconst 1, 1) := by decide +kernel
theorem dX6_isEntry_36 : decode cX6_isEntry 36 = .ok (.iadd, 1) := by decide +kernel
theorem dX6_isEntry_37 : decode cX6_isEntry 37 = .ok (.istore_n 1, 1) := by decide +kernel
theorem dX6_isEntry_38 : decode cX6_isEntry 38 = .ok (.aload_n 0, 1) := by decide +kernel
theorem dX6_isEntry_39 : decode cX6_isEntry 39 = .ok (.iload_n 1, 1) := by decide +kernel
theorem dX6_isEntry_40 : decode cX6_isEntry 40 = .ok (.bipush 53, 2) := by decide +kernel
theorem dX6_isEntry_42 : decode cX6_isEntry 42 = .ok (.invokevirtual 234, 3) := by decide +kernel
theorem dX6_isEntry_45 : decode cX6_isEntry 45 = .ok (.ifCond .eq 20, 3) := by decide +kernel
theorem dX6_isEntry_48 : decode cX6_isEntry 48 = .ok (.aload_n 0, 1) := by decide +kernel
theorem dX6_isEntry_49 : decode cX6_isEntry 49 = .ok (.getfield 22, 3) := by decide +kernel
theorem dX6_isEntry_52 : decode cX6_isEntry 52 = .ok (.aload_n 0, 1) := by decide +kernel
theorem dX6_isEntry_53 : decode cX6_isEntry 53 = .ok (.getfield 231, 3) := by decide +kernel
theorem dX6_isEntry_56 : decode cX6_isEntry 56 = .ok (.iconst 1, 1) := by decide +kernel
theorem dX6_isEntry_57 : decode cX6_isEntry 57 = .ok (.isub, 1) := by decide +kernel
theorem dX6_isEntry_58 : decode cX6_isEntry 58 = .ok (.iaload, 1) := by decide +kernel
theorem dX6_isEntry_59 : decode cX6_isEntry 59 = .ok (.iconst 1, 1) := by decide +kernel
theorem dX6_isEntry_60 : decode cX6_isEntry 60 = .ok (.iadd, 1) := by decide +kernel
theorem dX6_isEntry_61 : decode cX6_isEntry 61 = .ok (.istore_n 1, 1) := by decide +kernel
theorem dX6_isEntry_62 : decode cX6_isEntry 62 = .ok (.goto (-24), 3) := by decide +kernel
theorem dX6_isEntry_65 : decode cX6_isEntry 65 = .ok (.aload_n 0, 1) := by decide +kernel
theorem dX6_isEntry_66 : decode cX6_isEntry 66 = .ok (.bipush 42, 2) := by decide +kernel
theorem dX6_isEntry_68 : decode cX6_isEntry 68 = .ok (.bipush 42, 2) := by decide +kernel
theorem dX6_isEntry_70 : decode cX6_isEntry 70 = .ok (.invokevirtual 234, 3) := by decide +kernel
theorem dX6_isEntry_73 : decode cX6_isEntry 73 = .ok (.ifCond .eq 29, 3) := by decide +kernel
theorem dX6_isEntry_76 : decode cX6_isEntry 76 = .ok (.aload_n 0, 1) := by decide +kernel
theorem dX6_isEntry_77 : decode cX6_isEntry 77 = .ok (.bipush 49, 2) := by decide +kernel
theorem dX6_isEntry_79 : decode cX6_isEntry 79 = .ok (.bipush 52, 2) := by decide +kernel
theorem dX6_isEntry_81 : decode cX6_isEntry 81 = .ok (.invokevirtual 234, 3) := by decide +kernel
theorem dX6_isEntry_84 : decode cX6_isEntry 84 = .ok (.ifCond .eq 18, 3) := by decide +kernel
theorem dX6_isEntry_87 : decode cX6_isEntry 87 = .ok (.aload_n 0, 1) := by decide +kernel
theorem dX6_isEntry_88 : decode cX6_isEntry 88 = .ok (.bipush 59, 2) := by decide +kernel
theorem dX6_isEntry_90 : decode cX6_isEntry 90 = .ok (.bipush 59, 2) := by decide +kernel
theorem dX6_isEntry_92 : decode cX6_isEntry 92 = .ok (.invokevirtual 234, 3) := by decide +kernel
theorem dX6_isEntry_95 : decode cX6_isEntry 95 = .ok (.ifCond .eq 7, 3) := by decide +kernel
theorem dX6_isEntry_98 : decode cX6_isEntry 98 = .ok (.iconst 1, 1) := by decide +kernel
theorem dX6_isEntry_99 : decode cX6_isEntry 99 = .ok (.goto 4, 3) := by decide +kernel
theorem dX6_isEntry_102 : decode cX6_isEntry 102 = .ok (.iconst 0, 1) := by decide +kernel
theorem dX6_isEntry_103 : decode cX6_isEntry 103 = .ok (.ireturn, 1) := by decide +kernel
theorem dX6_isEntry_104 : decode cX6_isEntry 104 = .ok (.aload_n 0, 1) := by decide +kernel
theorem dX6_isEntry_105 : decode cX6_isEntry 105 = .ok (.bipush 108, 2) := by decide +kernel
theorem dX6_isEntry_107 : decode cX6_isEntry 107 = .ok (.bipush 108, 2) := by decide +kernel
theorem dX6_isEntry_109 : decode cX6_isEntry 109 = .ok (.invokevirtual 234, 3) := by decide +kernel
theorem dX6_isEntry_112 : decode cX6_isEntry 112 = .ok (.ifCond .eq 71, 3) := by decide +kernel
theorem dX6_isEntry_115 : decode cX6_isEntry 115 = .ok (.aload_n 0, 1) := by decide +kernel
theorem dX6_isEntry_116 : decode cX6_isEntry 116 = .ok (.invokevirtual 237, 3) := by decide +kernel
theorem dX6_isEntry_119 : decode cX6_isEntry 119 = .ok (.ifCond .eq 62, 3) := by decide +kernel
theorem dX6_isEntry_122 : decode cX6_isEntry 122 = .ok (.aload_n 0, 1) := by decide +kernel
theorem dX6_isEntry_123 : decode cX6_isEntry 123 = .ok (.bipush 99, 2) := by decide +kernel
theorem dX6_isEntry_125 : decode cX6_isEntry 125 = .ok (.bipush 53, 2) := by decide +kernel
theorem dX6_isEntry_127 : decode cX6_isEntry 127 = .ok (.invokevirtual 240, 3) := by decide +kernel
theorem dX6_isEntry_130 : decode cX6_isEntry 130 = .ok (.ifCond .eq 51, 3) := by decide +kernel
theorem dX6_isEntry_133 : decode cX6_isEntry 133 = .ok (.aload_n 0, 1) := by decide +kernel
theorem dX6_isEntry_134 : decode cX6_isEntry 134 = .ok (.bipush 115, 2) := by decide +kernel
theorem dX6_isEntry_136 : decode cX6_isEntry 136 = .ok (.bipush 53, 2) := by decide +kernel
theorem dX6_isEntry_138 : decode cX6_isEntry 138 = .ok (.invokevirtual 240, 3) := by decide +kernel
theorem dX6_isEntry_141 : decode cX6_isEntry 141 = .ok (.ifCond .eq 40, 3) := by decide +kernel
theorem dX6_isEntry_144 : decode cX6_isEntry 144 = .ok (.aload_n 0, 1) := by decide +kernel
theorem dX6_isEntry_145 : decode cX6_isEntry 145 = .ok (.bipush 112, 2) := by decide +kernel
theorem dX6_isEntry_147 : decode cX6_isEntry 147 = .ok (.bipush 55, 2) := by decide +kernel
theorem dX6_isEntry_149 : decode cX6_isEntry 149 = .ok (.invokevirtual 240, 3) := by decide +kernel
theorem dX6_isEntry_152 : decode cX6_isEntry 152 = .ok (.ifCond .eq 29, 3) := by decide +kernel
theorem dX6_isEntry_155 : decode cX6_isEntry 155 = .ok (.aload_n 0, 1) := by decide +kernel
theorem dX6_isEntry_156 : decode cX6_isEntry 156 = .ok (.bipush 114, 2) := by decide +kernel
theorem dX6_isEntry_158 : decode cX6_isEntry 158 = .ok (.bipush 53, 2) := by decide +kernel
theorem dX6_isEntry_160 : decode cX6_isEntry 160 = .ok (.invokevirtual 240, 3) := by decide +kernel
theorem dX6_isEntry_163 : decode cX6_isEntry 163 = .ok (.ifCond .eq 18, 3) := by decide +kernel
theorem dX6_isEntry_166 : decode cX6_isEntry 166 = .ok (.aload_n 0, 1) := by decide +kernel
theorem dX6_isEntry_167 : decode cX6_isEntry 167 = .ok (.bipush 59, 2) := by decide +kernel
theorem dX6_isEntry_169 : decode cX6_isEntry 169 = .ok (.bipush 59, 2) := by decide +kernel
theorem dX6_isEntry_171 : decode cX6_isEntry 171 = .ok (.invokevirtual 234, 3) := by decide +kernel
theorem dX6_isEntry_174 : decode cX6_isEntry 174 = .ok (.ifCond .eq 7, 3) := by decide +kernel
theorem dX6_isEntry_177 : decode cX6_isEntry 177 = .ok (.iconst 1, 1) := by decide +kernel
theorem dX6_isEntry_178 : decode cX6_isEntry 178 = .ok (.goto 4, 3) := by decide +kernel
theorem dX6_isEntry_181 : decode cX6_isEntry 181 = .ok (.iconst 0, 1) := by decide +kernel
theorem dX6_isEntry_182 : decode cX6_isEntry 182 = .ok (.ireturn, 1) := by decide +kernel
theorem dX6_isEntry_183 : decode cX6_isEntry 183 = .ok (.aload_n 0, 1) := by decide +kernel
theorem dX6_isEntry_184 : decode cX6_isEntry 184 = .ok (.bipush 97, 2) := by decide +kernel
theorem dX6_isEntry_186 : decode cX6_isEntry 186 = .ok (.bipush 97, 2) := by decide +kernel
theorem dX6_isEntry_188 : decode cX6_isEntry 188 = .ok (.invokevirtual 234, 3) := by decide +kernel
theorem dX6_isEntry_191 : decode cX6_isEntry 191 = .ok (.ifCond .eq 47, 3) := by decide +kernel
theorem dX6_isEntry_194 : decode cX6_isEntry 194 = .ok (.aload_n 0, 1) := by decide +kernel
theorem dX6_isEntry_195 : decode cX6_isEntry 195 = .ok (.bipush 48, 2) := by decide +kernel
theorem dX6_isEntry_197 : decode cX6_isEntry 197 = .ok (.bipush 55, 2) := by decide +kernel
theorem dX6_isEntry_199 : decode cX6_isEntry 199 = .ok (.invokevirtual 234, 3) := by decide +kernel
theorem dX6_isEntry_202 : decode cX6_isEntry 202 = .ok (.ifCond .eq 36, 3) := by decide +kernel
theorem dX6_isEntry_205 : decode cX6_isEntry 205 = .ok (.aload_n 0, 1) := by decide +kernel
theorem dX6_isEntry_206 : decode cX6_isEntry 206 = .ok (.bipush 64, 2) := by decide +kernel
theorem dX6_isEntry_208 : decode cX6_isEntry 208 = .ok (.bipush 64, 2) := by decide +kernel
theorem dX6_isEntry_210 : decode cX6_isEntry 210 = .ok (.invokevirtual 234, 3) := by decide +kernel
theorem dX6_isEntry_213 : decode cX6_isEntry 213 = .ok (.ifCond .eq 25, 3) := by decide +kernel
theorem dX6_isEntry_216 : decode cX6_isEntry 216 = .ok (.aload_n 0, 1) := by decide +kernel
theorem dX6_isEntry_217 : decode cX6_isEntry 217 = .ok (.invokevirtual 237, 3) := by decide +kernel
theorem dX6_isEntry_220 : decode cX6_isEntry 220 = .ok (.ifCond .eq 18, 3) := by decide +kernel
theorem dX6_isEntry_223 : decode cX6_isEntry 223 = .ok (.aload_n 0, 1) := by decide +kernel
theorem dX6_isEntry_224 : decode cX6_isEntry 224 = .ok (.bipush 59, 2) := by decide +kernel
theorem dX6_isEntry_226 : decode cX6_isEntry 226 = .ok (.bipush 59, 2) := by decide +kernel
theorem dX6_isEntry_228 : decode cX6_isEntry 228 = .ok (.invokevirtual 234, 3) := by decide +kernel
theorem dX6_isEntry_231 : decode cX6_isEntry 231 = .ok (.ifCond .eq 7, 3) := by decide +kernel
theorem dX6_isEntry_234 : decode cX6_isEntry 234 = .ok (.iconst 1, 1) := by decide +kernel
theorem dX6_isEntry_235 : decode cX6_isEntry 235 = .ok (.goto 4, 3) := by decide +kernel
theorem dX6_isEntry_238 : decode cX6_isEntry 238 = .ok (.iconst 0, 1) := by decide +kernel
theorem dX6_isEntry_239 : decode cX6_isEntry 239 = .ok (.ireturn, 1) := by decide +kernel
theorem dX6_number_0 : decode cX6_number 0 = .ok (.aload_n 0, 1) := by decide +kernel
theorem dX6_number_1 : decode cX6_number 1 = .ok (.iload_n 1, 1) := by decide +kernel
theorem dX6_number_2 : decode cX6_number 2 = .ok (.putfield 231, 3) := by decide +kernel
theorem dX6_number_5 : decode cX6_number 5 = .ok (.iconst 0, 1) := by decide +kernel
theorem dX6_number_6 : decode cX6_number 6 = .ok (.istore_n 2, 1) := by decide +kernel
theorem dX6_number_7 : decode cX6_number 7 = .ok (.aload_n 0, 1) := by decide +kernel
theorem dX6_number_8 : decode cX6_number 8 = .ok (.getfield 22, 3) := by decide +kernel
theorem dX6_number_11 : decode cX6_number 11 = .ok (.aload_n 0, 1) := by decide +kernel
theorem dX6_number_12 : decode cX6_number 12 = .ok (.getfield 231, 3) := by decide +kernel
theorem dX6_number_15 : decode cX6_number 15 = .ok (.iaload, 1) := by decide +kernel
theorem dX6_number_16 : decode cX6_number 16 = .ok (.bipush 48, 2) := by decide +kernel
theorem dX6_number_18 : decode cX6_number 18 = .ok (.bipush 57, 2) := by decide +kernel
theorem dX6_number_20 : decode cX6_number 20 = .ok (.invokestatic 58, 3) := by decide +kernel
theorem dX6_number_23 : decode cX6_number 23 = .ok (.ifCond .eq 31, 3) := by decide +kernel
theorem dX6_number_26 : decode cX6_number 26 = .ok (.bipush 10, 2) := by decide +kernel
theorem dX6_number_28 : decode cX6_number 28 = .ok (.iload_n 2, 1) := by decide +kernel
theorem dX6_number_29 : decode cX6_number 29 = .ok (.imul, 1) := by decide +kernel
theorem dX6_number_30 : decode cX6_number 30 = .ok (.aload_n 0, 1) := by decide +kernel
theorem dX6_number_31 : decode cX6_number 31 = .ok (.getfield 22, 3) := by decide +kernel
theorem dX6_number_34 : decode cX6_number 34 = .ok (.aload_n 0, 1) := by decide +kernel
theorem dX6_number_35 : decode cX6_number 35 = .ok (.dup, 1) := by decide +kernel
theorem dX6_number_36 : decode cX6_number 36 = .ok (.getfield 231, 3) := by decide +kernel
theorem dX6_number_39 : decode cX6_number 39 = .ok (.dup_x1, 1) := by decide +kernel
theorem dX6_number_40 : decode cX6_number 40 = .ok (.iconst 1, 1) := by decide +kernel
theorem dX6_number_41 : decode cX6_number 41 = .ok (.iadd, 1) := by decide +kernel
theorem dX6_number_42 : decode cX6_number 42 = .ok (.putfield 231, 3) := by decide +kernel
theorem dX6_number_45 : decode cX6_number 45 = .ok (.iaload, 1) := by decide +kernel
theorem dX6_number_46 : decode cX6_number 46 = .ok (.iadd, 1) := by decide +kernel
theorem dX6_number_47 : decode cX6_number 47 = .ok (.bipush 48, 2) := by decide +kernel
theorem dX6_number_49 : decode cX6_number 49 = .ok (.isub, 1) := by decide +kernel
theorem dX6_number_50 : decode cX6_number 50 = .ok (.istore_n 2, 1) := by decide +kernel
theorem dX6_number_51 : decode cX6_number 51 = .ok (.goto (-44), 3) := by decide +kernel
theorem dX6_number_54 : decode cX6_number 54 = .ok (.iload_n 2, 1) := by decide +kernel
theorem dX6_number_55 : decode cX6_number 55 = .ok (.ireturn, 1) := by decide +kernel
theorem dX6_does_0 : decode cX6_does 0 = .ok (.aload_n 0, 1) := by decide +kernel
theorem dX6_does_1 : decode cX6_does 1 = .ok (.iload_n 1, 1) := by decide +kernel
theorem dX6_does_2 : decode cX6_does 2 = .ok (.iconst 1, 1) := by decide +kernel
theorem dX6_does_3 : decode cX6_does 3 = .ok (.iadd, 1) := by decide +kernel
theorem dX6_does_4 : decode cX6_does 4 = .ok (.putfield 231, 3) := by decide +kernel
theorem dX6_does_7 : decode cX6_does 7 = .ok (.aload_n 0, 1) := by decide +kernel
theorem dX6_does_8 : decode cX6_does 8 = .ok (.getfield 22, 3) := by decide +kernel
theorem dX6_does_11 : decode cX6_does 11 = .ok (.iload_n 1, 1) := by decide +kernel
theorem dX6_does_12 : decode cX6_does 12 = .ok (.iaload, 1) := by decide +kernel
theorem dX6_does_13 : decode cX6_does 13 = .ok (.bipush 116, 2) := by decide +kernel
theorem dX6_does_15 : decode cX6_does 15 = .ok (.if_icmp .ne 65, 3) := by decide +kernel
theorem dX6_does_18 : decode cX6_does 18 = .ok (.iconst 0, 1) := by decide +kernel
theorem dX6_does_19 : decode cX6_does 19 = .ok (.istore_n 2, 1) := by decide +kernel
theorem dX6_does_20 : decode cX6_does 20 = .ok (.aload_n 0, 1) := by decide +kernel
theorem dX6_does_21 : decode cX6_does 21 = .ok (.getfield 22, 3) := by decide +kernel
theorem dX6_does_24 : decode cX6_does 24 = .ok (.aload_n 0, 1) := by decide +kernel
theorem dX6_does_25 : decode cX6_does 25 = .ok (.getfield 231, 3) := by decide +kernel
theorem dX6_does_28 : decode cX6_does 28 = .ok (.iaload, 1) := by decide +kernel
theorem dX6_does_29 : decode cX6_does 29 = .ok (.bipush 42, 2) := by decide +kernel
theorem dX6_does_31 : decode cX6_does 31 = .ok (.if_icmp .eq 30, 3) := by decide +kernel
theorem dX6_does_34 : decode cX6_does 34 = .ok (.iload_n 2, 1) := by decide +kernel
theorem dX6_does_35 : decode cX6_does 35 = .ok (.iconst 1, 1) := by decide +kernel
theorem dX6_does_36 : decode cX6_does 36 = .ok (.aload_n 0, 1) := by decide +kernel
theorem dX6_does_37 : decode cX6_does 37 = .ok (.getfield 22, 3) := by decide +kernel
theorem dX6_does_40 : decode cX6_does 40 = .ok (.aload_n 0, 1) := by decide +kernel
theorem dX6_does_41 : decode cX6_does 41 = .ok (.dup, 1) := by decide +kernel
theorem dX6_does_42 : decode cX6_does 42 = .ok (.getfield 231, 3) := by decide +kernel
theorem dX6_does_45 : decode cX6_does 45 = .ok (.dup_x1, 1) := by decide +kernel
theorem dX6_does_46 : decode cX6_does 46 = .ok (.iconst 1, 1) := by decide +kernel
theorem dX6_does_47 : decode cX6_does 47 = .ok (.iadd, 1) := by decide +kernel
theorem dX6_does_48 : decode cX6_does 48 = .ok (.putfield 231, 3) := by decide +kernel
theorem dX6_does_51 : decode cX6_does 51 = .ok (.iaload, 1) := by decide +kernel
theorem dX6_does_52 : decode cX6_does 52 = .ok (.bipush 48, 2) := by decide +kernel
theorem dX6_does_54 : decode cX6_does 54 = .ok (.isub, 1) := by decide +kernel
theorem dX6_does_55 : decode cX6_does 55 = .ok (.ishl, 1) := by decide +kernel
theorem dX6_does_56 : decode cX6_does 56 = .ok (.ior, 1) := by decide +kernel
theorem dX6_does_57 : decode cX6_does 57 = .ok (.istore_n 2, 1) := by decide +kernel
theorem dX6_does_58 : decode cX6_does 58 = .ok (.goto (-38), 3) := by decide +kernel
theorem dX6_does_61 : decode cX6_does 61 = .ok (.aload_n 0, 1) := by decide +kernel
theorem dX6_does_62 : decode cX6_does 62 = .ok (.iload_n 2, 1) := by decide +kernel
theorem dX6_does_63 : decode cX6_does 63 = .ok (.aload_n 0, 1) := by decide +kernel
theorem dX6_does_64 : decode cX6_does 64 = .ok (.aload_n 0, 1) := by decide +kernel
theorem dX6_does_65 : decode cX6_does 65 = .ok (.getfield 231, 3) := by decide +kernel
theorem dX6_does_68 : decode cX6_does 68 = .ok (.iconst 1, 1) := by decide +kernel
theorem dX6_does_69 : decode cX6_does 69 = .ok (.iadd, 1) := by decide +kernel
theorem dX6_does_70 : decode cX6_does 70 = .ok (.invokevirtual 244, 3) := by decide +kernel
theorem dX6_does_73 : decode cX6_does 73 = .ok (.invokevirtual 113, 3) := by decide +kernel
theorem dX6_does_76 : decode cX6_does 76 = .ok (.pop, 1) := by decide +kernel
theorem dX6_does_77 : decode cX6_does 77 = .ok (.goto 164, 3) := by decide +kernel
theorem dX6_does_80 : decode cX6_does 80 = .ok (.aload_n 0, 1) := by decide +kernel
theorem dX6_does_81 : decode cX6_does 81 = .ok (.getfield 22, 3) := by decide +kernel
theorem dX6_does_84 : decode cX6_does 84 = .ok (.iload_n 1, 1) := by decide +kernel
theorem dX6_does_85 : decode cX6_does 85 = .ok (.iaload, 1) := by decide +kernel
theorem dX6_does_86 : decode cX6_does 86 = .ok (.bipush 108, 2) := by decide +kernel
theorem dX6_does_88 : decode cX6_does 88 = .ok (.if_icmp .ne 89, 3) := by decide +kernel
theorem dX6_does_91 : decode cX6_does 91 = .ok (.aload_n 0, 1) := by decide +kernel
theorem dX6_does_92 : decode cX6_does 92 = .ok (.aload_n 0, 1) := by decide +kernel
theorem dX6_does_93 : decode cX6_does 93 = .ok (.getfield 231, 3) := by decide +kernel
theorem dX6_does_96 : decode cX6_does 96 = .ok (.invokevirtual 244, 3) := by decide +kernel
theorem dX6_does_99 : decode cX6_does 99 = .ok (.istore_n 2, 1) := by decide +kernel
theorem dX6_does_100 : decode cX6_does 100 = .ok (.aload_n 0, 1) := by decide +kernel
theorem dX6_does_101 : decode cX6_does 101 = .ok (.iload_n 2, 1) := by decide +kernel
theorem dX6_does_102 : decode cX6_does 102 = .ok (.aload_n 0, 1) := by decide +kernel
theorem dX6_does_103 : decode cX6_does 103 = .ok (.getfield 22, 3) := by decide +kernel
theorem dX6_does_106 : decode cX6_does 106 = .ok (.aload_n 0, 1) := by decide +kernel
theorem dX6_does_107 : decode cX6_does 107 = .ok (.getfield 231, 3) := by decide +kernel
theorem dX6_does_110 : decode cX6_does 110 = .ok (.iconst 1, 1) := by decide +kernel
theorem dX6_does_111 : decode cX6_does 111 = .ok (.iadd, 1) := by decide +kernel
theorem dX6_does_112 : decode cX6_does 112 = .ok (.iaload, 1) := by decide +kernel
theorem dX6_does_113 : decode cX6_does 113 = .ok (.bipush 48, 2) := by decide +kernel
theorem dX6_does_115 : decode cX6_does 115 = .ok (.isub, 1) := by decide +kernel
theorem dX6_does_116 : decode cX6_does 116 = .ok (.aload_n 0, 1) := by decide +kernel
theorem dX6_does_117 : decode cX6_does 117 = .ok (.getfield 22, 3) := by decide +kernel
theorem dX6_does_120 : decode cX6_does 120 = .ok (.aload_n 0, 1) := by decide +kernel
theorem dX6_does_121 : decode cX6_does 121 = .ok (.getfield 231, 3) := by decide +kernel
theorem dX6_does_124 : decode cX6_does 124 = .ok (.iconst 3, 1) := by decide +kernel
theorem dX6_does_125 : decode cX6_does 125 = .ok (.iadd, 1) := by decide +kernel
theorem dX6_does_126 : decode cX6_does 126 = .ok (.iaload, 1) := by decide +kernel
theorem dX6_does_127 : decode cX6_does 127 = .ok (.bipush 48, 2) := by decide +kernel
theorem dX6_does_129 : decode cX6_does 129 = .ok (.isub, 1) := by decide +kernel
theorem dX6_does_130 : decode cX6_does 130 = .ok (.aload_n 0, 1) := by decide +kernel
theorem dX6_does_131 : decode cX6_does 131 = .ok (.getfield 22, 3) := by decide +kernel
theorem dX6_does_134 : decode cX6_does 134 = .ok (.aload_n 0, 1) := by decide +kernel
theorem dX6_does_135 : decode cX6_does 135 = .ok (.getfield 231, 3) := by decide +kernel
theorem dX6_does_138 : decode cX6_does 138 = .ok (.iconst 5, 1) := by decide +kernel
theorem dX6_does_139 : decode cX6_does 139 = .ok (.iadd, 1) := by decide +kernel
theorem dX6_does_140 : decode cX6_does 140 = .ok (.iaload, 1) := by decide +kernel
theorem dX6_does_141 : decode cX6_does 141 = .ok (.bipush 48, 2) := by decide +kernel
theorem dX6_does_143 : decode cX6_does 143 = .ok (.isub, 1) := by decide +kernel
theorem dX6_does_144 : decode cX6_does 144 = .ok (.aload_n 0, 1) := by decide +kernel
theorem dX6_does_145 : decode cX6_does 145 = .ok (.getfield 22, 3) := by decide +kernel
theorem dX6_does_148 : decode cX6_does 148 = .ok (.aload_n 0, 1) := by decide +kernel
theorem dX6_does_149 : decode cX6_does 149 = .ok (.getfield 231, 3) := by decide +kernel
theorem dX6_does_152 : decode cX6_does 152 = .ok (.bipush 7, 2) := by decide +kernel
theorem dX6_does_154 : decode cX6_does 154 = .ok (.iadd, 1) := by decide +kernel
theorem dX6_does_155 : decode cX6_does 155 = .ok (.iaload, 1) := by decide +kernel
theorem dX6_does_156 : decode cX6_does 156 = .ok (.bipush 48, 2) := by decide +kernel
theorem dX6_does_158 : decode cX6_does 158 = .ok (.isub, 1) := by decide +kernel
theorem dX6_does_159 : decode cX6_does 159 = .ok (.invokevirtual 149, 3) := by decide +kernel
theorem dX6_does_162 : decode cX6_does 162 = .ok (.pop, 1) := by decide +kernel
theorem dX6_does_163 : decode cX6_does 163 = .ok (.aload_n 0, 1) := by decide +kernel
theorem dX6_does_164 : decode cX6_does 164 = .ok (.dup, 1) := by decide +kernel
theorem dX6_does_165 : decode cX6_does 165 = .ok (.getfield 231, 3) := by decide +kernel
theorem dX6_does_168 : decode cX6_does 168 = .ok (.bipush 8, 2) := by decide +kernel
theorem dX6_does_170 : decode cX6_does 170 = .ok (.iadd, 1) := by decide +kernel
theorem dX6_does_171 : decode cX6_does 171 = .ok (.putfield 231, 3) := by decide +kernel
theorem dX6_does_174 : decode cX6_does 174 = .ok (.goto 67, 3) := by decide +kernel
theorem dX6_does_177 : decode cX6_does 177 = .ok (.aload_n 0, 1) := by decide +kernel
theorem dX6_does_178 : decode cX6_does 178 = .ok (.getfield 22, 3) := by decide +kernel
theorem dX6_does_181 : decode cX6_does 181 = .ok (.aload_n 0, 1) := by decide +kernel
theorem dX6_does_182 : decode cX6_does 182 = .ok (.getfield 231, 3) := by decide +kernel
theorem dX6_does_185 : decode cX6_does 185 = .ok (.iaload, 1) := by decide +kernel
theorem dX6_does_186 : decode cX6_does 186 = .ok (.bipush 48, 2) := by decide +kernel
theorem dX6_does_188 : decode cX6_does 188 = .ok (.isub, 1) := by decide +kernel
theorem dX6_does_189 : decode cX6_does 189 = .ok (.istore_n 2, 1) := by decide +kernel
theorem dX6_does_190 : decode cX6_does 190 = .ok (.aload_n 0, 1) := by decide +kernel
theorem dX6_does_191 : decode cX6_does 191 = .ok (.aload_n 0, 1) := by decide +kernel
theorem dX6_does_192 : decode cX6_does 192 = .ok (.getfield 231, 3) := by decide +kernel
theorem dX6_does_195 : decode cX6_does 195 = .ok (.iconst 2, 1) := by decide +kernel
theorem dX6_does_196 : decode cX6_does 196 = .ok (.iadd, 1) := by decide +kernel
theorem dX6_does_197 : decode cX6_does 197 = .ok (.invokevirtual 244, 3) := by decide +kernel
theorem dX6_does_200 : decode cX6_does 200 = .ok (.istore_n 3, 1) := by decide +kernel
theorem dX6_does_201 : decode cX6_does 201 = .ok (.aload_n 0, 1) := by decide +kernel
theorem dX6_does_202 : decode cX6_does 202 = .ok (.iload_n 2, 1) := by decide +kernel
theorem dX6_does_203 : decode cX6_does 203 = .ok (.invokevirtual 119, 3) := by decide +kernel
theorem dX6_does_206 : decode cX6_does 206 = .ok (.ifCond .eq 19, 3) := by decide +kernel
theorem dX6_does_209 : decode cX6_does 209 = .ok (.iload_n 3, 1) := by decide +kernel
theorem dX6_does_210 : decode cX6_does 210 = .ok (.invokestatic 142, 3) := by decide +kernel
theorem dX6_does_213 : decode cX6_does 213 = .ok (.ifCond .eq 12, 3) := by decide +kernel
theorem dX6_does_216 : decode cX6_does 216 = .ok (.aload_n 0, 1) := by decide +kernel
theorem dX6_does_217 : decode cX6_does 217 = .ok (.iload_n 2, 1) := by decide +kernel
theorem dX6_does_218 : decode cX6_does 218 = .ok (.iload_n 3, 1) := by decide +kernel
theorem dX6_does_219 : decode cX6_does 219 = .ok (.invokevirtual 81, 3) := by decide +kernel
theorem dX6_does_222 : decode cX6_does 222 = .ok (.ifCond .eq 11, 3) := by decide +kernel
theorem dX6_does_225 : decode cX6_does 225 = .ok (.aload_n 0, 1) := by decide +kernel
theorem dX6_does_226 : decode cX6_does 226 = .ok (.iconst 1, 1) := by decide +kernel
theorem dX6_does_227 : decode cX6_does 227 = .ok (.putfield 44, 3) := by decide +kernel
theorem dX6_does_230 : decode cX6_does 230 = .ok (.goto 11, 3) := by decide +kernel
theorem dX6_does_233 : decode cX6_does 233 = .ok (.aload_n 0, 1) := by decide +kernel
theorem dX6_does_234 : decode cX6_does 234 = .ok (.iload_n 2, 1) := by decide +kernel
theorem dX6_does_235 : decode cX6_does 235 = .ok (.iload_n 3, 1) := by decide +kernel
theorem dX6_does_236 : decode cX6_does 236 = .ok (.iconst 1, 1) := by decide +kernel
theorem dX6_does_237 : decode cX6_does 237 = .ok (.invokevirtual 169, 3) := by decide +kernel
theorem dX6_does_240 : decode cX6_does 240 = .ok (.pop, 1) := by decide +kernel
theorem dX6_does_241 : decode cX6_does 241 = .ok (.aload_n 0, 1) := by decide +kernel
theorem dX6_does_242 : decode cX6_does 242 = .ok (.getfield 231, 3) := by decide +kernel
theorem dX6_does_245 : decode cX6_does 245 = .ok (.iconst 1, 1) := by decide +kernel
theorem dX6_does_246 : decode cX6_does 246 = .ok (.iadd, 1) := by decide +kernel
theorem dX6_does_247 : decode cX6_does 247 = .ok (.ireturn, 1) := by decide +kernel
theorem dX6_read_0 : decode cX6_read 0 = .ok (.aload_n 0, 1) := by decide +kernel
theorem dX6_read_1 : decode cX6_read 1 = .ok (.iconst 0, 1) := by decide +kernel
theorem dX6_read_2 : decode cX6_read 2 = .ok (.putfield 44, 3) := by decide +kernel
theorem dX6_read_5 : decode cX6_read 5 = .ok (.aload_n 0, 1) := by decide +kernel
theorem dX6_read_6 : decode cX6_read 6 = .ok (.iconst 0, 1) := by decide +kernel
theorem dX6_read_7 : decode cX6_read 7 = .ok (.putfield 231, 3) := by decide +kernel
theorem dX6_read_10 : decode cX6_read 10 = .ok (.aload_n 0, 1) := by decide +kernel
theorem dX6_read_11 : decode cX6_read 11 = .ok (.invokevirtual 247, 3) := by decide +kernel
theorem dX6_read_14 : decode cX6_read 14 = .ok (.istore_n 1, 1) := by decide +kernel
theorem dX6_read_15 : decode cX6_read 15 = .ok (.iload_n 1, 1) := by decide +kernel
theorem dX6_read_16 : decode cX6_read 16 = .ok (.ifCond .eq 22, 3) := by decide +kernel
theorem dX6_read_19 : decode cX6_read 19 = .ok (.aload_n 0, 1) := by decide +kernel
theorem dX6_read_20 : decode cX6_read 20 = .ok (.getfield 231, 3) := by decide +kernel
theorem dX6_read_23 : decode cX6_read 23 = .ok (.aload_n 0, 1) := by decide +kernel
theorem dX6_read_24 : decode cX6_read 24 = .ok (.getfield 228, 3) := by decide +kernel
theorem dX6_read_27 : decode cX6_read 27 = .ok (.if_icmp .ge 11, 3) := by decide +kernel
theorem dX6_read_30 : decode cX6_read 30 = .ok (.aload_n 0, 1) := by decide +kernel
theorem dX6_read_31 : decode cX6_read 31 = .ok (.invokevirtual 247, 3) := by decide +kernel
theorem dX6_read_34 : decode cX6_read 34 = .ok (.istore_n 1, 1) := by decide +kernel
theorem dX6_read_35 : decode cX6_read 35 = .ok (.goto (-20), 3) := by decide +kernel
theorem dX6_read_38 : decode cX6_read 38 = .ok (.aload_n 0, 1) := by decide +kernel
theorem dX6_read_39 : decode cX6_read 39 = .ok (.getfield 231, 3) := by decide +kernel
theorem dX6_read_42 : decode cX6_read 42 = .ok (.istore_n 2, 1) := by decide +kernel
theorem dX6_read_43 : decode cX6_read 43 = .ok (.aload_n 0, 1) := by decide +kernel
theorem dX6_read_44 : decode cX6_read 44 = .ok (.getfield 228, 3) := by decide +kernel
theorem dX6_read_47 : decode cX6_read 47 = .ok (.istore_n 3, 1) := by decide +kernel
theorem dX6_read_48 : decode cX6_read 48 = .ok (.aload_n 0, 1) := by decide +kernel
theorem dX6_read_49 : decode cX6_read 49 = .ok (.iconst 0, 1) := by decide +kernel
theorem dX6_read_50 : decode cX6_read 50 = .ok (.putfield 228, 3) := by decide +kernel
theorem dX6_read_53 : decode cX6_read 53 = .ok (.iload_n 1, 1) := by decide +kernel
theorem dX6_read_54 : decode cX6_read 54 = .ok (.ifCond .ne 14, 3) := by decide +kernel
theorem dX6_read_57 : decode cX6_read 57 = .ok (.aload_n 0, 1) := by decide +kernel
theorem dX6_read_58 : decode cX6_read 58 = .ok (.iload_n 2, 1) := by decide +kernel
theorem dX6_read_59 : decode cX6_read 59 = .ok (.putfield 25, 3) := by decide +kernel
theorem dX6_read_62 : decode cX6_read 62 = .ok (.aload_n 0, 1) := by decide +kernel
theorem dX6_read_63 : decode cX6_read 63 = .ok (.iconst 1, 1) := by decide +kernel
theorem dX6_read_64 : decode cX6_read 64 = .ok (.invokevirtual 107, 3) := by decide +kernel
theorem dX6_read_67 : decode cX6_read 67 = .ok (.ireturn, 1) := by decide +kernel
theorem dX6_read_68 : decode cX6_read 68 = .ok (.aload_n 0, 1) := by decide +kernel
theorem dX6_read_69 : decode cX6_read 69 = .ok (.invokevirtual 110, 3) := by decide +kernel
theorem dX6_read_72 : decode cX6_read 72 = .ok (.iconst 0, 1) := by decide +kernel
theorem dX6_read_73 : decode cX6_read 73 = .ok (.istore 4, 2) := by decide +kernel
theorem dX6_read_75 : decode cX6_read 75 = .ok (.iconst 0, 1) := by decide +kernel
theorem dX6_read_76 : decode cX6_read 76 = .ok (.istore 5, 2) := by decide +kernel
theorem dX6_read_78 : decode cX6_read 78 = .ok (.iload 5, 2) := by decide +kernel
theorem dX6_read_80 : decode cX6_read 80 = .ok (.iload_n 3, 1) := by decide +kernel
theorem dX6_read_81 : decode cX6_read 81 = .ok (.if_icmp .ge 24, 3) := by decide +kernel
theorem dX6_read_84 : decode cX6_read 84 = .ok (.aload_n 0, 1) := by decide +kernel
theorem dX6_read_85 : decode cX6_read 85 = .ok (.getfield 44, 3) := by decide +kernel
theorem dX6_read_88 : decode cX6_read 88 = .ok (.ifCond .ne 17, 3) := by decide +kernel
theorem dX6_read_91 : decode cX6_read 91 = .ok (.iinc 4 1, 3) := by decide +kernel
theorem dX6_read_94 : decode cX6_read 94 = .ok (.aload_n 0, 1) := by decide +kernel
theorem dX6_read_95 : decode cX6_read 95 = .ok (.iload 5, 2) := by decide +kernel
theorem dX6_read_97 : decode cX6_read 97 = .ok (.invokevirtual 250, 3) := by decide +kernel
theorem dX6_read_100 : decode cX6_read 100 = .ok (.istore 5, 2) := by decide +kernel
theorem dX6_read_102 : decode cX6_read 102 = .ok (.goto (-24), 3) := by decide +kernel
theorem dX6_read_105 : decode cX6_read 105 = .ok (.aload_n 0, 1) := by decide +kernel
theorem dX6_read_106 : decode cX6_read 106 = .ok (.getfield 44, 3) := by decide +kernel
theorem dX6_read_109 : decode cX6_read 109 = .ok (.ifCond .ne 10, 3) := by decide +kernel
theorem dX6_read_112 : decode cX6_read 112 = .ok (.aload_n 0, 1) := by decide +kernel
theorem dX6_read_113 : decode cX6_read 113 = .ok (.invokevirtual 116, 3) := by decide +kernel
theorem dX6_read_116 : decode cX6_read 116 = .ok (.iload 4, 2) := by decide +kernel
theorem dX6_read_118 : decode cX6_read 118 = .ok (.ireturn, 1) := by decide +kernel
theorem dX6_read_119 : decode cX6_read 119 = .ok (.iconst 0, 1) := by decide +kernel
theorem dX6_read_120 : decode cX6_read 120 = .ok (.istore 5, 2) := by decide +kernel
theorem dX6_read_122 : decode cX6_read 122 = .ok (.iload 5, 2) := by decide +kernel
theorem dX6_read_124 : decode cX6_read 124 = .ok (.sipush 376, 3) := by decide +kernel
theorem dX6_read_127 : decode cX6_read 127 = .ok (.if_icmp .ge 23, 3) := by decide +kernel
theorem dX6_read_130 : decode cX6_read 130 = .ok (.aload_n 0, 1) := by decide +kernel
theorem dX6_read_131 : decode cX6_read 131 = .ok (.getfield 9, 3) := by decide +kernel
theorem dX6_read_134 : decode cX6_read 134 = .ok (.iload 5, 2) := by decide +kernel
theorem dX6_read_136 : decode cX6_read 136 = .ok (.aload_n 0, 1) := by decide +kernel
theorem dX6_read_137 : decode cX6_read 137 = .ok (.getfield 16, 3) := by decide +kernel
theorem dX6_read_140 : decode cX6_read 140 = .ok (.iload 5, 2) := by decide +kernel
theorem dX6_read_142 : decode cX6_read 142 = .ok (.iaload, 1) := by decide +kernel
theorem dX6_read_143 : decode cX6_read 143 = .ok (.iastore, 1) := by decide +kernel
theorem dX6_read_144 : decode cX6_read 144 = .ok (.iinc 5 1, 3) := by decide +kernel
theorem dX6_read_147 : decode cX6_read 147 = .ok (.goto (-25), 3) := by decide +kernel
theorem dX6_read_150 : decode cX6_read 150 = .ok (.aload_n 0, 1) := by decide +kernel
theorem dX6_read_151 : decode cX6_read 151 = .ok (.iconst 2, 1) := by decide +kernel
theorem dX6_read_152 : decode cX6_read 152 = .ok (.invokevirtual 107, 3) := by decide +kernel
theorem dX6_read_155 : decode cX6_read 155 = .ok (.ireturn, 1) := by decide +kernel
theorem dX6_errorPosition_0 : decode cX6_errorPosition 0 = .ok (.aload_n 0, 1) := by decide +kernel
theorem dX6_errorPosition_1 : decode cX6_errorPosition 1 = .ok (.iconst 0, 1) := by decide +kernel
theorem dX6_errorPosition_2 : decode cX6_errorPosition 2 = .ok (.putfield 44, 3) := by decide +kernel
theorem dX6_errorPosition_5 : decode cX6_errorPosition 5 = .ok (.aload_n 0, 1) := by decide +kernel
theorem dX6_errorPosition_6 : decode cX6_errorPosition 6 = .ok (.getfield 25, 3) := by decide +kernel
theorem dX6_errorPosition_9 : decode cX6_errorPosition 9 = .ok (.iconst (-1), 1) := by decide +kernel
theorem dX6_errorPosition_10 : decode cX6_errorPosition 10 = .ok (.if_icmp .ne 11, 3) := by decide +kernel
theorem dX6_errorPosition_13 : decode cX6_errorPosition 13 = .ok (.aload_n 0, 1) := by decide +kernel
theorem dX6_errorPosition_14 : decode cX6_errorPosition 14 = .ok (.iconst 1, 1) := by decide +kernel
theorem dX6_errorPosition_15 : decode cX6_errorPosition 15 = .ok (.invokevirtual 107, 3) := by decide +kernel
theorem dX6_errorPosition_18 : decode cX6_errorPosition 18 = .ok (.goto 7, 3) := by decide +kernel
theorem dX6_errorPosition_21 : decode cX6_errorPosition 21 = .ok (.aload_n 0, 1) := by decide +kernel
theorem dX6_errorPosition_22 : decode cX6_errorPosition 22 = .ok (.getfield 25, 3) := by decide +kernel
theorem dX6_errorPosition_25 : decode cX6_errorPosition 25 = .ok (.ireturn, 1) := by decide +kernel
theorem dX6_describe_0 : decode cX6_describe 0 = .ok (.aload_n 0, 1) := by decide +kernel
theorem dX6_describe_1 : decode cX6_describe 1 = .ok (.iconst 0, 1) := by decide +kernel
theorem dX6_describe_2 : decode cX6_describe 2 = .ok (.putfield 44, 3) := by decide +kernel
theorem dX6_describe_5 : decode cX6_describe 5 = .ok (.aload_n 0, 1) := by decide +kernel
theorem dX6_describe_6 : decode cX6_describe 6 = .ok (.iload_n 1, 1) := by decide +kernel
theorem dX6_describe_7 : decode cX6_describe 7 = .ok (.invokevirtual 153, 3) := by decide +kernel
theorem dX6_describe_10 : decode cX6_describe 10 = .ok (.ifCond .ne 9, 3) := by decide +kernel
theorem dX6_describe_13 : decode cX6_describe 13 = .ok (.aload_n 0, 1) := by decide +kernel
theorem dX6_describe_14 : decode cX6_describe 14 = .ok (.iconst 1, 1) := by decide +kernel
theorem dX6_describe_15 : decode cX6_describe 15 = .ok (.invokevirtual 107, 3) := by decide +kernel
theorem dX6_describe_18 : decode cX6_describe 18 = .ok (.ireturn, 1) := by decide +kernel
theorem dX6_describe_19 : decode cX6_describe 19 = .ok (.iconst 0, 1) := by decide +kernel
theorem dX6_describe_20 : decode cX6_describe 20 = .ok (.istore_n 3, 1) := by decide +kernel
theorem dX6_describe_21 : decode cX6_describe 21 = .ok (.aload_n 0, 1) := by decide +kernel
theorem dX6_describe_22 : decode cX6_describe 22 = .ok (.getfield 38, 3) := by decide +kernel
theorem dX6_describe_25 : decode cX6_describe 25 = .ok (.iload_n 3, 1) := by decide +kernel
theorem dX6_describe_26 : decode cX6_describe 26 = .ok (.iinc 3 1, 3) := by decide +kernel
theorem dX6_describe_29 : decode cX6_describe 29 = .ok (.bipush 108, 2) := by decide +kernel
theorem dX6_describe_31 : decode cX6_describe 31 = .ok (.iastore, 1) := by decide +kernel
theorem dX6_describe_32 : decode cX6_describe 32 = .ok (.aload_n 0, 1) := by decide +kernel
theorem dX6_describe_33 : decode cX6_describe 33 = .ok (.iload_n 1, 1) := by decide +kernel
theorem dX6_describe_34 : decode cX6_describe 34 = .ok (.iconst 0, 1) := by decide +kernel
theorem dX6_describe_35 : decode cX6_describe 35 = .ok (.invokevirtual 78, 3) := by decide +kernel
theorem dX6_describe_38 : decode cX6_describe 38 = .ok (.istore 4, 2) := by decide +kernel
theorem dX6_describe_40 : decode cX6_describe 40 = .ok (.iload 4, 2) := by decide +kernel
theorem dX6_describe_42 : decode cX6_describe 42 = .ok (.bipush 9, 2) := by decide +kernel
theorem dX6_describe_44 : decode cX6_describe 44 = .ok (.if_icmp .le 20, 3) := by decide +kernel
theorem dX6_describe_47 : decode cX6_describe 47 = .ok (.aload_n 0, 1) := by decide +kernel
theorem dX6_describe_48 : decode cX6_describe 48 = .ok (.getfield 38, 3) := by decide +kernel
theorem dX6_describe_51 : decode cX6_describe 51 = .ok (.iload_n 3, 1) := by decide +kernel
theorem dX6_describe_52 : decode cX6_describe 52 = .ok (.iinc 3 1, 3) := by decide +kernel
theorem dX6_describe_55 : decode cX6_describe 55 = .ok (.bipush 48, 2) := by decide +kernel
theorem dX6_describe_57 : decode cX6_describe 57 = .ok (.iload 4, 2) := by decide +kernel
theorem dX6_describe_59 : decode cX6_describe 59 = .ok (.bipush 10, 2) := by decide +kernel
theorem dX6_describe_61 : decode cX6_describe 61 = .ok (.idiv, 1) := by decide +kernel
theorem dX6_describe_62 : decode cX6_describe 62 = .ok (.iadd, 1) := by decide +kernel
theorem dX6_describe_63 : decode cX6_describe 63 = .ok (.iastore, 1) := by decide +kernel
theorem dX6_describe_64 : decode cX6_describe 64 = .ok (.aload_n 0, 1) := by decide +kernel
theorem dX6_describe_65 : decode cX6_describe 65 = .ok (.getfield 38, 3) := by decide +kernel
theorem dX6_describe_68 : decode cX6_describe 68 = .ok (.iload_n 3, 1) := by decide +kernel
theorem dX6_describe_69 : decode cX6_describe 69 = .ok (.iinc 3 1, 3) := by decide +kernel
theorem dX6_describe_72 : decode cX6_describe 72 = .ok (.bipush 48, 2) := by decide +kernel
theorem dX6_describe_74 : decode cX6_describe 74 = .ok (.iload 4, 2) := by decide +kernel
theorem dX6_describe_76 : decode cX6_describe 76 = .ok (.bipush 10, 2) := by decide +kernel
theorem dX6_describe_78 : decode cX6_describe 78 = .ok (.irem, 1) := by decide +kernel
theorem dX6_describe_79 : decode cX6_describe 79 = .ok (.iadd, 1) := by decide +kernel
theorem dX6_describe_80 : decode cX6_describe 80 = .ok (.iastore, 1) := by decide +kernel
theorem dX6_describe_81 : decode cX6_describe 81 = .ok (.iconst 0, 1) := by decide +kernel
theorem dX6_describe_82 : decode cX6_describe 82 = .ok (.istore 5, 2) := by decide +kernel
theorem dX6_describe_84 : decode cX6_describe 84 = .ok (.iload 5, 2) := by decide +kernel
theorem dX6_describe_86 : decode cX6_describe 86 = .ok (.iconst 4, 1) := by decide +kernel
theorem dX6_describe_87 : decode cX6_describe 87 = .ok (.if_icmp .ge 46, 3) := by decide +kernel
theorem dX6_describe_90 : decode cX6_describe 90 = .ok (.aload_n 0, 1) := by decide +kernel
theorem dX6_describe_91 : decode cX6_describe 91 = .ok (.getfield 38, 3) := by decide +kernel
theorem dX6_describe_94 : decode cX6_describe 94 = .ok (.iload_n 3, 1) := by decide +kernel
theorem dX6_describe_95 : decode cX6_describe 95 = .ok (.iinc 3 1, 3) := by decide +kernel
theorem dX6_describe_98 : decode cX6_describe 98 = .ok (.ldc 253, 2) := by decide +kernel
theorem dX6_describe_100 : decode cX6_describe 100 = .ok (.iload 5, 2) := by decide +kernel
theorem dX6_describe_102 : decode cX6_describe 102 = .ok (.invokevirtual 255, 3) := by decide +kernel
theorem dX6_describe_105 : decode cX6_describe 105 = .ok (.iastore, 1) := by decide +kernel
theorem dX6_describe_106 : decode cX6_describe 106 = .ok (.aload_n 0, 1) := by decide +kernel
theorem dX6_describe_107 : decode cX6_describe 107 = .ok (.getfield 38, 3) := by decide +kernel
theorem dX6_describe_110 : decode cX6_describe 110 = .ok (.iload_n 3, 1) := by decide +kernel
theorem dX6_describe_111 : decode cX6_describe 111 = .ok (.iinc 3 1, 3) := by decide +kernel
theorem dX6_describe_114 : decode cX6_describe 114 = .ok (.bipush 48, 2) := by decide +kernel
theorem dX6_describe_116 : decode cX6_describe 116 = .ok (.aload_n 0, 1) := by decide +kernel
theorem dX6_describe_117 : decode cX6_describe 117 = .ok (.iload_n 1, 1) := by decide +kernel
theorem dX6_describe_118 : decode cX6_describe 118 = .ok (.iconst 1, 1) := by decide +kernel
theorem dX6_describe_119 : decode cX6_describe 119 = .ok (.iload 5, 2) := by decide +kernel
theorem dX6_describe_121 : decode cX6_describe 121 = .ok (.iadd, 1) := by decide +kernel
theorem dX6_describe_122 : decode cX6_describe 122 = .ok (.invokevirtual 78, 3) := by decide +kernel
theorem dX6_describe_125 : decode cX6_describe 125 = .ok (.iadd, 1) := by decide +kernel
theorem dX6_describe_126 : decode cX6_describe 126 = .ok (.iastore, 1) := by decide +kernel
theorem dX6_describe_127 : decode cX6_describe 127 = .ok (.iinc 5 1, 3) := by decide +kernel
theorem dX6_describe_130 : decode cX6_describe 130 = .ok (.goto (-46), 3) := by decide +kernel
theorem dX6_describe_133 : decode cX6_describe 133 = .ok (.aload_n 0, 1) := by decide +kernel
theorem dX6_describe_134 : decode cX6_describe 134 = .ok (.getfield 38, 3) := by decide +kernel
theorem dX6_describe_137 : decode cX6_describe 137 = .ok (.iload_n 3, 1) := by decide +kernel
theorem dX6_describe_138 : decode cX6_describe 138 = .ok (.iinc 3 1, 3) := by decide +kernel
theorem dX6_describe_141 : decode cX6_describe 141 = .ok (.bipush 59, 2) := by decide +kernel
theorem dX6_describe_143 : decode cX6_describe 143 = .ok (.iastore, 1) := by decide +kernel
theorem dX6_describe_144 : decode cX6_describe 144 = .ok (.iload_n 2, 1) := by decide +kernel
theorem dX6_describe_145 : decode cX6_describe 145 = .ok (.iconst (-1), 1) := by decide +kernel
theorem dX6_describe_146 : decode cX6_describe 146 = .ok (.if_icmp .ne 7, 3) := by decide +kernel
theorem dX6_describe_149 : decode cX6_describe 149 = .ok (.iload_n 3, 1) := by decide +kernel
theorem dX6_describe_150 : decode cX6_describe 150 = .ok (.goto 28, 3) := by decide +kernel
theorem dX6_describe_153 : decode cX6_describe 153 = .ok (.iload_n 2, 1) := by decide +kernel
theorem dX6_describe_154 : decode cX6_describe 154 = .ok (.iconst 0, 1) := by decide +kernel
theorem dX6_describe_155 : decode cX6_describe 155 = .ok (.iload_n 3, 1) := by decide +kernel
theorem dX6_describe_156 : decode cX6_describe 156 = .ok (.iconst 1, 1) := by decide +kernel
theorem dX6_describe_157 : decode cX6_describe 157 = .ok (.isub, 1) := by decide +kernel
theorem dX6_describe_158 : decode cX6_describe 158 = .ok (.invokestatic 58, 3) := by decide +kernel
theorem dX6_describe_161 : decode cX6_describe 161 = .ok (.ifCond .eq 12, 3) := by decide +kernel
theorem dX6_describe_164 : decode cX6_describe 164 = .ok (.aload_n 0, 1) := by decide +kernel
theorem dX6_describe_165 : decode cX6_describe 165 = .ok (.getfield 38, 3) := by decide +kernel
theorem dX6_describe_168 : decode cX6_describe 168 = .ok (.iload_n 2, 1) := by decide +kernel
theorem dX6_describe_169 : decode cX6_describe 169 = .ok (.iaload, 1) := by decide +kernel
theorem dX6_describe_170 : decode cX6_describe 170 = .ok (.goto 8, 3) := by decide +kernel
theorem dX6_describe_173 : decode cX6_describe 173 = .ok (.aload_n 0, 1) := by decide +kernel
theorem dX6_describe_174 : decode cX6_describe 174 = .ok (.iconst 2, 1) := by decide +kernel
theorem dX6_describe_175 : decode cX6_describe 175 = .ok (.invokevirtual 107, 3) := by decide +kernel
theorem dX6_describe_178 : decode cX6_describe 178 = .ok (.ireturn, 1) := by decide +kernel
theorem dX6_undo_0 : decode cX6_undo 0 = .ok (.aload_n 0, 1) := by decide +kernel
theorem dX6_undo_1 : decode cX6_undo 1 = .ok (.iconst 0, 1) := by decide +kernel
theorem dX6_undo_2 : decode cX6_undo 2 = .ok (.putfield 44, 3) := by decide +kernel
theorem dX6_undo_5 : decode cX6_undo 5 = .ok (.aload_n 0, 1) := by decide +kernel
theorem dX6_undo_6 : decode cX6_undo 6 = .ok (.getfield 65, 3) := by decide +kernel
theorem dX6_undo_9 : decode cX6_undo 9 = .ok (.ifCond .ne 9, 3) := by decide +kernel
theorem dX6_undo_12 : decode cX6_undo 12 = .ok (.aload_n 0, 1) := by decide +kernel
theorem dX6_undo_13 : decode cX6_undo 13 = .ok (.iconst 1, 1) := by decide +kernel
theorem dX6_undo_14 : decode cX6_undo 14 = .ok (.invokevirtual 107, 3) := by decide +kernel
theorem dX6_undo_17 : decode cX6_undo 17 = .ok (.ireturn, 1) := by decide +kernel
theorem dX6_undo_18 : decode cX6_undo 18 = .ok (.aload_n 0, 1) := by decide +kernel
theorem dX6_undo_19 : decode cX6_undo 19 = .ok (.dup, 1) := by decide +kernel
theorem dX6_undo_20 : decode cX6_undo 20 = .ok (.getfield 65, 3) := by decide +kernel
theorem dX6_undo_23 : decode cX6_undo 23 = .ok (.iconst 1, 1) := by decide +kernel
theorem dX6_undo_24 : decode cX6_undo 24 = .ok (.isub, 1) := by decide +kernel
theorem dX6_undo_25 : decode cX6_undo 25 = .ok (.putfield 65, 3) := by decide +kernel
theorem dX6_undo_28 : decode cX6_undo 28 = .ok (.iconst 0, 1) := by decide +kernel
theorem dX6_undo_29 : decode cX6_undo 29 = .ok (.istore_n 1, 1) := by decide +kernel
theorem dX6_undo_30 : decode cX6_undo 30 = .ok (.iload_n 1, 1) := by decide +kernel
theorem dX6_undo_31 : decode cX6_undo 31 = .ok (.sipush 376, 3) := by decide +kernel
theorem dX6_undo_34 : decode cX6_undo 34 = .ok (.if_icmp .ge 30, 3) := by decide +kernel
theorem dX6_undo_37 : decode cX6_undo 37 = .ok (.aload_n 0, 1) := by decide +kernel
theorem dX6_undo_38 : decode cX6_undo 38 = .ok (.getfield 9, 3) := by decide +kernel
theorem dX6_undo_41 : decode cX6_undo 41 = .ok (.iload_n 1, 1) := by decide +kernel
theorem dX6_undo_42 : decode cX6_undo 42 = .ok (.aload_n 0, 1) := by decide +kernel
theorem dX6_undo_43 : decode cX6_undo 43 = .ok (.getfield 19, 3) := by decide +kernel
theorem dX6_undo_46 : decode cX6_undo 46 = .ok (.sipush 376, 3) := by decide +kernel
theorem dX6_undo_49 : decode cX6_undo 49 = .ok (.aload_n 0, 1) := by decide +kernel
theorem dX6_undo_50 : decode cX6_undo 50 = .ok (.getfield 65, 3) := by decide +kernel
theorem dX6_undo_53 : decode cX6_undo 53 = .ok (.imul, 1) := by decide +kernel
theorem dX6_undo_54 : decode cX6_undo 54 = .ok (.iload_n 1, 1) := by decide +kernel
theorem dX6_undo_55 : decode cX6_undo 55 = .ok (.iadd, 1) := by decide +kernel
theorem dX6_undo_56 : decode cX6_undo 56 = .ok (.iaload, 1) := by decide +kernel
theorem dX6_undo_57 : decode cX6_undo 57 = .ok (.iastore, 1) := by decide +kernel
theorem dX6_undo_58 : decode cX6_undo 58 = .ok (.iinc 1 1, 3) := by decide +kernel
theorem dX6_undo_61 : decode cX6_undo 61 = .ok (.goto (-31), 3) := by decide +kernel
theorem dX6_undo_64 : decode cX6_undo 64 = .ok (.aload_n 0, 1) := by decide +kernel
theorem dX6_undo_65 : decode cX6_undo 65 = .ok (.getfield 65, 3) := by decide +kernel
theorem dX6_undo_68 : decode cX6_undo 68 = .ok (.ireturn, 1) := by decide +kernel
theorem dX6_save_0 : decode cX6_save 0 = .ok (.aload_n 0, 1) := by decide +kernel
theorem dX6_save_1 : decode cX6_save 1 = .ok (.iconst 0, 1) := by decide +kernel
theorem dX6_save_2 : decode cX6_save 2 = .ok (.putfield 44, 3) := by decide +kernel
theorem dX6_save_5 : decode cX6_save 5 = .ok (.aload_n 0, 1) := by decide +kernel
theorem dX6_save_6 : decode cX6_save 6 = .ok (.iconst 1, 1) := by decide +kernel
theorem dX6_save_7 : decode cX6_save 7 = .ok (.putfield 261, 3) := by decide +kernel
theorem dX6_save_10 : decode cX6_save 10 = .ok (.iconst 0, 1) := by decide +kernel
theorem dX6_save_11 : decode cX6_save 11 = .ok (.istore_n 1, 1) := by decide +kernel
theorem dX6_save_12 : decode cX6_save 12 = .ok (.iload_n 1, 1) := by decide +kernel
theorem dX6_save_13 : decode cX6_save 13 = .ok (.sipush 376, 3) := by decide +kernel
theorem dX6_save_16 : decode cX6_save 16 = .ok (.if_icmp .ge 21, 3) := by decide +kernel
theorem dX6_save_19 : decode cX6_save 19 = .ok (.aload_n 0, 1) := by decide +kernel
theorem dX6_save_20 : decode cX6_save 20 = .ok (.getfield 13, 3) := by decide +kernel
theorem dX6_save_23 : decode cX6_save 23 = .ok (.iload_n 1, 1) := by decide +kernel
theorem dX6_save_24 : decode cX6_save 24 = .ok (.aload_n 0, 1) := by decide +kernel
theorem dX6_save_25 : decode cX6_save 25 = .ok (.getfield 9, 3) := by decide +kernel
theorem dX6_save_28 : decode cX6_save 28 = .ok (.iload_n 1, 1) := by decide +kernel
theorem dX6_save_29 : decode cX6_save 29 = .ok (.iaload, 1) := by decide +kernel
theorem dX6_save_30 : decode cX6_save 30 = .ok (.iastore, 1) := by decide +kernel
theorem dX6_save_31 : decode cX6_save 31 = .ok (.iinc 1 1, 3) := by decide +kernel
theorem dX6_save_34 : decode cX6_save 34 = .ok (.goto (-22), 3) := by decide +kernel
theorem dX6_save_37 : decode cX6_save 37 = .ok (.aload_n 0, 1) := by decide +kernel
theorem dX6_save_38 : decode cX6_save 38 = .ok (.invokevirtual 54, 3) := by decide +kernel
theorem dX6_save_41 : decode cX6_save 41 = .ok (.ireturn, 1) := by decide +kernel
theorem dX6_restore_0 : decode cX6_restore 0 = .ok (.aload_n 0, 1) := by decide +kernel
theorem dX6_restore_1 : decode cX6_restore 1 = .ok (.iconst 0, 1) := by decide +kernel
theorem dX6_restore_2 : decode cX6_restore 2 = .ok (.putfield 44, 3) := by decide +kernel
theorem dX6_restore_5 : decode cX6_restore 5 = .ok (.aload_n 0, 1) := by decide +kernel
theorem dX6_restore_6 : decode cX6_restore 6 = .ok (.getfield 261, 3) := by decide +kernel
theorem dX6_restore_9 : decode cX6_restore 9 = .ok (.ifCond .ne 9, 3) := by decide +kernel
theorem dX6_restore_12 : decode cX6_restore 12 = .ok (.aload_n 0, 1) := by decide +kernel
theorem dX6_restore_13 : decode cX6_restore 13 = .ok (.iconst 1, 1) := by decide +kernel
theorem dX6_restore_14 : decode cX6_restore 14 = .ok (.invokevirtual 107, 3) := by decide +kernel
theorem dX6_restore_17 : decode cX6_restore 17 = .ok (.ireturn, 1) := by decide +kernel
theorem dX6_restore_18 : decode cX6_restore 18 = .ok (.iconst 0, 1) := by decide +kernel
theorem dX6_restore_19 : decode cX6_restore 19 = .ok (.istore_n 1, 1) := by decide +kernel
theorem dX6_restore_20 : decode cX6_restore 20 = .ok (.iload_n 1, 1) := by decide +kernel
theorem dX6_restore_21 : decode cX6_restore 21 = .ok (.sipush 376, 3) := by decide +kernel
theorem dX6_restore_24 : decode cX6_restore 24 = .ok (.if_icmp .ge 21, 3) := by decide +kernel
theorem dX6_restore_27 : decode cX6_restore 27 = .ok (.aload_n 0, 1) := by decide +kernel
theorem dX6_restore_28 : decode cX6_restore 28 = .ok (.getfield 9, 3) := by decide +kernel
theorem dX6_restore_31 : decode cX6_restore 31 = .ok (.iload_n 1, 1) := by decide +kernel
theorem dX6_restore_32 : decode cX6_restore 32 = .ok (.aload_n 0, 1) := by decide +kernel
theorem dX6_restore_33 : decode cX6_restore 33 = .ok (.getfield 13, 3) := by decide +kernel
theorem dX6_restore_36 : decode cX6_restore 36 = .ok (.iload_n 1, 1) := by decide +kernel
theorem dX6_restore_37 : decode cX6_restore 37 = .ok (.iaload, 1) := by decide +kernel
theorem dX6_restore_38 : decode cX6_restore 38 = .ok (.iastore, 1) := by decide +kernel
theorem dX6_restore_39 : decode cX6_restore 39 = .ok (.iinc 1 1, 3) := by decide +kernel
theorem dX6_restore_42 : decode cX6_restore 42 = .ok (.goto (-22), 3) := by decide +kernel
theorem dX6_restore_45 : decode cX6_restore 45 = .ok (.aload_n 0, 1) := by decide +kernel
theorem dX6_restore_46 : decode cX6_restore 46 = .ok (.iconst 0, 1) := by decide +kernel
theorem dX6_restore_47 : decode cX6_restore 47 = .ok (.putfield 65, 3) := by decide +kernel
theorem dX6_restore_50 : decode cX6_restore 50 = .ok (.aload_n 0, 1) := by decide +kernel
theorem dX6_restore_51 : decode cX6_restore 51 = .ok (.invokevirtual 54, 3) := by decide +kernel
theorem dX6_restore_54 : decode cX6_restore 54 = .ok (.ireturn, 1) := by decide +kernel
