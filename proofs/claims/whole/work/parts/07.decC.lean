theorem dX6_init_0 : decode cX6_init 0 = .ok (.aload_n 0, 1) := by decide +kernel
theorem dX6_init_1 : decode cX6_init 1 = .ok (.invokespecial 3, 3) := by decide +kernel
theorem dX6_init_4 : decode cX6_init 4 = .ok (.aload_n 0, 1) := by decide +kernel
theorem dX6_init_5 : decode cX6_init 5 = .ok (.sipush 376, 3) := by decide +kernel
theorem dX6_init_8 : decode cX6_init 8 = .ok (.newarray .int, 2) := by decide +kernel
theorem dX6_init_10 : decode cX6_init 10 = .ok (.putfield 9, 3) := by decide +kernel
theorem dX6_init_13 : decode cX6_init 13 = .ok (.aload_n 0, 1) := by decide +kernel
theorem dX6_init_14 : decode cX6_init 14 = .ok (.sipush 376, 3) := by decide +kernel
theorem dX6_init_17 : decode cX6_init 17 = .ok (.newarray .int, 2) := by decide +kernel
theorem dX6_init_19 : decode cX6_init 19 = .ok (.putfield 13, 3) := by decide +kernel
theorem dX6_init_22 : decode cX6_init 22 = .ok (.aload_n 0, 1) := by decide +kernel
theorem dX6_init_23 : decode cX6_init 23 = .ok (.sipush 376, 3) := by decide +kernel
theorem dX6_init_26 : decode cX6_init 26 = .ok (.newarray .int, 2) := by decide +kernel
theorem dX6_init_28 : decode cX6_init 28 = .ok (.putfield 16, 3) := by decide +kernel
theorem dX6_init_31 : decode cX6_init 31 = .ok (.aload_n 0, 1) := by decide +kernel
theorem dX6_init_32 : decode cX6_init 32 = .ok (.sipush 3008, 3) := by decide +kernel
theorem dX6_init_35 : decode cX6_init 35 = .ok (.newarray .int, 2) := by decide +kernel
theorem dX6_init_37 : decode cX6_init 37 = .ok (.putfield 19, 3) := by decide +kernel
theorem dX6_init_40 : decode cX6_init 40 = .ok (.aload_n 0, 1) := by decide +kernel
theorem dX6_init_41 : decode cX6_init 41 = .ok (.bipush 70, 2) := by decide +kernel
theorem dX6_init_43 : decode cX6_init 43 = .ok (.newarray .int, 2) := by decide +kernel
theorem dX6_init_45 : decode cX6_init 45 = .ok (.putfield 22, 3) := by decide +kernel
theorem dX6_init_48 : decode cX6_init 48 = .ok (.aload_n 0, 1) := by decide +kernel
theorem dX6_init_49 : decode cX6_init 49 = .ok (.iconst (-1), 1) := by decide +kernel
theorem dX6_init_50 : decode cX6_init 50 = .ok (.putfield 25, 3) := by decide +kernel
theorem dX6_init_53 : decode cX6_init 53 = .ok (.aload_n 0, 1) := by decide +kernel
theorem dX6_init_54 : decode cX6_init 54 = .ok (.bipush 40, 2) := by decide +kernel
theorem dX6_init_56 : decode cX6_init 56 = .ok (.newarray .int, 2) := by decide +kernel
theorem dX6_init_58 : decode cX6_init 58 = .ok (.putfield 29, 3) := by decide +kernel
theorem dX6_init_61 : decode cX6_init 61 = .ok (.aload_n 0, 1) := by decide +kernel
theorem dX6_init_62 : decode cX6_init 62 = .ok (.iconst 4, 1) := by decide +kernel
theorem dX6_init_63 : decode cX6_init 63 = .ok (.newarray .int, 2) := by decide +kernel
theorem dX6_init_65 : decode cX6_init 65 = .ok (.putfield 32, 3) := by decide +kernel
theorem dX6_init_68 : decode cX6_init 68 = .ok (.aload_n 0, 1) := by decide +kernel
theorem dX6_init_69 : decode cX6_init 69 = .ok (.iconst 4, 1) := by decide +kernel
theorem dX6_init_70 : decode cX6_init 70 = .ok (.newarray .int, 2) := by decide +kernel
theorem dX6_init_72 : decode cX6_init 72 = .ok (.putfield 35, 3) := by decide +kernel
theorem dX6_init_75 : decode cX6_init 75 = .ok (.aload_n 0, 1) := by decide +kernel
theorem dX6_init_76 : decode cX6_init 76 = .ok (.bipush 20, 2) := by decide +kernel
theorem dX6_init_78 : decode cX6_init 78 = .ok (.newarray .int, 2) := by decide +kernel
theorem dX6_init_80 : decode cX6_init 80 = .ok (.putfield 38, 3) := by decide +kernel
theorem dX6_init_83 : decode cX6_init 83 = .ok (.aload_n 0, 1) := by decide +kernel
theorem dX6_init_84 : decode cX6_init 84 = .ok (.invokevirtual 41, 3) := by decide +kernel
theorem dX6_init_87 : decode cX6_init 87 = .ok (.return_, 1) := by decide +kernel
theorem dX6_thrown_0 : decode cX6_thrown 0 = .ok (.aload_n 0, 1) := by decide +kernel
theorem dX6_thrown_1 : decode cX6_thrown 1 = .ok (.getfield 44, 3) := by decide +kernel
theorem dX6_thrown_4 : decode cX6_thrown 4 = .ok (.ireturn, 1) := by decide +kernel
theorem dX6_in_0 : decode cX6_in 0 = .ok (.iload_n 0, 1) := by decide +kernel
theorem dX6_in_1 : decode cX6_in 1 = .ok (.iload_n 1, 1) := by decide +kernel
theorem dX6_in_2 : decode cX6_in 2 = .ok (.if_icmp .lt 12, 3) := by decide +kernel
theorem dX6_in_5 : decode cX6_in 5 = .ok (.iload_n 0, 1) := by decide +kernel
theorem dX6_in_6 : decode cX6_in 6 = .ok (.iload_n 2, 1) := by decide +kernel
theorem dX6_in_7 : decode cX6_in 7 = .ok (.if_icmp .gt 7, 3) := by decide +kernel
theorem dX6_in_10 : decode cX6_in 10 = .ok (.iconst 1, 1) := by decide +kernel
theorem dX6_in_11 : decode cX6_in 11 = .ok (.goto 4, 3) := by decide +kernel
theorem dX6_in_14 : decode cX6_in 14 = .ok (.iconst 0, 1) := by decide +kernel
theorem dX6_in_15 : decode cX6_in 15 = .ok (.ireturn, 1) := by decide +kernel
theorem dX6_raises_0 : decode cX6_raises 0 = .ok (.aload_n 0, 1) := by decide +kernel
theorem dX6_raises_1 : decode cX6_raises 1 = .ok (.iload_n 1, 1) := by decide +kernel
theorem dX6_raises_2 : decode cX6_raises 2 = .ok (.putfield 44, 3) := by decide +kernel
theorem dX6_raises_5 : decode cX6_raises 5 = .ok (.iconst 0, 1) := by decide +kernel
theorem dX6_raises_6 : decode cX6_raises 6 = .ok (.ireturn, 1) := by decide +kernel
theorem dX6_empties_0 : decode cX6_empties 0 = .ok (.iconst 0, 1) := by decide +kernel
theorem dX6_empties_1 : decode cX6_empties 1 = .ok (.istore_n 1, 1) := by decide +kernel
theorem dX6_empties_2 : decode cX6_empties 2 = .ok (.iload_n 1, 1) := by decide +kernel
theorem dX6_empties_3 : decode cX6_empties 3 = .ok (.sipush 376, 3) := by decide +kernel
theorem dX6_empties_6 : decode cX6_empties 6 = .ok (.if_icmp .ge 16, 3) := by decide +kernel
theorem dX6_empties_9 : decode cX6_empties 9 = .ok (.aload_n 0, 1) := by decide +kernel
theorem dX6_empties_10 : decode cX6_empties 10 = .ok (.getfield 9, 3) := by decide +kernel
theorem dX6_empties_13 : decode cX6_empties 13 = .ok (.iload_n 1, 1) := by decide +kernel
theorem dX6_empties_14 : decode cX6_empties 14 = .ok (.iconst 0, 1) := by decide +kernel
theorem dX6_empties_15 : decode cX6_empties 15 = .ok (.iastore, 1) := by decide +kernel
theorem dX6_empties_16 : decode cX6_empties 16 = .ok (.iinc 1 1, 3) := by decide +kernel
theorem dX6_empties_19 : decode cX6_empties 19 = .ok (.goto (-17), 3) := by decide +kernel
theorem dX6_empties_22 : decode cX6_empties 22 = .ok (.iconst 0, 1) := by decide +kernel
theorem dX6_empties_23 : decode cX6_empties 23 = .ok (.istore_n 1, 1) := by decide +kernel
theorem dX6_empties_24 : decode cX6_empties 24 = .ok (.iload_n 1, 1) := by decide +kernel
theorem dX6_empties_25 : decode cX6_empties 25 = .ok (.bipush 6, 2) := by decide +kernel
theorem dX6_empties_27 : decode cX6_empties 27 = .ok (.if_icmp .ge 30, 3) := by decide +kernel
theorem dX6_empties_30 : decode cX6_empties 30 = .ok (.aload_n 0, 1) := by decide +kernel
theorem dX6_empties_31 : decode cX6_empties 31 = .ok (.getfield 9, 3) := by decide +kernel
theorem dX6_empties_34 : decode cX6_empties 34 = .ok (.iconst 4, 1) := by decide +kernel
theorem dX6_empties_35 : decode cX6_empties 35 = .ok (.iload_n 1, 1) := by decide +kernel
theorem dX6_empties_36 : decode cX6_empties 36 = .ok (.iadd, 1) := by decide +kernel
theorem dX6_empties_37 : decode cX6_empties 37 = .ok (.bipush 20, 2) := by decide +kernel
theorem dX6_empties_39 : decode cX6_empties 39 = .ok (.iastore, 1) := by decide +kernel
theorem dX6_empties_40 : decode cX6_empties 40 = .ok (.aload_n 0, 1) := by decide +kernel
theorem dX6_empties_41 : decode cX6_empties 41 = .ok (.getfield 9, 3) := by decide +kernel
theorem dX6_empties_44 : decode cX6_empties 44 = .ok (.bipush 10, 2) := by decide +kernel
theorem dX6_empties_46 : decode cX6_empties 46 = .ok (.iload_n 1, 1) := by decide +kernel
theorem dX6_empties_47 : decode cX6_empties 47 = .ok (.iadd, 1) := by decide +kernel
theorem dX6_empties_48 : decode cX6_empties 48 = .ok (.bipush 30, 2) := by decide +kernel
theorem dX6_empties_50 : decode cX6_empties 50 = .ok (.iastore, 1) := by decide +kernel
theorem dX6_empties_51 : decode cX6_empties 51 = .ok (.iinc 1 1, 3) := by decide +kernel
theorem dX6_empties_54 : decode cX6_empties 54 = .ok (.goto (-30), 3) := by decide +kernel
theorem dX6_empties_57 : decode cX6_empties 57 = .ok (.return_, 1) := by decide +kernel
theorem dX6_teacherAt_0 : decode cX6_teacherAt 0 = .ok (.bipush 16, 2) := by decide +kernel
theorem dX6_teacherAt_2 : decode cX6_teacherAt 2 = .ok (.iconst 5, 1) := by decide +kernel
theorem dX6_teacherAt_3 : decode cX6_teacherAt 3 = .ok (.iload_n 0, 1) := by decide +kernel
theorem dX6_teacherAt_4 : decode cX6_teacherAt 4 = .ok (.imul, 1) := by decide +kernel
theorem dX6_teacherAt_5 : decode cX6_teacherAt 5 = .ok (.iadd, 1) := by decide +kernel
theorem dX6_teacherAt_6 : decode cX6_teacherAt 6 = .ok (.ireturn, 1) := by decide +kernel
theorem dX6_lessonAt_0 : decode cX6_lessonAt 0 = .ok (.bipush 56, 2) := by decide +kernel
theorem dX6_lessonAt_2 : decode cX6_lessonAt 2 = .ok (.bipush 8, 2) := by decide +kernel
theorem dX6_lessonAt_4 : decode cX6_lessonAt 4 = .ok (.iload_n 0, 1) := by decide +kernel
theorem dX6_lessonAt_5 : decode cX6_lessonAt 5 = .ok (.imul, 1) := by decide +kernel
theorem dX6_lessonAt_6 : decode cX6_lessonAt 6 = .ok (.iadd, 1) := by decide +kernel
theorem dX6_lessonAt_7 : decode cX6_lessonAt 7 = .ok (.ireturn, 1) := by decide +kernel
theorem dX6_of_0 : decode cX6_of 0 = .ok (.aload_n 0, 1) := by decide +kernel
theorem dX6_of_1 : decode cX6_of 1 = .ok (.getfield 9, 3) := by decide +kernel
theorem dX6_of_4 : decode cX6_of 4 = .ok (.iload_n 1, 1) := by decide +kernel
theorem dX6_of_5 : decode cX6_of 5 = .ok (.invokestatic 47, 3) := by decide +kernel
theorem dX6_of_8 : decode cX6_of 8 = .ok (.iload_n 2, 1) := by decide +kernel
theorem dX6_of_9 : decode cX6_of 9 = .ok (.iadd, 1) := by decide +kernel
theorem dX6_of_10 : decode cX6_of 10 = .ok (.iaload, 1) := by decide +kernel
theorem dX6_of_11 : decode cX6_of 11 = .ok (.ireturn, 1) := by decide +kernel
theorem dX6_by_0 : decode cX6_by 0 = .ok (.aload_n 0, 1) := by decide +kernel
theorem dX6_by_1 : decode cX6_by 1 = .ok (.getfield 9, 3) := by decide +kernel
theorem dX6_by_4 : decode cX6_by 4 = .ok (.iload_n 1, 1) := by decide +kernel
theorem dX6_by_5 : decode cX6_by 5 = .ok (.invokestatic 51, 3) := by decide +kernel
theorem dX6_by_8 : decode cX6_by 8 = .ok (.iload_n 2, 1) := by decide +kernel
theorem dX6_by_9 : decode cX6_by 9 = .ok (.iadd, 1) := by decide +kernel
theorem dX6_by_10 : decode cX6_by 10 = .ok (.iaload, 1) := by decide +kernel
theorem dX6_by_11 : decode cX6_by 11 = .ok (.ireturn, 1) := by decide +kernel
theorem dX6_lessons_0 : decode cX6_lessons 0 = .ok (.aload_n 0, 1) := by decide +kernel
theorem dX6_lessons_1 : decode cX6_lessons 1 = .ok (.getfield 9, 3) := by decide +kernel
theorem dX6_lessons_4 : decode cX6_lessons 4 = .ok (.iconst 1, 1) := by decide +kernel
theorem dX6_lessons_5 : decode cX6_lessons 5 = .ok (.iaload, 1) := by decide +kernel
theorem dX6_lessons_6 : decode cX6_lessons 6 = .ok (.ireturn, 1) := by decide +kernel
theorem dX6_teachers_0 : decode cX6_teachers 0 = .ok (.aload_n 0, 1) := by decide +kernel
theorem dX6_teachers_1 : decode cX6_teachers 1 = .ok (.getfield 9, 3) := by decide +kernel
theorem dX6_teachers_4 : decode cX6_teachers 4 = .ok (.iconst 0, 1) := by decide +kernel
theorem dX6_teachers_5 : decode cX6_teachers 5 = .ok (.iaload, 1) := by decide +kernel
theorem dX6_teachers_6 : decode cX6_teachers 6 = .ok (.ireturn, 1) := by decide +kernel
theorem dX6_isLesson_0 : decode cX6_isLesson 0 = .ok (.iload_n 1, 1) := by decide +kernel
theorem dX6_isLesson_1 : decode cX6_isLesson 1 = .ok (.iconst 0, 1) := by decide +kernel
theorem dX6_isLesson_2 : decode cX6_isLesson 2 = .ok (.aload_n 0, 1) := by decide +kernel
theorem dX6_isLesson_3 : decode cX6_isLesson 3 = .ok (.invokevirtual 54, 3) := by decide +kernel
theorem dX6_isLesson_6 : decode cX6_isLesson 6 = .ok (.iconst 1, 1) := by decide +kernel
theorem dX6_isLesson_7 : decode cX6_isLesson 7 = .ok (.isub, 1) := by decide +kernel
theorem dX6_isLesson_8 : decode cX6_isLesson 8 = .ok (.invokestatic 58, 3) := by decide +kernel
theorem dX6_isLesson_11 : decode cX6_isLesson 11 = .ok (.ireturn, 1) := by decide +kernel
theorem dX6_isTeacher_0 : decode cX6_isTeacher 0 = .ok (.iload_n 1, 1) := by decide +kernel
theorem dX6_isTeacher_1 : decode cX6_isTeacher 1 = .ok (.iconst 0, 1) := by decide +kernel
theorem dX6_isTeacher_2 : decode cX6_isTeacher 2 = .ok (.aload_n 0, 1) := by decide +kernel
theorem dX6_isTeacher_3 : decode cX6_isTeacher 3 = .ok (.invokevirtual 62, 3) := by decide +kernel
theorem dX6_isTeacher_6 : decode cX6_isTeacher 6 = .ok (.iconst 1, 1) := by decide +kernel
theorem dX6_isTeacher_7 : decode cX6_isTeacher 7 = .ok (.isub, 1) := by decide +kernel
theorem dX6_isTeacher_8 : decode cX6_isTeacher 8 = .ok (.invokestatic 58, 3) := by decide +kernel
theorem dX6_isTeacher_11 : decode cX6_isTeacher 11 = .ok (.ireturn, 1) := by decide +kernel
theorem dX6_isSlot_0 : decode cX6_isSlot 0 = .ok (.iload_n 0, 1) := by decide +kernel
theorem dX6_isSlot_1 : decode cX6_isSlot 1 = .ok (.iconst 0, 1) := by decide +kernel
theorem dX6_isSlot_2 : decode cX6_isSlot 2 = .ok (.bipush 29, 2) := by decide +kernel
theorem dX6_isSlot_4 : decode cX6_isSlot 4 = .ok (.invokestatic 58, 3) := by decide +kernel
theorem dX6_isSlot_7 : decode cX6_isSlot 7 = .ok (.ireturn, 1) := by decide +kernel
theorem dX6_isSix_0 : decode cX6_isSix 0 = .ok (.iload_n 0, 1) := by decide +kernel
theorem dX6_isSix_1 : decode cX6_isSix 1 = .ok (.iconst 0, 1) := by decide +kernel
theorem dX6_isSix_2 : decode cX6_isSix 2 = .ok (.iconst 5, 1) := by decide +kernel
theorem dX6_isSix_3 : decode cX6_isSix 3 = .ok (.invokestatic 58, 3) := by decide +kernel
theorem dX6_isSix_6 : decode cX6_isSix 6 = .ok (.ireturn, 1) := by decide +kernel
theorem dX6_has_0 : decode cX6_has 0 = .ok (.iload_n 0, 1) := by decide +kernel
theorem dX6_has_1 : decode cX6_has 1 = .ok (.iload_n 1, 1) := by decide +kernel
theorem dX6_has_2 : decode cX6_has 2 = .ok (.ishr, 1) := by decide +kernel
theorem dX6_has_3 : decode cX6_has 3 = .ok (.iconst 1, 1) := by decide +kernel
theorem dX6_has_4 : decode cX6_has 4 = .ok (.iand, 1) := by decide +kernel
theorem dX6_has_5 : decode cX6_has 5 = .ok (.iconst 1, 1) := by decide +kernel
theorem dX6_has_6 : decode cX6_has 6 = .ok (.if_icmp .ne 7, 3) := by decide +kernel
theorem dX6_has_9 : decode cX6_has 9 = .ok (.iconst 1, 1) := by decide +kernel
theorem dX6_has_10 : decode cX6_has 10 = .ok (.goto 4, 3) := by decide +kernel
theorem dX6_has_13 : decode cX6_has 13 = .ok (.iconst 0, 1) := by decide +kernel
theorem dX6_has_14 : decode cX6_has 14 = .ok (.ireturn, 1) := by decide +kernel
theorem dX6_changes_0 : decode cX6_changes 0 = .ok (.aload_n 0, 1) := by decide +kernel
theorem dX6_changes_1 : decode cX6_changes 1 = .ok (.getfield 65, 3) := by decide +kernel
theorem dX6_changes_4 : decode cX6_changes 4 = .ok (.bipush 8, 2) := by decide +kernel
theorem dX6_changes_6 : decode cX6_changes 6 = .ok (.if_icmp .ne 44, 3) := by decide +kernel
theorem dX6_changes_9 : decode cX6_changes 9 = .ok (.iconst 0, 1) := by decide +kernel
theorem dX6_changes_10 : decode cX6_changes 10 = .ok (.istore_n 1, 1) := by decide +kernel
theorem dX6_changes_11 : decode cX6_changes 11 = .ok (.iload_n 1, 1) := by decide +kernel
theorem dX6_changes_12 : decode cX6_changes 12 = .ok (.sipush 2632, 3) := by decide +kernel
theorem dX6_changes_15 : decode cX6_changes 15 = .ok (.if_icmp .ge 25, 3) := by decide +kernel
theorem dX6_changes_18 : decode cX6_changes 18 = .ok (.aload_n 0, 1) := by decide +kernel
theorem dX6_changes_19 : decode cX6_changes 19 = .ok (.getfield 19, 3) := by decide +kernel
theorem dX6_changes_22 : decode cX6_changes 22 = .ok (.iload_n 1, 1) := by decide +kernel
theorem dX6_changes_23 : decode cX6_changes 23 = .ok (.aload_n 0, 1) := by decide +kernel
theorem dX6_changes_24 : decode cX6_changes 24 = .ok (.getfield 19, 3) := by decide +kernel
theorem dX6_changes_27 : decode cX6_changes 27 = .ok (.iload_n 1, 1) := by decide +kernel
theorem dX6_changes_28 : decode cX6_changes 28 = .ok (.sipush 376, 3) := by decide +kernel
theorem dX6_changes_31 : decode cX6_changes 31 = .ok (.iadd, 1) := by decide +kernel
theorem dX6_changes_32 : decode cX6_changes 32 = .ok (.iaload, 1) := by decide +kernel
theorem dX6_changes_33 : decode cX6_changes 33 = .ok (.iastore, 1) := by decide +kernel
theorem dX6_changes_34 : decode cX6_changes 34 = .ok (.iinc 1 1, 3) := by decide +kernel
theorem dX6_changes_37 : decode cX6_changes 37 = .ok (.goto (-26), 3) := by decide +kernel
theorem dX6_changes_40 : decode cX6_changes 40 = .ok (.aload_n 0, 1) := by decide +kernel
theorem dX6_changes_41 : decode cX6_changes 41 = .ok (.dup, 1) := by decide +kernel
theorem dX6_changes_42 : decode cX6_changes 42 = .ok (.getfield 65, 3) := by decide +kernel
theorem dX6_changes_45 : decode cX6_changes 45 = .ok (.iconst 1, 1) := by decide +kernel
theorem dX6_changes_46 : decode cX6_changes 46 = .ok (.isub, 1) := by decide +kernel
theorem dX6_changes_47 : decode cX6_changes 47 = .ok (.putfield 65, 3) := by decide +kernel
theorem dX6_changes_50 : decode cX6_changes 50 = .ok (.iconst 0, 1) := by decide +kernel
theorem dX6_changes_51 : decode cX6_changes 51 = .ok (.istore_n 1, 1) := by decide +kernel
theorem dX6_changes_52 : decode cX6_changes 52 = .ok (.iload_n 1, 1) := by decide +kernel
theorem dX6_changes_53 : decode cX6_changes 53 = .ok (.sipush 376, 3) := by decide +kernel
theorem dX6_changes_56 : decode cX6_changes 56 = .ok (.if_icmp .ge 30, 3) := by decide +kernel
theorem dX6_changes_59 : decode cX6_changes 59 = .ok (.aload_n 0, 1) := by decide +kernel
theorem dX6_changes_60 : decode cX6_changes 60 = .ok (.getfield 19, 3) := by decide +kernel
theorem dX6_changes_63 : decode cX6_changes 63 = .ok (.sipush 376, 3) := by decide +kernel
theorem dX6_changes_66 : decode cX6_changes 66 = .ok (.aload_n 0, 1) := by decide +kernel
theorem dX6_changes_67 : decode cX6_changes 67 = .ok (.getfield 65, 3) := by decide +kernel
theorem dX6_changes_70 : decode cX6_changes 70 = .ok (.imul, 1) := by decide +kernel
theorem dX6_changes_71 : decode cX6_changes 71 = .ok (.iload_n 1, 1) := by decide +kernel
theorem dX6_changes_72 : decode cX6_changes 72 = .ok (.iadd, 1) := by decide +kernel
theorem dX6_changes_73 : decode cX6_changes 73 = .ok (.aload_n 0, 1) := by decide +kernel
theorem dX6_changes_74 : decode cX6_changes 74 = .ok (.getfield 9, 3) := by decide +kernel
theorem dX6_changes_77 : decode cX6_changes 77 = .ok (.iload_n 1, 1) := by decide +kernel
theorem dX6_changes_78 : decode cX6_changes 78 = .ok (.iaload, 1) := by decide +kernel
theorem dX6_changes_79 : decode cX6_changes 79 = .ok (.iastore, 1) := by decide +kernel
theorem dX6_changes_80 : decode cX6_changes 80 = .ok (.iinc 1 1, 3) := by decide +kernel
theorem dX6_changes_83 : decode cX6_changes 83 = .ok (.goto (-31), 3) := by decide +kernel
theorem dX6_changes_86 : decode cX6_changes 86 = .ok (.aload_n 0, 1) := by decide +kernel
theorem dX6_changes_87 : decode cX6_changes 87 = .ok (.dup, 1) := by decide +kernel
theorem dX6_changes_88 : decode cX6_changes 88 = .ok (.getfield 65, 3) := by decide +kernel
theorem dX6_changes_91 : decode cX6_changes 91 = .ok (.iconst 1, 1) := by decide +kernel
theorem dX6_changes_92 : decode cX6_changes 92 = .ok (.iadd, 1) := by decide +kernel
theorem dX6_changes_93 : decode cX6_changes 93 = .ok (.putfield 65, 3) := by decide +kernel
theorem dX6_changes_96 : decode cX6_changes 96 = .ok (.return_, 1) := by decide +kernel
theorem dX6_sets_0 : decode cX6_sets 0 = .ok (.aload_n 0, 1) := by decide +kernel
theorem dX6_sets_1 : decode cX6_sets 1 = .ok (.invokevirtual 68, 3) := by decide +kernel
theorem dX6_sets_4 : decode cX6_sets 4 = .ok (.aload_n 0, 1) := by decide +kernel
theorem dX6_sets_5 : decode cX6_sets 5 = .ok (.getfield 9, 3) := by decide +kernel
theorem dX6_sets_8 : decode cX6_sets 8 = .ok (.iload_n 1, 1) := by decide +kernel
theorem dX6_sets_9 : decode cX6_sets 9 = .ok (.iaload, 1) := by decide +kernel
theorem dX6_sets_10 : decode cX6_sets 10 = .ok (.istore_n 3, 1) := by decide +kernel
theorem dX6_sets_11 : decode cX6_sets 11 = .ok (.aload_n 0, 1) := by decide +kernel
theorem dX6_sets_12 : decode cX6_sets 12 = .ok (.getfield 9, 3) := by decide +kernel
theorem dX6_sets_15 : decode cX6_sets 15 = .ok (.iload_n 1, 1) := by decide +kernel
theorem dX6_sets_16 : decode cX6_sets 16 = .ok (.iload_n 2, 1) := by decide +kernel
theorem dX6_sets_17 : decode cX6_sets 17 = .ok (.iastore, 1) := by decide +kernel
theorem dX6_sets_18 : decode cX6_sets 18 = .ok (.iload_n 3, 1) := by decide +kernel
theorem dX6_sets_19 : decode cX6_sets 19 = .ok (.ireturn, 1) := by decide +kernel
theorem dX6_isAway_0 : decode cX6_isAway 0 = .ok (.aload_n 0, 1) := by decide +kernel
theorem dX6_isAway_1 : decode cX6_isAway 1 = .ok (.iload_n 1, 1) := by decide +kernel
theorem dX6_isAway_2 : decode cX6_isAway 2 = .ok (.iconst 3, 1) := by decide +kernel
theorem dX6_isAway_3 : decode cX6_isAway 3 = .ok (.invokevirtual 70, 3) := by decide +kernel
theorem dX6_isAway_6 : decode cX6_isAway 6 = .ok (.iload_n 2, 1) := by decide +kernel
theorem dX6_isAway_7 : decode cX6_isAway 7 = .ok (.invokestatic 74, 3) := by decide +kernel
theorem dX6_isAway_10 : decode cX6_isAway 10 = .ok (.ireturn, 1) := by decide +kernel
theorem dX6_state_0 : decode cX6_state 0 = .ok (.aload_n 0, 1) := by decide +kernel
theorem dX6_state_1 : decode cX6_state 1 = .ok (.aload_n 0, 1) := by decide +kernel
theorem dX6_state_2 : decode cX6_state 2 = .ok (.iload_n 1, 1) := by decide +kernel
theorem dX6_state_3 : decode cX6_state 3 = .ok (.iconst 3, 1) := by decide +kernel
theorem dX6_state_4 : decode cX6_state 4 = .ok (.invokevirtual 78, 3) := by decide +kernel
theorem dX6_state_7 : decode cX6_state 7 = .ok (.aload_n 0, 1) := by decide +kernel
theorem dX6_state_8 : decode cX6_state 8 = .ok (.iload_n 1, 1) := by decide +kernel
theorem dX6_state_9 : decode cX6_state 9 = .ok (.iconst 0, 1) := by decide +kernel
theorem dX6_state_10 : decode cX6_state 10 = .ok (.invokevirtual 78, 3) := by decide +kernel
theorem dX6_state_13 : decode cX6_state 13 = .ok (.invokevirtual 81, 3) := by decide +kernel
theorem dX6_state_16 : decode cX6_state 16 = .ok (.ifCond .ne 5, 3) := by decide +kernel
theorem dX6_state_19 : decode cX6_state 19 = .ok (.iconst 0, 1) := by decide +kernel
theorem dX6_state_20 : decode cX6_state 20 = .ok (.ireturn, 1) := by decide +kernel
theorem dX6_state_21 : decode cX6_state 21 = .ok (.aload_n 0, 1) := by decide +kernel
theorem dX6_state_22 : decode cX6_state 22 = .ok (.iload_n 1, 1) := by decide +kernel
theorem dX6_state_23 : decode cX6_state 23 = .ok (.iconst 5, 1) := by decide +kernel
theorem dX6_state_24 : decode cX6_state 24 = .ok (.invokevirtual 78, 3) := by decide +kernel
theorem dX6_state_27 : decode cX6_state 27 = .ok (.iconst (-1), 1) := by decide +kernel
theorem dX6_state_28 : decode cX6_state 28 = .ok (.if_icmp .eq 7, 3) := by decide +kernel
theorem dX6_state_31 : decode cX6_state 31 = .ok (.iconst 1, 1) := by decide +kernel
theorem dX6_state_32 : decode cX6_state 32 = .ok (.goto 19, 3) := by decide +kernel
theorem dX6_state_35 : decode cX6_state 35 = .ok (.aload_n 0, 1) := by decide +kernel
theorem dX6_state_36 : decode cX6_state 36 = .ok (.iload_n 1, 1) := by decide +kernel
theorem dX6_state_37 : decode cX6_state 37 = .ok (.bipush 6, 2) := by decide +kernel
theorem dX6_state_39 : decode cX6_state 39 = .ok (.invokevirtual 78, 3) := by decide +kernel
theorem dX6_state_42 : decode cX6_state 42 = .ok (.iconst (-1), 1) := by decide +kernel
theorem dX6_state_43 : decode cX6_state 43 = .ok (.if_icmp .eq 7, 3) := by decide +kernel
theorem dX6_state_46 : decode cX6_state 46 = .ok (.iconst 2, 1) := by decide +kernel
theorem dX6_state_47 : decode cX6_state 47 = .ok (.goto 4, 3) := by decide +kernel
theorem dX6_state_50 : decode cX6_state 50 = .ok (.iconst 3, 1) := by decide +kernel
theorem dX6_state_51 : decode cX6_state 51 = .ok (.ireturn, 1) := by decide +kernel
theorem dX6_acting_0 : decode cX6_acting 0 = .ok (.aload_n 0, 1) := by decide +kernel
theorem dX6_acting_1 : decode cX6_acting 1 = .ok (.iload_n 1, 1) := by decide +kernel
theorem dX6_acting_2 : decode cX6_acting 2 = .ok (.invokevirtual 84, 3) := by decide +kernel
theorem dX6_acting_5 : decode cX6_acting 5 = .ok (.ifCond .ne 12, 3) := by decide +kernel
theorem dX6_acting_8 : decode cX6_acting 8 = .ok (.aload_n 0, 1) := by decide +kernel
theorem dX6_acting_9 : decode cX6_acting 9 = .ok (.iload_n 1, 1) := by decide +kernel
theorem dX6_acting_10 : decode cX6_acting 10 = .ok (.iconst 3, 1) := by decide +kernel
theorem dX6_acting_11 : decode cX6_acting 11 = .ok (.invokevirtual 78, 3) := by decide +kernel
theorem dX6_acting_14 : decode cX6_acting 14 = .ok (.goto 22, 3) := by decide +kernel
theorem dX6_acting_17 : decode cX6_acting 17 = .ok (.aload_n 0, 1) := by decide +kernel
theorem dX6_acting_18 : decode cX6_acting 18 = .ok (.iload_n 1, 1) := by decide +kernel
theorem dX6_acting_19 : decode cX6_acting 19 = .ok (.invokevirtual 84, 3) := by decide +kernel
theorem dX6_acting_22 : decode cX6_acting 22 = .ok (.iconst 1, 1) := by decide +kernel
theorem dX6_acting_23 : decode cX6_acting 23 = .ok (.if_icmp .ne 12, 3) := by decide +kernel
theorem dX6_acting_26 : decode cX6_acting 26 = .ok (.aload_n 0, 1) := by decide +kernel
theorem dX6_acting_27 : decode cX6_acting 27 = .ok (.iload_n 1, 1) := by decide +kernel
theorem dX6_acting_28 : decode cX6_acting 28 = .ok (.iconst 5, 1) := by decide +kernel
theorem dX6_acting_29 : decode cX6_acting 29 = .ok (.invokevirtual 78, 3) := by decide +kernel
theorem dX6_acting_32 : decode cX6_acting 32 = .ok (.goto 4, 3) := by decide +kernel
theorem dX6_acting_35 : decode cX6_acting 35 = .ok (.iconst (-1), 1) := by decide +kernel
theorem dX6_acting_36 : decode cX6_acting 36 = .ok (.ireturn, 1) := by decide +kernel
theorem dX6_load_0 : decode cX6_load 0 = .ok (.aload_n 0, 1) := by decide +kernel
theorem dX6_load_1 : decode cX6_load 1 = .ok (.getfield 9, 3) := by decide +kernel
theorem dX6_load_4 : decode cX6_load 4 = .ok (.iconst 4, 1) := by decide +kernel
theorem dX6_load_5 : decode cX6_load 5 = .ok (.aload_n 0, 1) := by decide +kernel
theorem dX6_load_6 : decode cX6_load 6 = .ok (.iload_n 1, 1) := by decide +kernel
theorem dX6_load_7 : decode cX6_load 7 = .ok (.iconst 1, 1) := by decide +kernel
theorem dX6_load_8 : decode cX6_load 8 = .ok (.invokevirtual 78, 3) := by decide +kernel
theorem dX6_load_11 : decode cX6_load 11 = .ok (.iadd, 1) := by decide +kernel
theorem dX6_load_12 : decode cX6_load 12 = .ok (.iaload, 1) := by decide +kernel
theorem dX6_load_13 : decode cX6_load 13 = .ok (.istore_n 2, 1) := by decide +kernel
theorem dX6_load_14 : decode cX6_load 14 = .ok (.iconst 0, 1) := by decide +kernel
theorem dX6_load_15 : decode cX6_load 15 = .ok (.istore_n 3, 1) := by decide +kernel
theorem dX6_load_16 : decode cX6_load 16 = .ok (.iload_n 3, 1) := by decide +kernel
theorem dX6_load_17 : decode cX6_load 17 = .ok (.aload_n 0, 1) := by decide +kernel
theorem dX6_load_18 : decode cX6_load 18 = .ok (.invokevirtual 54, 3) := by decide +kernel
theorem dX6_load_21 : decode cX6_load 21 = .ok (.if_icmp .ge 62, 3) := by decide +kernel
theorem dX6_load_24 : decode cX6_load 24 = .ok (.aload_n 0, 1) := by decide +kernel
theorem dX6_load_25 : decode cX6_load 25 = .ok (.getfield 9, 3) := by decide +kernel
theorem dX6_load_28 : decode cX6_load 28 = .ok (.iconst 4, 1) := by decide +kernel
theorem dX6_load_29 : decode cX6_load 29 = .ok (.aload_n 0, 1) := by decide +kernel
theorem dX6_load_30 : decode cX6_load 30 = .ok (.iload_n 3, 1) := by decide +kernel
theorem dX6_load_31 : decode cX6_load 31 = .ok (.iconst 1, 1) := by decide +kernel
theorem dX6_load_32 : decode cX6_load 32 = .ok (.invokevirtual 78, 3) := by decide +kernel
theorem dX6_load_35 : decode cX6_load 35 = .ok (.iadd, 1) := by decide +kernel
theorem dX6_load_36 : decode cX6_load 36 = .ok (.iaload, 1) := by decide +kernel
theorem dX6_load_37 : decode cX6_load 37 = .ok (.istore 4, 2) := by decide +kernel
theorem dX6_load_39 : decode cX6_load 39 = .ok (.aload_n 0, 1) := by decide +kernel
theorem dX6_load_40 : decode cX6_load 40 = .ok (.iload_n 3, 1) := by decide +kernel
theorem dX6_load_41 : decode cX6_load 41 = .ok (.bipush 6, 2) := by decide +kernel
theorem dX6_load_43 : decode cX6_load 43 = .ok (.invokevirtual 78, 3) := by decide +kernel
theorem dX6_load_46 : decode cX6_load 46 = .ok (.iload_n 1, 1) := by decide +kernel
theorem dX6_load_47 : decode cX6_load 47 = .ok (.if_icmp .ne 12, 3) := by decide +kernel
theorem dX6_load_50 : decode cX6_load 50 = .ok (.iload_n 2, 1) := by decide +kernel
theorem dX6_load_51 : decode cX6_load 51 = .ok (.iload 4, 2) := by decide +kernel
theorem dX6_load_53 : decode cX6_load 53 = .ok (.iconst 1, 1) := by decide +kernel
theorem dX6_load_54 : decode cX6_load 54 = .ok (.iadd, 1) := by decide +kernel
theorem dX6_load_55 : decode cX6_load 55 = .ok (.iconst 2, 1) := by decide +kernel
theorem dX6_load_56 : decode cX6_load 56 = .ok (.idiv, 1) := by decide +kernel
theorem dX6_load_57 : decode cX6_load 57 = .ok (.iadd, 1) := by decide +kernel
theorem dX6_load_58 : decode cX6_load 58 = .ok (.istore_n 2, 1) := by decide +kernel
theorem dX6_load_59 : decode cX6_load 59 = .ok (.aload_n 0, 1) := by decide +kernel
theorem dX6_load_60 : decode cX6_load 60 = .ok (.iload_n 3, 1) := by decide +kernel
theorem dX6_load_61 : decode cX6_load 61 = .ok (.bipush 7, 2) := by decide +kernel
theorem dX6_load_63 : decode cX6_load 63 = .ok (.invokevirtual 78, 3) := by decide +kernel
theorem dX6_load_66 : decode cX6_load 66 = .ok (.iload_n 1, 1) := by decide +kernel
theorem dX6_load_67 : decode cX6_load 67 = .ok (.if_icmp .ne 10, 3) := by decide +kernel
theorem dX6_load_70 : decode cX6_load 70 = .ok (.iload_n 2, 1) := by decide +kernel
theorem dX6_load_71 : decode cX6_load 71 = .ok (.iload 4, 2) := by decide +kernel
theorem dX6_load_73 : decode cX6_load 73 = .ok (.iconst 2, 1) := by decide +kernel
theorem dX6_load_74 : decode cX6_load 74 = .ok (.idiv, 1) := by decide +kernel
theorem dX6_load_75 : decode cX6_load 75 = .ok (.iadd, 1) := by decide +kernel
theorem dX6_load_76 : decode cX6_load 76 = .ok (.istore_n 2, 1) := by decide +kernel
theorem dX6_load_77 : decode cX6_load 77 = .ok (.iinc 3 1, 3) := by decide +kernel
theorem dX6_load_80 : decode cX6_load 80 = .ok (.goto (-64), 3) := by decide +kernel
theorem dX6_load_83 : decode cX6_load 83 = .ok (.iload_n 2, 1) := by decide +kernel
theorem dX6_load_84 : decode cX6_load 84 = .ok (.ireturn, 1) := by decide +kernel
theorem dX6_worth_0 : decode cX6_worth 0 = .ok (.aload_n 0, 1) := by decide +kernel
theorem dX6_worth_1 : decode cX6_worth 1 = .ok (.iload_n 1, 1) := by decide +kernel
theorem dX6_worth_2 : decode cX6_worth 2 = .ok (.iconst 0, 1) := by decide +kernel
theorem dX6_worth_3 : decode cX6_worth 3 = .ok (.invokevirtual 78, 3) := by decide +kernel
theorem dX6_worth_6 : decode cX6_worth 6 = .ok (.bipush 6, 2) := by decide +kernel
theorem dX6_worth_8 : decode cX6_worth 8 = .ok (.irem, 1) := by decide +kernel
theorem dX6_worth_9 : decode cX6_worth 9 = .ok (.istore_n 3, 1) := by decide +kernel
theorem dX6_worth_10 : decode cX6_worth 10 = .ok (.iload_n 3, 1) := by decide +kernel
theorem dX6_worth_11 : decode cX6_worth 11 = .ok (.iconst 3, 1) := by decide +kernel
theorem dX6_worth_12 : decode cX6_worth 12 = .ok (.if_icmp .ge 7, 3) := by decide +kernel
theorem dX6_worth_15 : decode cX6_worth 15 = .ok (.iconst 2, 1) := by decide +kernel
theorem dX6_worth_16 : decode cX6_worth 16 = .ok (.goto 13, 3) := by decide +kernel
theorem dX6_worth_19 : decode cX6_worth 19 = .ok (.iload_n 3, 1) := by decide +kernel
theorem dX6_worth_20 : decode cX6_worth 20 = .ok (.iconst 5, 1) := by decide +kernel
theorem dX6_worth_21 : decode cX6_worth 21 = .ok (.if_icmp .ge 7, 3) := by decide +kernel
theorem dX6_worth_24 : decode cX6_worth 24 = .ok (.iconst 3, 1) := by decide +kernel
theorem dX6_worth_25 : decode cX6_worth 25 = .ok (.goto 4, 3) := by decide +kernel
theorem dX6_worth_28 : decode cX6_worth 28 = .ok (.iconst 4, 1) := by decide +kernel
theorem dX6_worth_29 : decode cX6_worth 29 = .ok (.aload_n 0, 1) := by decide +kernel
theorem dX6_worth_30 : decode cX6_worth 30 = .ok (.iload_n 2, 1) := by decide +kernel
theorem dX6_worth_31 : decode cX6_worth 31 = .ok (.iconst 0, 1) := by decide +kernel
theorem dX6_worth_32 : decode cX6_worth 32 = .ok (.invokevirtual 70, 3) := by decide +kernel
theorem dX6_worth_35 : decode cX6_worth 35 = .ok (.aload_n 0, 1) := by decide +kernel
theorem dX6_worth_36 : decode cX6_worth 36 = .ok (.iload_n 1, 1) := by decide +kernel
theorem dX6_worth_37 : decode cX6_worth 37 = .ok (.iconst 2, 1) := by decide +kernel
theorem dX6_worth_38 : decode cX6_worth 38 = .ok (.invokevirtual 78, 3) := by decide +kernel
theorem dX6_worth_41 : decode cX6_worth 41 = .ok (.invokestatic 74, 3) := by decide +kernel
theorem dX6_worth_44 : decode cX6_worth 44 = .ok (.ifCond .eq 7, 3) := by decide +kernel
theorem dX6_worth_47 : decode cX6_worth 47 = .ok (.iconst 0, 1) := by decide +kernel
theorem dX6_worth_48 : decode cX6_worth 48 = .ok (.goto 4, 3) := by decide +kernel
theorem dX6_worth_51 : decode cX6_worth 51 = .ok (.iconst 2, 1) := by decide +kernel
theorem dX6_worth_52 : decode cX6_worth 52 = .ok (.iadd, 1) := by decide +kernel
theorem dX6_worth_53 : decode cX6_worth 53 = .ok (.ireturn, 1) := by decide +kernel
theorem dX6_gains_0 : decode cX6_gains 0 = .ok (.aload_n 0, 1) := by decide +kernel
theorem dX6_gains_1 : decode cX6_gains 1 = .ok (.getfield 9, 3) := by decide +kernel
theorem dX6_gains_4 : decode cX6_gains 4 = .ok (.iload_n 1, 1) := by decide +kernel
theorem dX6_gains_5 : decode cX6_gains 5 = .ok (.invokestatic 51, 3) := by decide +kernel
theorem dX6_gains_8 : decode cX6_gains 8 = .ok (.iconst 4, 1) := by decide +kernel
theorem dX6_gains_9 : decode cX6_gains 9 = .ok (.iadd, 1) := by decide +kernel
theorem dX6_gains_10 : decode cX6_gains 10 = .ok (.dup2, 1) := by decide +kernel
theorem dX6_gains_11 : decode cX6_gains 11 = .ok (.iaload, 1) := by decide +kernel
theorem dX6_gains_12 : decode cX6_gains 12 = .ok (.iload_n 2, 1) := by decide +kernel
theorem dX6_gains_13 : decode cX6_gains 13 = .ok (.iadd, 1) := by decide +kernel
theorem dX6_gains_14 : decode cX6_gains 14 = .ok (.iastore, 1) := by decide +kernel
theorem dX6_gains_15 : decode cX6_gains 15 = .ok (.return_, 1) := by decide +kernel
theorem dX6_endsSplit_0 : decode cX6_endsSplit 0 = .ok (.aload_n 0, 1) := by decide +kernel
theorem dX6_endsSplit_1 : decode cX6_endsSplit 1 = .ok (.aload_n 0, 1) := by decide +kernel
theorem dX6_endsSplit_2 : decode cX6_endsSplit 2 = .ok (.aload_n 0, 1) := by decide +kernel
theorem dX6_endsSplit_3 : decode cX6_endsSplit 3 = .ok (.iload_n 1, 1) := by decide +kernel
theorem dX6_endsSplit_4 : decode cX6_endsSplit 4 = .ok (.bipush 6, 2) := by decide +kernel
theorem dX6_endsSplit_6 : decode cX6_endsSplit 6 = .ok (.invokevirtual 78, 3) := by decide +kernel
theorem dX6_endsSplit_9 : decode cX6_endsSplit 9 = .ok (.invokevirtual 87, 3) := by decide +kernel
theorem dX6_endsSplit_12 : decode cX6_endsSplit 12 = .ok (.iconst (-1), 1) := by decide +kernel
theorem dX6_endsSplit_13 : decode cX6_endsSplit 13 = .ok (.invokevirtual 90, 3) := by decide +kernel
theorem dX6_endsSplit_16 : decode cX6_endsSplit 16 = .ok (.aload_n 0, 1) := by decide +kernel
theorem dX6_endsSplit_17 : decode cX6_endsSplit 17 = .ok (.aload_n 0, 1) := by decide +kernel
theorem dX6_endsSplit_18 : decode cX6_endsSplit 18 = .ok (.aload_n 0, 1) := by decide +kernel
theorem dX6_endsSplit_19 : decode cX6_endsSplit 19 = .ok (.iload_n 1, 1) := by decide +kernel
theorem dX6_endsSplit_20 : decode cX6_endsSplit 20 = .ok (.bipush 7, 2) := by decide +kernel
theorem dX6_endsSplit_22 : decode cX6_endsSplit 22 = .ok (.invokevirtual 78, 3) := by decide +kernel
theorem dX6_endsSplit_25 : decode cX6_endsSplit 25 = .ok (.invokevirtual 87, 3) := by decide +kernel
theorem dX6_endsSplit_28 : decode cX6_endsSplit 28 = .ok (.iconst (-1), 1) := by decide +kernel
theorem dX6_endsSplit_29 : decode cX6_endsSplit 29 = .ok (.invokevirtual 90, 3) := by decide +kernel
theorem dX6_endsSplit_32 : decode cX6_endsSplit 32 = .ok (.aload_n 0, 1) := by decide +kernel
theorem dX6_endsSplit_33 : decode cX6_endsSplit 33 = .ok (.getfield 9, 3) := by decide +kernel
theorem dX6_endsSplit_36 : decode cX6_endsSplit 36 = .ok (.iload_n 1, 1) := by decide +kernel
theorem dX6_endsSplit_37 : decode cX6_endsSplit 37 = .ok (.invokestatic 47, 3) := by decide +kernel
theorem dX6_endsSplit_40 : decode cX6_endsSplit 40 = .ok (.bipush 6, 2) := by decide +kernel
theorem dX6_endsSplit_42 : decode cX6_endsSplit 42 = .ok (.iadd, 1) := by decide +kernel
theorem dX6_endsSplit_43 : decode cX6_endsSplit 43 = .ok (.iconst (-1), 1) := by decide +kernel
theorem dX6_endsSplit_44 : decode cX6_endsSplit 44 = .ok (.iastore, 1) := by decide +kernel
theorem dX6_endsSplit_45 : decode cX6_endsSplit 45 = .ok (.aload_n 0, 1) := by decide +kernel
theorem dX6_endsSplit_46 : decode cX6_endsSplit 46 = .ok (.getfield 9, 3) := by decide +kernel
theorem dX6_endsSplit_49 : decode cX6_endsSplit 49 = .ok (.iload_n 1, 1) := by decide +kernel
theorem dX6_endsSplit_50 : decode cX6_endsSplit 50 = .ok (.invokestatic 47, 3) := by decide +kernel
theorem dX6_endsSplit_53 : decode cX6_endsSplit 53 = .ok (.bipush 7, 2) := by decide +kernel
theorem dX6_endsSplit_55 : decode cX6_endsSplit 55 = .ok (.iadd, 1) := by decide +kernel
theorem dX6_endsSplit_56 : decode cX6_endsSplit 56 = .ok (.iconst (-1), 1) := by decide +kernel
theorem dX6_endsSplit_57 : decode cX6_endsSplit 57 = .ok (.iastore, 1) := by decide +kernel
theorem dX6_endsSplit_58 : decode cX6_endsSplit 58 = .ok (.return_, 1) := by decide +kernel
theorem dX6_endsHosted_0 : decode cX6_endsHosted 0 = .ok (.iconst 0, 1) := by decide +kernel
theorem dX6_endsHosted_1 : decode cX6_endsHosted 1 = .ok (.istore_n 2, 1) := by decide +kernel
theorem dX6_endsHosted_2 : decode cX6_endsHosted 2 = .ok (.iconst 0, 1) := by decide +kernel
theorem dX6_endsHosted_3 : decode cX6_endsHosted 3 = .ok (.istore_n 3, 1) := by decide +kernel
theorem dX6_endsHosted_4 : decode cX6_endsHosted 4 = .ok (.iload_n 3, 1) := by decide +kernel
theorem dX6_endsHosted_5 : decode cX6_endsHosted 5 = .ok (.aload_n 0, 1) := by decide +kernel
theorem dX6_endsHosted_6 : decode cX6_endsHosted 6 = .ok (.invokevirtual 54, 3) := by decide +kernel
theorem dX6_endsHosted_9 : decode cX6_endsHosted 9 = .ok (.if_icmp .ge 42, 3) := by decide +kernel
theorem dX6_endsHosted_12 : decode cX6_endsHosted 12 = .ok (.aload_n 0, 1) := by decide +kernel
theorem dX6_endsHosted_13 : decode cX6_endsHosted 13 = .ok (.iload_n 3, 1) := by decide +kernel
theorem dX6_endsHosted_14 : decode cX6_endsHosted 14 = .ok (.bipush 6, 2) := by decide +kernel
theorem dX6_endsHosted_16 : decode cX6_endsHosted 16 = .ok (.invokevirtual 78, 3) := by decide +kernel
theorem dX6_endsHosted_19 : decode cX6_endsHosted 19 = .ok (.iload_n 1, 1) := by decide +kernel
theorem dX6_endsHosted_20 : decode cX6_endsHosted 20 = .ok (.if_icmp .eq 17, 3) := by decide +kernel
theorem dX6_endsHosted_23 : decode cX6_endsHosted 23 = .ok (.aload_n 0, 1) := by decide +kernel
theorem dX6_endsHosted_24 : decode cX6_endsHosted 24 = .ok (.iload_n 3, 1) := by decide +kernel
theorem dX6_endsHosted_25 : decode cX6_endsHosted 25 = .ok (.bipush 7, 2) := by decide +kernel
theorem dX6_endsHosted_27 : decode cX6_endsHosted 27 = .ok (.invokevirtual 78, 3) := by decide +kernel
theorem dX6_endsHosted_30 : decode cX6_endsHosted 30 = .ok (.iload_n 1, 1) := by decide +kernel
theorem dX6_endsHosted_31 : decode cX6_endsHosted 31 = .ok (.if_icmp .eq 6, 3) := by decide +kernel
theorem dX6_endsHosted_34 : decode cX6_endsHosted 34 = .ok (.goto 11, 3) := by decide +kernel
theorem dX6_endsHosted_37 : decode cX6_endsHosted 37 = .ok (.aload_n 0, 1) := by decide +kernel
theorem dX6_endsHosted_38 : decode cX6_endsHosted 38 = .ok (.iload_n 3, 1) := by decide +kernel
theorem dX6_endsHosted_39 : decode cX6_endsHosted 39 = .ok (.invokevirtual 94, 3) := by decide +kernel
theorem dX6_endsHosted_42 : decode cX6_endsHosted 42 = .ok (.iinc 2 1, 3) := by decide +kernel
theorem dX6_endsHosted_45 : decode cX6_endsHosted 45 = .ok (.iinc 3 1, 3) := by decide +kernel
theorem dX6_endsHosted_48 : decode cX6_endsHosted 48 = .ok (.goto (-44), 3) := by decide +kernel
theorem dX6_endsHosted_51 : decode cX6_endsHosted 51 = .ok (.aload_n 0, 1) := by decide +kernel
theorem dX6_endsHosted_52 : decode cX6_endsHosted 52 = .ok (.getfield 9, 3) := by decide +kernel
theorem dX6_endsHosted_55 : decode cX6_endsHosted 55 = .ok (.iconst 3, 1) := by decide +kernel
theorem dX6_endsHosted_56 : decode cX6_endsHosted 56 = .ok (.dup2, 1) := by decide +kernel
theorem dX6_endsHosted_57 : decode cX6_endsHosted 57 = .ok (.iaload, 1) := by decide +kernel
theorem dX6_endsHosted_58 : decode cX6_endsHosted 58 = .ok (.iload_n 2, 1) := by decide +kernel
theorem dX6_endsHosted_59 : decode cX6_endsHosted 59 = .ok (.iadd, 1) := by decide +kernel
theorem dX6_endsHosted_60 : decode cX6_endsHosted 60 = .ok (.iastore, 1) := by decide +kernel
theorem dX6_endsHosted_61 : decode cX6_endsHosted 61 = .ok (.iload_n 2, 1) := by decide +kernel
theorem dX6_endsHosted_62 : decode cX6_endsHosted 62 = .ok (.ireturn, 1) := by decide +kernel
theorem dX6_endsCover_0 : decode cX6_endsCover 0 = .ok (.aload_n 0, 1) := by decide +kernel
theorem dX6_endsCover_1 : decode cX6_endsCover 1 = .ok (.iload_n 1, 1) := by decide +kernel
theorem dX6_endsCover_2 : decode cX6_endsCover 2 = .ok (.invokevirtual 98, 3) := by decide +kernel
theorem dX6_endsCover_5 : decode cX6_endsCover 5 = .ok (.istore_n 2, 1) := by decide +kernel
theorem dX6_endsCover_6 : decode cX6_endsCover 6 = .ok (.aload_n 0, 1) := by decide +kernel
theorem dX6_endsCover_7 : decode cX6_endsCover 7 = .ok (.aload_n 0, 1) := by decide +kernel
theorem dX6_endsCover_8 : decode cX6_endsCover 8 = .ok (.iload_n 1, 1) := by decide +kernel
theorem dX6_endsCover_9 : decode cX6_endsCover 9 = .ok (.iconst 5, 1) := by decide +kernel
theorem dX6_endsCover_10 : decode cX6_endsCover 10 = .ok (.invokevirtual 78, 3) := by decide +kernel
theorem dX6_endsCover_13 : decode cX6_endsCover 13 = .ok (.aload_n 0, 1) := by decide +kernel
theorem dX6_endsCover_14 : decode cX6_endsCover 14 = .ok (.iload_n 1, 1) := by decide +kernel
theorem dX6_endsCover_15 : decode cX6_endsCover 15 = .ok (.aload_n 0, 1) := by decide +kernel
theorem dX6_endsCover_16 : decode cX6_endsCover 16 = .ok (.iload_n 1, 1) := by decide +kernel
theorem dX6_endsCover_17 : decode cX6_endsCover 17 = .ok (.iconst 5, 1) := by decide +kernel
theorem dX6_endsCover_18 : decode cX6_endsCover 18 = .ok (.invokevirtual 78, 3) := by decide +kernel
theorem dX6_endsCover_21 : decode cX6_endsCover 21 = .ok (.invokevirtual 101, 3) := by decide +kernel
theorem dX6_endsCover_24 : decode cX6_endsCover 24 = .ok (.ineg, 1) := by decide +kernel
theorem dX6_endsCover_25 : decode cX6_endsCover 25 = .ok (.invokevirtual 90, 3) := by decide +kernel
theorem dX6_endsCover_28 : decode cX6_endsCover 28 = .ok (.aload_n 0, 1) := by decide +kernel
theorem dX6_endsCover_29 : decode cX6_endsCover 29 = .ok (.getfield 9, 3) := by decide +kernel
theorem dX6_endsCover_32 : decode cX6_endsCover 32 = .ok (.iload_n 1, 1) := by decide +kernel
theorem dX6_endsCover_33 : decode cX6_endsCover 33 = .ok (.invokestatic 47, 3) := by decide +kernel
theorem dX6_endsCover_36 : decode cX6_endsCover 36 = .ok (.iconst 5, 1) := by decide +kernel
theorem dX6_endsCover_37 : decode cX6_endsCover 37 = .ok (.iadd, 1) := by decide +kernel
theorem dX6_endsCover_38 : decode cX6_endsCover 38 = .ok (.iconst (-1), 1) := by decide +kernel
theorem dX6_endsCover_39 : decode cX6_endsCover 39 = .ok (.iastore, 1) := by decide +kernel
theorem dX6_endsCover_40 : decode cX6_endsCover 40 = .ok (.iload_n 2, 1) := by decide +kernel
theorem dX6_endsCover_41 : decode cX6_endsCover 41 = .ok (.ireturn, 1) := by decide +kernel
theorem dX6_endsAll_0 : decode cX6_endsAll 0 = .ok (.iconst 0, 1) := by decide +kernel
theorem dX6_endsAll_1 : decode cX6_endsAll 1 = .ok (.istore_n 2, 1) := by decide +kernel
theorem dX6_endsAll_2 : decode cX6_endsAll 2 = .ok (.aload_n 0, 1) := by decide +kernel
theorem dX6_endsAll_3 : decode cX6_endsAll 3 = .ok (.iload_n 1, 1) := by decide +kernel
theorem dX6_endsAll_4 : decode cX6_endsAll 4 = .ok (.iconst 5, 1) := by decide +kernel
theorem dX6_endsAll_5 : decode cX6_endsAll 5 = .ok (.invokevirtual 78, 3) := by decide +kernel
theorem dX6_endsAll_8 : decode cX6_endsAll 8 = .ok (.iconst (-1), 1) := by decide +kernel
theorem dX6_endsAll_9 : decode cX6_endsAll 9 = .ok (.if_icmp .eq 24, 3) := by decide +kernel
theorem dX6_endsAll_12 : decode cX6_endsAll 12 = .ok (.iconst 1, 1) := by decide +kernel
theorem dX6_endsAll_13 : decode cX6_endsAll 13 = .ok (.aload_n 0, 1) := by decide +kernel
theorem dX6_endsAll_14 : decode cX6_endsAll 14 = .ok (.iload_n 1, 1) := by decide +kernel
theorem dX6_endsAll_15 : decode cX6_endsAll 15 = .ok (.invokevirtual 104, 3) := by decide +kernel
theorem dX6_endsAll_18 : decode cX6_endsAll 18 = .ok (.iadd, 1) := by decide +kernel
theorem dX6_endsAll_19 : decode cX6_endsAll 19 = .ok (.istore_n 2, 1) := by decide +kernel
theorem dX6_endsAll_20 : decode cX6_endsAll 20 = .ok (.aload_n 0, 1) := by decide +kernel
theorem dX6_endsAll_21 : decode cX6_endsAll 21 = .ok (.getfield 9, 3) := by decide +kernel
theorem dX6_endsAll_24 : decode cX6_endsAll 24 = .ok (.iconst 2, 1) := by decide +kernel
theorem dX6_endsAll_25 : decode cX6_endsAll 25 = .ok (.dup2, 1) := by decide +kernel
theorem dX6_endsAll_26 : decode cX6_endsAll 26 = .ok (.iaload, 1) := by decide +kernel
theorem dX6_endsAll_27 : decode cX6_endsAll 27 = .ok (.iconst 1, 1) := by decide +kernel
theorem dX6_endsAll_28 : decode cX6_endsAll 28 = .ok (.iadd, 1) := by decide +kernel
theorem dX6_endsAll_29 : decode cX6_endsAll 29 = .ok (.iastore, 1) := by decide +kernel
theorem dX6_endsAll_30 : decode cX6_endsAll 30 = .ok (.goto 31, 3) := by decide +kernel
theorem dX6_endsAll_33 : decode cX6_endsAll 33 = .ok (.aload_n 0, 1) := by decide +kernel
theorem dX6_endsAll_34 : decode cX6_endsAll 34 = .ok (.iload_n 1, 1) := by decide +kernel
theorem dX6_endsAll_35 : decode cX6_endsAll 35 = .ok (.bipush 6, 2) := by decide +kernel
theorem dX6_endsAll_37 : decode cX6_endsAll 37 = .ok (.invokevirtual 78, 3) := by decide +kernel
theorem dX6_endsAll_40 : decode cX6_endsAll 40 = .ok (.iconst (-1), 1) := by decide +kernel
theorem dX6_endsAll_41 : decode cX6_endsAll 41 = .ok (.if_icmp .eq 20, 3) := by decide +kernel
theorem dX6_endsAll_44 : decode cX6_endsAll 44 = .ok (.aload_n 0, 1) := by decide +kernel
theorem dX6_endsAll_45 : decode cX6_endsAll 45 = .ok (.iload_n 1, 1) := by decide +kernel
theorem dX6_endsAll_46 : decode cX6_endsAll 46 = .ok (.invokevirtual 94, 3) := by decide +kernel
theorem dX6_endsAll_49 : decode cX6_endsAll 49 = .ok (.aload_n 0, 1) := by decide +kernel
theorem dX6_endsAll_50 : decode cX6_endsAll 50 = .ok (.getfield 9, 3) := by decide +kernel
theorem dX6_endsAll_53 : decode cX6_endsAll 53 = .ok (.iconst 3, 1) := by decide +kernel
theorem dX6_endsAll_54 : decode cX6_endsAll 54 = .ok (.dup2, 1) := by decide +kernel
theorem dX6_endsAll_55 : decode cX6_endsAll 55 = .ok (.iaload, 1) := by decide +kernel
theorem dX6_endsAll_56 : decode cX6_endsAll 56 = .ok (.iconst 1, 1) := by decide +kernel
theorem dX6_endsAll_57 : decode cX6_endsAll 57 = .ok (.iadd, 1) := by decide +kernel
theorem dX6_endsAll_58 : decode cX6_endsAll 58 = .ok (.iastore, 1) := by decide +kernel
theorem dX6_endsAll_59 : decode cX6_endsAll 59 = .ok (.iconst 1, 1) := by decide +kernel
theorem dX6_endsAll_60 : decode cX6_endsAll 60 = .ok (.istore_n 2, 1) := by decide +kernel
theorem dX6_endsAll_61 : decode cX6_endsAll 61 = .ok (.iload_n 2, 1) := by decide +kernel
theorem dX6_endsAll_62 : decode cX6_endsAll 62 = .ok (.ireturn, 1) := by decide +kernel
theorem dX6_clear_0 : decode cX6_clear 0 = .ok (.aload_n 0, 1) := by decide +kernel
theorem dX6_clear_1 : decode cX6_clear 1 = .ok (.iconst 0, 1) := by decide +kernel
theorem dX6_clear_2 : decode cX6_clear 2 = .ok (.putfield 44, 3) := by decide +kernel
theorem dX6_clear_5 : decode cX6_clear 5 = .ok (.aload_n 0, 1) := by decide +kernel
theorem dX6_clear_6 : decode cX6_clear 6 = .ok (.invokevirtual 54, 3) := by decide +kernel
theorem dX6_clear_9 : decode cX6_clear 9 = .ok (.istore_n 1, 1) := by decide +kernel
theorem dX6_clear_10 : decode cX6_clear 10 = .ok (.aload_n 0, 1) := by decide +kernel
theorem dX6_clear_11 : decode cX6_clear 11 = .ok (.invokevirtual 41, 3) := by decide +kernel
theorem dX6_clear_14 : decode cX6_clear 14 = .ok (.aload_n 0, 1) := by decide +kernel
theorem dX6_clear_15 : decode cX6_clear 15 = .ok (.iconst 0, 1) := by decide +kernel
theorem dX6_clear_16 : decode cX6_clear 16 = .ok (.putfield 65, 3) := by decide +kernel
theorem dX6_clear_19 : decode cX6_clear 19 = .ok (.iload_n 1, 1) := by decide +kernel
theorem dX6_clear_20 : decode cX6_clear 20 = .ok (.ireturn, 1) := by decide +kernel
theorem dX6_newTeacher_0 : decode cX6_newTeacher 0 = .ok (.iload_n 1, 1) := by decide +kernel
theorem dX6_newTeacher_1 : decode cX6_newTeacher 1 = .ok (.iconst 1, 1) := by decide +kernel
theorem dX6_newTeacher_2 : decode cX6_newTeacher 2 = .ok (.bipush 63, 2) := by decide +kernel
theorem dX6_newTeacher_4 : decode cX6_newTeacher 4 = .ok (.invokestatic 58, 3) := by decide +kernel
theorem dX6_newTeacher_7 : decode cX6_newTeacher 7 = .ok (.ifCond .eq 12, 3) := by decide +kernel
theorem dX6_newTeacher_10 : decode cX6_newTeacher 10 = .ok (.iload_n 2, 1) := by decide +kernel
theorem dX6_newTeacher_11 : decode cX6_newTeacher 11 = .ok (.iconst 1, 1) := by decide +kernel
theorem dX6_newTeacher_12 : decode cX6_newTeacher 12 = .ok (.iconst 4, 1) := by decide +kernel
theorem dX6_newTeacher_13 : decode cX6_newTeacher 13 = .ok (.invokestatic 58, 3) := by decide +kernel
theorem dX6_newTeacher_16 : decode cX6_newTeacher 16 = .ok (.ifCond .ne 9, 3) := by decide +kernel
theorem dX6_newTeacher_19 : decode cX6_newTeacher 19 = .ok (.aload_n 0, 1) := by decide +kernel
theorem dX6_newTeacher_20 : decode cX6_newTeacher 20 = .ok (.iconst 1, 1) := by decide +kernel
theorem dX6_newTeacher_21 : decode cX6_newTeacher 21 = .ok (.invokevirtual 107, 3) := by decide +kernel
theorem dX6_newTeacher_24 : decode cX6_newTeacher 24 = .ok (.ireturn, 1) := by decide +kernel
theorem dX6_newTeacher_25 : decode cX6_newTeacher 25 = .ok (.aload_n 0, 1) := by decide +kernel
theorem dX6_newTeacher_26 : decode cX6_newTeacher 26 = .ok (.invokevirtual 62, 3) := by decide +kernel
theorem dX6_newTeacher_29 : decode cX6_newTeacher 29 = .ok (.bipush 8, 2) := by decide +kernel
theorem dX6_newTeacher_31 : decode cX6_newTeacher 31 = .ok (.if_icmp .ne 9, 3) := by decide +kernel
theorem dX6_newTeacher_34 : decode cX6_newTeacher 34 = .ok (.aload_n 0, 1) := by decide +kernel
theorem dX6_newTeacher_35 : decode cX6_newTeacher 35 = .ok (.iconst 2, 1) := by decide +kernel
theorem dX6_newTeacher_36 : decode cX6_newTeacher 36 = .ok (.invokevirtual 107, 3) := by decide +kernel
theorem dX6_newTeacher_39 : decode cX6_newTeacher 39 = .ok (.ireturn, 1) := by decide +kernel
theorem dX6_newTeacher_40 : decode cX6_newTeacher 40 = .ok (.aload_n 0, 1) := by decide +kernel
theorem dX6_newTeacher_41 : decode cX6_newTeacher 41 = .ok (.invokevirtual 62, 3) := by decide +kernel
theorem dX6_newTeacher_44 : decode cX6_newTeacher 44 = .ok (.invokestatic 51, 3) := by decide +kernel
theorem dX6_newTeacher_47 : decode cX6_newTeacher 47 = .ok (.istore_n 3, 1) := by decide +kernel
theorem dX6_newTeacher_48 : decode cX6_newTeacher 48 = .ok (.aload_n 0, 1) := by decide +kernel
theorem dX6_newTeacher_49 : decode cX6_newTeacher 49 = .ok (.getfield 9, 3) := by decide +kernel
theorem dX6_newTeacher_52 : decode cX6_newTeacher 52 = .ok (.iload_n 3, 1) := by decide +kernel
theorem dX6_newTeacher_53 : decode cX6_newTeacher 53 = .ok (.iload_n 1, 1) := by decide +kernel
theorem dX6_newTeacher_54 : decode cX6_newTeacher 54 = .ok (.iastore, 1) := by decide +kernel
theorem dX6_newTeacher_55 : decode cX6_newTeacher 55 = .ok (.aload_n 0, 1) := by decide +kernel
theorem dX6_newTeacher_56 : decode cX6_newTeacher 56 = .ok (.getfield 9, 3) := by decide +kernel
theorem dX6_newTeacher_59 : decode cX6_newTeacher 59 = .ok (.iload_n 3, 1) := by decide +kernel
theorem dX6_newTeacher_60 : decode cX6_newTeacher 60 = .ok (.iconst 1, 1) := by decide +kernel
theorem dX6_newTeacher_61 : decode cX6_newTeacher 61 = .ok (.iadd, 1) := by decide +kernel
theorem dX6_newTeacher_62 : decode cX6_newTeacher 62 = .ok (.iload_n 2, 1) := by decide +kernel
theorem dX6_newTeacher_63 : decode cX6_newTeacher 63 = .ok (.iastore, 1) := by decide +kernel
theorem dX6_newTeacher_64 : decode cX6_newTeacher 64 = .ok (.aload_n 0, 1) := by decide +kernel
theorem dX6_newTeacher_65 : decode cX6_newTeacher 65 = .ok (.getfield 9, 3) := by decide +kernel
theorem dX6_newTeacher_68 : decode cX6_newTeacher 68 = .ok (.iload_n 3, 1) := by decide +kernel
theorem dX6_newTeacher_69 : decode cX6_newTeacher 69 = .ok (.iconst 2, 1) := by decide +kernel
theorem dX6_newTeacher_70 : decode cX6_newTeacher 70 = .ok (.iadd, 1) := by decide +kernel
theorem dX6_newTeacher_71 : decode cX6_newTeacher 71 = .ok (.iconst 2, 1) := by decide +kernel
theorem dX6_newTeacher_72 : decode cX6_newTeacher 72 = .ok (.iastore, 1) := by decide +kernel
theorem dX6_newTeacher_73 : decode cX6_newTeacher 73 = .ok (.aload_n 0, 1) := by decide +kernel
theorem dX6_newTeacher_74 : decode cX6_newTeacher 74 = .ok (.getfield 9, 3) := by decide +kernel
theorem dX6_newTeacher_77 : decode cX6_newTeacher 77 = .ok (.iload_n 3, 1) := by decide +kernel
theorem dX6_newTeacher_78 : decode cX6_newTeacher 78 = .ok (.iconst 3, 1) := by decide +kernel
theorem dX6_newTeacher_79 : decode cX6_newTeacher 79 = .ok (.iadd, 1) := by decide +kernel
theorem dX6_newTeacher_80 : decode cX6_newTeacher 80 = .ok (.iconst 0, 1) := by decide +kernel
theorem dX6_newTeacher_81 : decode cX6_newTeacher 81 = .ok (.iastore, 1) := by decide +kernel
theorem dX6_newTeacher_82 : decode cX6_newTeacher 82 = .ok (.aload_n 0, 1) := by decide +kernel
theorem dX6_newTeacher_83 : decode cX6_newTeacher 83 = .ok (.getfield 9, 3) := by decide +kernel
theorem dX6_newTeacher_86 : decode cX6_newTeacher 86 = .ok (.iload_n 3, 1) := by decide +kernel
theorem dX6_newTeacher_87 : decode cX6_newTeacher 87 = .ok (.iconst 4, 1) := by decide +kernel
theorem dX6_newTeacher_88 : decode cX6_newTeacher 88 = .ok (.iadd, 1) := by decide +kernel
theorem dX6_newTeacher_89 : decode cX6_newTeacher 89 = .ok (.iconst 0, 1) := by decide +kernel
theorem dX6_newTeacher_90 : decode cX6_newTeacher 90 = .ok (.iastore, 1) := by decide +kernel
theorem dX6_newTeacher_91 : decode cX6_newTeacher 91 = .ok (.aload_n 0, 1) := by decide +kernel
theorem dX6_newTeacher_92 : decode cX6_newTeacher 92 = .ok (.getfield 9, 3) := by decide +kernel
theorem dX6_newTeacher_95 : decode cX6_newTeacher 95 = .ok (.iconst 0, 1) := by decide +kernel
theorem dX6_newTeacher_96 : decode cX6_newTeacher 96 = .ok (.dup2, 1) := by decide +kernel
theorem dX6_newTeacher_97 : decode cX6_newTeacher 97 = .ok (.iaload, 1) := by decide +kernel
theorem dX6_newTeacher_98 : decode cX6_newTeacher 98 = .ok (.dup_x2, 1) := by decide +kernel
theorem dX6_newTeacher_99 : decode cX6_newTeacher 99 = .ok (.iconst 1, 1) := by decide +kernel
theorem dX6_newTeacher_100 : decode cX6_newTeacher 100 = .ok (.iadd, 1) := by decide +kernel
theorem dX6_newTeacher_101 : decode cX6_newTeacher 101 = .ok (.iastore, 1) := by decide +kernel
theorem dX6_newTeacher_102 : decode cX6_newTeacher 102 = .ok (.ireturn, 1) := by decide +kernel
theorem dX6_keepsAhead_0 : decode cX6_keepsAhead 0 = .ok (.iconst 0, 1) := by decide +kernel
theorem dX6_keepsAhead_1 : decode cX6_keepsAhead 1 = .ok (.istore_n 1, 1) := by decide +kernel
theorem dX6_keepsAhead_2 : decode cX6_keepsAhead 2 = .ok (.iload_n 1, 1) := by decide +kernel
theorem dX6_keepsAhead_3 : decode cX6_keepsAhead 3 = .ok (.sipush 376, 3) := by decide +kernel
theorem dX6_keepsAhead_6 : decode cX6_keepsAhead 6 = .ok (.if_icmp .ge 21, 3) := by decide +kernel
theorem dX6_keepsAhead_9 : decode cX6_keepsAhead 9 = .ok (.aload_n 0, 1) := by decide +kernel
theorem dX6_keepsAhead_10 : decode cX6_keepsAhead 10 = .ok (.getfield 16, 3) := by decide +kernel
theorem dX6_keepsAhead_13 : decode cX6_keepsAhead 13 = .ok (.iload_n 1, 1) := by decide +kernel
theorem dX6_keepsAhead_14 : decode cX6_keepsAhead 14 = .ok (.aload_n 0, 1) := by decide +kernel
theorem dX6_keepsAhead_15 : decode cX6_keepsAhead 15 = .ok (.getfield 9, 3) := by decide +kernel
theorem dX6_keepsAhead_18 : decode cX6_keepsAhead 18 = .ok (.iload_n 1, 1) := by decide +kernel
theorem dX6_keepsAhead_19 : decode cX6_keepsAhead 19 = .ok (.iaload, 1) := by decide +kernel
theorem dX6_keepsAhead_20 : decode cX6_keepsAhead 20 = .ok (.iastore, 1) := by decide +kernel
theorem dX6_keepsAhead_21 : decode cX6_keepsAhead 21 = .ok (.iinc 1 1, 3) := by decide +kernel
theorem dX6_keepsAhead_24 : decode cX6_keepsAhead 24 = .ok (.goto (-22), 3) := by decide +kernel
theorem dX6_keepsAhead_27 : decode cX6_keepsAhead 27 = .ok (.return_, 1) := by decide +kernel
theorem dX6_keepsBehind_0 : decode cX6_keepsBehind 0 = .ok (.iconst 0, 1) := by decide +kernel
theorem dX6_keepsBehind_1 : decode cX6_keepsBehind 1 = .ok (.istore_n 1, 1) := by decide +kernel
theorem dX6_keepsBehind_2 : decode cX6_keepsBehind 2 = .ok (.iload_n 1, 1) := by decide +kernel
theorem dX6_keepsBehind_3 : decode cX6_keepsBehind 3 = .ok (.sipush 376, 3) := by decide +kernel
theorem dX6_keepsBehind_6 : decode cX6_keepsBehind 6 = .ok (.if_icmp .ge 35, 3) := by decide +kernel
theorem dX6_keepsBehind_9 : decode cX6_keepsBehind 9 = .ok (.aload_n 0, 1) := by decide +kernel
theorem dX6_keepsBehind_10 : decode cX6_keepsBehind 10 = .ok (.getfield 9, 3) := by decide +kernel
theorem dX6_keepsBehind_13 : decode cX6_keepsBehind 13 = .ok (.iload_n 1, 1) := by decide +kernel
theorem dX6_keepsBehind_14 : decode cX6_keepsBehind 14 = .ok (.iaload, 1) := by decide +kernel
theorem dX6_keepsBehind_15 : decode cX6_keepsBehind 15 = .ok (.istore_n 2, 1) := by decide +kernel
theorem dX6_keepsBehind_16 : decode cX6_keepsBehind 16 = .ok (.aload_n 0, 1) := by decide +kernel
theorem dX6_keepsBehind_17 : decode cX6_keepsBehind 17 = .ok (.getfield 9, 3) := by decide +kernel
theorem dX6_keepsBehind_20 : decode cX6_keepsBehind 20 = .ok (.iload_n 1, 1) := by decide +kernel
theorem dX6_keepsBehind_21 : decode cX6_keepsBehind 21 = .ok (.aload_n 0, 1) := by decide +kernel
theorem dX6_keepsBehind_22 : decode cX6_keepsBehind 22 = .ok (.getfield 16, 3) := by decide +kernel
theorem dX6_keepsBehind_25 : decode cX6_keepsBehind 25 = .ok (.iload_n 1, 1) := by decide +kernel
theorem dX6_keepsBehind_26 : decode cX6_keepsBehind 26 = .ok (.iaload, 1) := by decide +kernel
theorem dX6_keepsBehind_27 : decode cX6_keepsBehind 27 = .ok (.iastore, 1) := by decide +kernel
theorem dX6_keepsBehind_28 : decode cX6_keepsBehind 28 = .ok (.aload_n 0, 1) := by decide +kernel
theorem dX6_keepsBehind_29 : decode cX6_keepsBehind 29 = .ok (.getfield 16, 3) := by decide +kernel
theorem dX6_keepsBehind_32 : decode cX6_keepsBehind 32 = .ok (.iload_n 1, 1) := by decide +kernel
theorem dX6_keepsBehind_33 : decode cX6_keepsBehind 33 = .ok (.iload_n 2, 1) := by decide +kernel
theorem dX6_keepsBehind_34 : decode cX6_keepsBehind 34 = .ok (.iastore, 1) := by decide +kernel
theorem dX6_keepsBehind_35 : decode cX6_keepsBehind 35 = .ok (.iinc 1 1, 3) := by decide +kernel
theorem dX6_keepsBehind_38 : decode cX6_keepsBehind 38 = .ok (.goto (-36), 3) := by decide +kernel
theorem dX6_keepsBehind_41 : decode cX6_keepsBehind 41 = .ok (.aload_n 0, 1) := by decide +kernel
theorem dX6_keepsBehind_42 : decode cX6_keepsBehind 42 = .ok (.invokevirtual 68, 3) := by decide +kernel
theorem dX6_keepsBehind_45 : decode cX6_keepsBehind 45 = .ok (.iconst 0, 1) := by decide +kernel
theorem dX6_keepsBehind_46 : decode cX6_keepsBehind 46 = .ok (.istore_n 1, 1) := by decide +kernel
theorem dX6_keepsBehind_47 : decode cX6_keepsBehind 47 = .ok (.iload_n 1, 1) := by decide +kernel
theorem dX6_keepsBehind_48 : decode cX6_keepsBehind 48 = .ok (.sipush 376, 3) := by decide +kernel
theorem dX6_keepsBehind_51 : decode cX6_keepsBehind 51 = .ok (.if_icmp .ge 21, 3) := by decide +kernel
theorem dX6_keepsBehind_54 : decode cX6_keepsBehind 54 = .ok (.aload_n 0, 1) := by decide +kernel
theorem dX6_keepsBehind_55 : decode cX6_keepsBehind 55 = .ok (.getfield 9, 3) := by decide +kernel
theorem dX6_keepsBehind_58 : decode cX6_keepsBehind 58 = .ok (.iload_n 1, 1) := by decide +kernel
theorem dX6_keepsBehind_59 : decode cX6_keepsBehind 59 = .ok (.aload_n 0, 1) := by decide +kernel
theorem dX6_keepsBehind_60 : decode cX6_keepsBehind 60 = .ok (.getfield 16, 3) := by decide +kernel
theorem dX6_keepsBehind_63 : decode cX6_keepsBehind 63 = .ok (.iload_n 1, 1) := by decide +kernel
theorem dX6_keepsBehind_64 : decode cX6_keepsBehind 64 = .ok (.iaload, 1) := by decide +kernel
theorem dX6_keepsBehind_65 : decode cX6_keepsBehind 65 = .ok (.iastore, 1) := by decide +kernel
theorem dX6_keepsBehind_66 : decode cX6_keepsBehind 66 = .ok (.iinc 1 1, 3) := by decide +kernel
theorem dX6_keepsBehind_69 : decode cX6_keepsBehind 69 = .ok (.goto (-22), 3) := by decide +kernel
theorem dX6_keepsBehind_72 : decode cX6_keepsBehind 72 = .ok (.return_, 1) := by decide +kernel
theorem dX6_addTeacher_0 : decode cX6_addTeacher 0 = .ok (.aload_n 0, 1) := by decide +kernel
theorem dX6_addTeacher_1 : decode cX6_addTeacher 1 = .ok (.iconst 0, 1) := by decide +kernel
theorem dX6_addTeacher_2 : decode cX6_addTeacher 2 = .ok (.putfield 44, 3) := by decide +kernel
theorem dX6_addTeacher_5 : decode cX6_addTeacher 5 = .ok (.aload_n 0, 1) := by decide +kernel
theorem dX6_addTeacher_6 : decode cX6_addTeacher 6 = .ok (.invokevirtual 110, 3) := by decide +kernel
theorem dX6_addTeacher_9 : decode cX6_addTeacher 9 = .ok (.aload_n 0, 1) := by decide +kernel
theorem dX6_addTeacher_10 : decode cX6_addTeacher 10 = .ok (.iload_n 1, 1) := by decide +kernel
theorem dX6_addTeacher_11 : decode cX6_addTeacher 11 = .ok (.iload_n 2, 1) := by decide +kernel
theorem dX6_addTeacher_12 : decode cX6_addTeacher 12 = .ok (.invokevirtual 113, 3) := by decide +kernel
theorem dX6_addTeacher_15 : decode cX6_addTeacher 15 = .ok (.istore_n 3, 1) := by decide +kernel
theorem dX6_addTeacher_16 : decode cX6_addTeacher 16 = .ok (.aload_n 0, 1) := by decide +kernel
theorem dX6_addTeacher_17 : decode cX6_addTeacher 17 = .ok (.getfield 44, 3) := by decide +kernel
theorem dX6_addTeacher_20 : decode cX6_addTeacher 20 = .ok (.ifCond .ne 7, 3) := by decide +kernel
theorem dX6_addTeacher_23 : decode cX6_addTeacher 23 = .ok (.aload_n 0, 1) := by decide +kernel
theorem dX6_addTeacher_24 : decode cX6_addTeacher 24 = .ok (.invokevirtual 116, 3) := by decide +kernel
theorem dX6_addTeacher_27 : decode cX6_addTeacher 27 = .ok (.iload_n 3, 1) := by decide +kernel
theorem dX6_addTeacher_28 : decode cX6_addTeacher 28 = .ok (.ireturn, 1) := by decide +kernel
theorem dX6_setLimit_0 : decode cX6_setLimit 0 = .ok (.aload_n 0, 1) := by decide +kernel
theorem dX6_setLimit_1 : decode cX6_setLimit 1 = .ok (.iconst 0, 1) := by decide +kernel
theorem dX6_setLimit_2 : decode cX6_setLimit 2 = .ok (.putfield 44, 3) := by decide +kernel
theorem dX6_setLimit_5 : decode cX6_setLimit 5 = .ok (.aload_n 0, 1) := by decide +kernel
theorem dX6_setLimit_6 : decode cX6_setLimit 6 = .ok (.iload_n 1, 1) := by decide +kernel
theorem dX6_setLimit_7 : decode cX6_setLimit 7 = .ok (.invokevirtual 119, 3) := by decide +kernel
theorem dX6_setLimit_10 : decode cX6_setLimit 10 = .ok (.ifCond .ne 9, 3) := by decide +kernel
theorem dX6_setLimit_13 : decode cX6_setLimit 13 = .ok (.aload_n 0, 1) := by decide +kernel
theorem dX6_setLimit_14 : decode cX6_setLimit 14 = .ok (.iconst 1, 1) := by decide +kernel
theorem dX6_setLimit_15 : decode cX6_setLimit 15 = .ok (.invokevirtual 107, 3) := by decide +kernel
theorem dX6_setLimit_18 : decode cX6_setLimit 18 = .ok (.ireturn, 1) := by decide +kernel
theorem dX6_setLimit_19 : decode cX6_setLimit 19 = .ok (.iload_n 2, 1) := by decide +kernel
theorem dX6_setLimit_20 : decode cX6_setLimit 20 = .ok (.iconst 0, 1) := by decide +kernel
theorem dX6_setLimit_21 : decode cX6_setLimit 21 = .ok (.iconst 3, 1) := by decide +kernel
theorem dX6_setLimit_22 : decode cX6_setLimit 22 = .ok (.invokestatic 58, 3) := by decide +kernel
theorem dX6_setLimit_25 : decode cX6_setLimit 25 = .ok (.ifCond .eq 17, 3) := by decide +kernel
theorem dX6_setLimit_28 : decode cX6_setLimit 28 = .ok (.aload_n 0, 1) := by decide +kernel
theorem dX6_setLimit_29 : decode cX6_setLimit 29 = .ok (.iload_n 1, 1) := by decide +kernel
theorem dX6_setLimit_30 : decode cX6_setLimit 30 = .ok (.invokestatic 51, 3) := by decide +kernel
theorem dX6_setLimit_33 : decode cX6_setLimit 33 = .ok (.iconst 2, 1) := by decide +kernel
theorem dX6_setLimit_34 : decode cX6_setLimit 34 = .ok (.iadd, 1) := by decide +kernel
theorem dX6_setLimit_35 : decode cX6_setLimit 35 = .ok (.iload_n 2, 1) := by decide +kernel
theorem dX6_setLimit_36 : decode cX6_setLimit 36 = .ok (.invokevirtual 123, 3) := by decide +kernel
theorem dX6_setLimit_39 : decode cX6_setLimit 39 = .ok (.goto 8, 3) := by decide +kernel
theorem dX6_setLimit_42 : decode cX6_setLimit 42 = .ok (.aload_n 0, 1) := by decide +kernel
theorem dX6_setLimit_43 : decode cX6_setLimit 43 = .ok (.iconst 2, 1) := by decide +kernel
theorem dX6_setLimit_44 : decode cX6_setLimit 44 = .ok (.invokevirtual 107, 3) := by decide +kernel
theorem dX6_setLimit_47 : decode cX6_setLimit 47 = .ok (.ireturn, 1) := by decide +kernel
theorem dX6_isTooFull_0 : decode cX6_isTooFull 0 = .ok (.iconst 0, 1) := by decide +kernel
theorem dX6_isTooFull_1 : decode cX6_isTooFull 1 = .ok (.istore_n 1, 1) := by decide +kernel
theorem dX6_isTooFull_2 : decode cX6_isTooFull 2 = .ok (.iload_n 1, 1) := by decide +kernel
theorem dX6_isTooFull_3 : decode cX6_isTooFull 3 = .ok (.aload_n 0, 1) := by decide +kernel
theorem dX6_isTooFull_4 : decode cX6_isTooFull 4 = .ok (.invokevirtual 54, 3) := by decide +kernel
theorem dX6_isTooFull_7 : decode cX6_isTooFull 7 = .ok (.if_icmp .ge 33, 3) := by decide +kernel
theorem dX6_isTooFull_10 : decode cX6_isTooFull 10 = .ok (.aload_n 0, 1) := by decide +kernel
theorem dX6_isTooFull_11 : decode cX6_isTooFull 11 = .ok (.iload_n 1, 1) := by decide +kernel
theorem dX6_isTooFull_12 : decode cX6_isTooFull 12 = .ok (.invokevirtual 126, 3) := by decide +kernel
theorem dX6_isTooFull_15 : decode cX6_isTooFull 15 = .ok (.aload_n 0, 1) := by decide +kernel
theorem dX6_isTooFull_16 : decode cX6_isTooFull 16 = .ok (.getfield 9, 3) := by decide +kernel
theorem dX6_isTooFull_19 : decode cX6_isTooFull 19 = .ok (.bipush 10, 2) := by decide +kernel
theorem dX6_isTooFull_21 : decode cX6_isTooFull 21 = .ok (.aload_n 0, 1) := by decide +kernel
theorem dX6_isTooFull_22 : decode cX6_isTooFull 22 = .ok (.iload_n 1, 1) := by decide +kernel
theorem dX6_isTooFull_23 : decode cX6_isTooFull 23 = .ok (.iconst 4, 1) := by decide +kernel
theorem dX6_isTooFull_24 : decode cX6_isTooFull 24 = .ok (.invokevirtual 78, 3) := by decide +kernel
theorem dX6_isTooFull_27 : decode cX6_isTooFull 27 = .ok (.iadd, 1) := by decide +kernel
theorem dX6_isTooFull_28 : decode cX6_isTooFull 28 = .ok (.iaload, 1) := by decide +kernel
theorem dX6_isTooFull_29 : decode cX6_isTooFull 29 = .ok (.if_icmp .le 5, 3) := by decide +kernel
theorem dX6_isTooFull_32 : decode cX6_isTooFull 32 = .ok (.iconst 1, 1) := by decide +kernel
theorem dX6_isTooFull_33 : decode cX6_isTooFull 33 = .ok (.ireturn, 1) := by decide +kernel
theorem dX6_isTooFull_34 : decode cX6_isTooFull 34 = .ok (.iinc 1 1, 3) := by decide +kernel
theorem dX6_isTooFull_37 : decode cX6_isTooFull 37 = .ok (.goto (-35), 3) := by decide +kernel
theorem dX6_isTooFull_40 : decode cX6_isTooFull 40 = .ok (.iconst 0, 1) := by decide +kernel
theorem dX6_isTooFull_41 : decode cX6_isTooFull 41 = .ok (.ireturn, 1) := by decide +kernel
theorem dX6_isSplitClass_0 : decode cX6_isSplitClass 0 = .ok (.iconst 0, 1) := by decide +kernel
theorem dX6_isSplitClass_1 : decode cX6_isSplitClass 1 = .ok (.istore_n 2, 1) := by decide +kernel
theorem dX6_isSplitClass_2 : decode cX6_isSplitClass 2 = .ok (.iload_n 2, 1) := by decide +kernel
theorem dX6_isSplitClass_3 : decode cX6_isSplitClass 3 = .ok (.aload_n 0, 1) := by decide +kernel
theorem dX6_isSplitClass_4 : decode cX6_isSplitClass 4 = .ok (.invokevirtual 54, 3) := by decide +kernel
theorem dX6_isSplitClass_7 : decode cX6_isSplitClass 7 = .ok (.if_icmp .ge 30, 3) := by decide +kernel
theorem dX6_isSplitClass_10 : decode cX6_isSplitClass 10 = .ok (.aload_n 0, 1) := by decide +kernel
theorem dX6_isSplitClass_11 : decode cX6_isSplitClass 11 = .ok (.iload_n 2, 1) := by decide +kernel
theorem dX6_isSplitClass_12 : decode cX6_isSplitClass 12 = .ok (.iconst 1, 1) := by decide +kernel
theorem dX6_isSplitClass_13 : decode cX6_isSplitClass 13 = .ok (.invokevirtual 78, 3) := by decide +kernel
theorem dX6_isSplitClass_16 : decode cX6_isSplitClass 16 = .ok (.iload_n 1, 1) := by decide +kernel
theorem dX6_isSplitClass_17 : decode cX6_isSplitClass 17 = .ok (.if_icmp .ne 14, 3) := by decide +kernel
theorem dX6_isSplitClass_20 : decode cX6_isSplitClass 20 = .ok (.aload_n 0, 1) := by decide +kernel
theorem dX6_isSplitClass_21 : decode cX6_isSplitClass 21 = .ok (.iload_n 2, 1) := by decide +kernel
theorem dX6_isSplitClass_22 : decode cX6_isSplitClass 22 = .ok (.invokevirtual 84, 3) := by decide +kernel
theorem dX6_isSplitClass_25 : decode cX6_isSplitClass 25 = .ok (.iconst 2, 1) := by decide +kernel
theorem dX6_isSplitClass_26 : decode cX6_isSplitClass 26 = .ok (.if_icmp .ne 5, 3) := by decide +kernel
theorem dX6_isSplitClass_29 : decode cX6_isSplitClass 29 = .ok (.iconst 1, 1) := by decide +kernel
theorem dX6_isSplitClass_30 : decode cX6_isSplitClass 30 = .ok (.ireturn, 1) := by decide +kernel
theorem dX6_isSplitClass_31 : decode cX6_isSplitClass 31 = .ok (.iinc 2 1, 3) := by decide +kernel
theorem dX6_isSplitClass_34 : decode cX6_isSplitClass 34 = .ok (.goto (-32), 3) := by decide +kernel
theorem dX6_isSplitClass_37 : decode cX6_isSplitClass 37 = .ok (.iconst 0, 1) := by decide +kernel
theorem dX6_isSplitClass_38 : decode cX6_isSplitClass 38 = .ok (.ireturn, 1) := by decide +kernel
theorem dX6_setSize_0 : decode cX6_setSize 0 = .ok (.aload_n 0, 1) := by decide +kernel
theorem dX6_setSize_1 : decode cX6_setSize 1 = .ok (.iconst 0, 1) := by decide +kernel
theorem dX6_setSize_2 : decode cX6_setSize 2 = .ok (.putfield 44, 3) := by decide +kernel
theorem dX6_setSize_5 : decode cX6_setSize 5 = .ok (.iload_n 1, 1) := by decide +kernel
theorem dX6_setSize_6 : decode cX6_setSize 6 = .ok (.invokestatic 129, 3) := by decide +kernel
theorem dX6_setSize_9 : decode cX6_setSize 9 = .ok (.ifCond .ne 9, 3) := by decide +kernel
theorem dX6_setSize_12 : decode cX6_setSize 12 = .ok (.aload_n 0, 1) := by decide +kernel
theorem dX6_setSize_13 : decode cX6_setSize 13 = .ok (.iconst 1, 1) := by decide +kernel
theorem dX6_setSize_14 : decode cX6_setSize 14 = .ok (.invokevirtual 107, 3) := by decide +kernel
theorem dX6_setSize_17 : decode cX6_setSize 17 = .ok (.ireturn, 1) := by decide +kernel
theorem dX6_setSize_18 : decode cX6_setSize 18 = .ok (.iload_n 2, 1) := by decide +kernel
theorem dX6_setSize_19 : decode cX6_setSize 19 = .ok (.iconst 1, 1) := by decide +kernel
theorem dX6_setSize_20 : decode cX6_setSize 20 = .ok (.bipush 30, 2) := by decide +kernel
theorem dX6_setSize_22 : decode cX6_setSize 22 = .ok (.invokestatic 58, 3) := by decide +kernel
theorem dX6_setSize_25 : decode cX6_setSize 25 = .ok (.ifCond .ne 9, 3) := by decide +kernel
theorem dX6_setSize_28 : decode cX6_setSize 28 = .ok (.aload_n 0, 1) := by decide +kernel
theorem dX6_setSize_29 : decode cX6_setSize 29 = .ok (.iconst 2, 1) := by decide +kernel
theorem dX6_setSize_30 : decode cX6_setSize 30 = .ok (.invokevirtual 107, 3) := by decide +kernel
theorem dX6_setSize_33 : decode cX6_setSize 33 = .ok (.ireturn, 1) := by decide +kernel
theorem dX6_setSize_34 : decode cX6_setSize 34 = .ok (.aload_n 0, 1) := by decide +kernel
theorem dX6_setSize_35 : decode cX6_setSize 35 = .ok (.getfield 9, 3) := by decide +kernel
theorem dX6_setSize_38 : decode cX6_setSize 38 = .ok (.iconst 4, 1) := by decide +kernel
theorem dX6_setSize_39 : decode cX6_setSize 39 = .ok (.iload_n 1, 1) := by decide +kernel
theorem dX6_setSize_40 : decode cX6_setSize 40 = .ok (.iadd, 1) := by decide +kernel
theorem dX6_setSize_41 : decode cX6_setSize 41 = .ok (.iaload, 1) := by decide +kernel
theorem dX6_setSize_42 : decode cX6_setSize 42 = .ok (.istore_n 3, 1) := by decide +kernel
theorem dX6_setSize_43 : decode cX6_setSize 43 = .ok (.aload_n 0, 1) := by decide +kernel
theorem dX6_setSize_44 : decode cX6_setSize 44 = .ok (.getfield 9, 3) := by decide +kernel
theorem dX6_setSize_47 : decode cX6_setSize 47 = .ok (.iconst 4, 1) := by decide +kernel
theorem dX6_setSize_48 : decode cX6_setSize 48 = .ok (.iload_n 1, 1) := by decide +kernel
theorem dX6_setSize_49 : decode cX6_setSize 49 = .ok (.iadd, 1) := by decide +kernel
theorem dX6_setSize_50 : decode cX6_setSize 50 = .ok (.iload_n 2, 1) := by decide +kernel
theorem dX6_setSize_51 : decode cX6_setSize 51 = .ok (.iastore, 1) := by decide +kernel
theorem dX6_setSize_52 : decode cX6_setSize 52 = .ok (.aload_n 0, 1) := by decide +kernel
theorem dX6_setSize_53 : decode cX6_setSize 53 = .ok (.iload_n 1, 1) := by decide +kernel
theorem dX6_setSize_54 : decode cX6_setSize 54 = .ok (.invokevirtual 132, 3) := by decide +kernel
theorem dX6_setSize_57 : decode cX6_setSize 57 = .ok (.ifCond .ne 10, 3) := by decide +kernel
theorem dX6_setSize_60 : decode cX6_setSize 60 = .ok (.aload_n 0, 1) := by decide +kernel
theorem dX6_setSize_61 : decode cX6_setSize 61 = .ok (.invokevirtual 135, 3) := by decide +kernel
theorem dX6_setSize_64 : decode cX6_setSize 64 = .ok (.ifCond .eq 7, 3) := by decide +kernel
theorem dX6_setSize_67 : decode cX6_setSize 67 = .ok (.iconst 1, 1) := by decide +kernel
theorem dX6_setSize_68 : decode cX6_setSize 68 = .ok (.goto 4, 3) := by decide +kernel
theorem dX6_setSize_71 : decode cX6_setSize 71 = .ok (.iconst 0, 1) := by decide +kernel
theorem dX6_setSize_72 : decode cX6_setSize 72 = .ok (.istore 4, 2) := by decide +kernel
theorem dX6_setSize_74 : decode cX6_setSize 74 = .ok (.aload_n 0, 1) := by decide +kernel
theorem dX6_setSize_75 : decode cX6_setSize 75 = .ok (.getfield 9, 3) := by decide +kernel
theorem dX6_setSize_78 : decode cX6_setSize 78 = .ok (.iconst 4, 1) := by decide +kernel
theorem dX6_setSize_79 : decode cX6_setSize 79 = .ok (.iload_n 1, 1) := by decide +kernel
theorem dX6_setSize_80 : decode cX6_setSize 80 = .ok (.iadd, 1) := by decide +kernel
theorem dX6_setSize_81 : decode cX6_setSize 81 = .ok (.iload_n 3, 1) := by decide +kernel
theorem dX6_setSize_82 : decode cX6_setSize 82 = .ok (.iastore, 1) := by decide +kernel
theorem dX6_setSize_83 : decode cX6_setSize 83 = .ok (.iload 4, 2) := by decide +kernel
theorem dX6_setSize_85 : decode cX6_setSize 85 = .ok (.ifCond .eq 11, 3) := by decide +kernel
theorem dX6_setSize_88 : decode cX6_setSize 88 = .ok (.aload_n 0, 1) := by decide +kernel
theorem dX6_setSize_89 : decode cX6_setSize 89 = .ok (.iconst 3, 1) := by decide +kernel
theorem dX6_setSize_90 : decode cX6_setSize 90 = .ok (.invokevirtual 107, 3) := by decide +kernel
theorem dX6_setSize_93 : decode cX6_setSize 93 = .ok (.goto 11, 3) := by decide +kernel
theorem dX6_setSize_96 : decode cX6_setSize 96 = .ok (.aload_n 0, 1) := by decide +kernel
theorem dX6_setSize_97 : decode cX6_setSize 97 = .ok (.iconst 4, 1) := by decide +kernel
theorem dX6_setSize_98 : decode cX6_setSize 98 = .ok (.iload_n 1, 1) := by decide +kernel
theorem dX6_setSize_99 : decode cX6_setSize 99 = .ok (.iadd, 1) := by decide +kernel
theorem dX6_setSize_100 : decode cX6_setSize 100 = .ok (.iload_n 2, 1) := by decide +kernel
theorem dX6_setSize_101 : decode cX6_setSize 101 = .ok (.invokevirtual 123, 3) := by decide +kernel
theorem dX6_setSize_104 : decode cX6_setSize 104 = .ok (.ireturn, 1) := by decide +kernel
theorem dX6_setCapacity_0 : decode cX6_setCapacity 0 = .ok (.aload_n 0, 1) := by decide +kernel
theorem dX6_setCapacity_1 : decode cX6_setCapacity 1 = .ok (.iconst 0, 1) := by decide +kernel
theorem dX6_setCapacity_2 : decode cX6_setCapacity 2 = .ok (.putfield 44, 3) := by decide +kernel
theorem dX6_setCapacity_5 : decode cX6_setCapacity 5 = .ok (.iload_n 1, 1) := by decide +kernel
theorem dX6_setCapacity_6 : decode cX6_setCapacity 6 = .ok (.invokestatic 129, 3) := by decide +kernel
theorem dX6_setCapacity_9 : decode cX6_setCapacity 9 = .ok (.ifCond .ne 9, 3) := by decide +kernel
theorem dX6_setCapacity_12 : decode cX6_setCapacity 12 = .ok (.aload_n 0, 1) := by decide +kernel
theorem dX6_setCapacity_13 : decode cX6_setCapacity 13 = .ok (.iconst 1, 1) := by decide +kernel
theorem dX6_setCapacity_14 : decode cX6_setCapacity 14 = .ok (.invokevirtual 107, 3) := by decide +kernel
theorem dX6_setCapacity_17 : decode cX6_setCapacity 17 = .ok (.ireturn, 1) := by decide +kernel
theorem dX6_setCapacity_18 : decode cX6_setCapacity 18 = .ok (.iload_n 2, 1) := by decide +kernel
theorem dX6_setCapacity_19 : decode cX6_setCapacity 19 = .ok (.bipush 10, 2) := by decide +kernel
theorem dX6_setCapacity_21 : decode cX6_setCapacity 21 = .ok (.bipush 60, 2) := by decide +kernel
theorem dX6_setCapacity_23 : decode cX6_setCapacity 23 = .ok (.invokestatic 58, 3) := by decide +kernel
theorem dX6_setCapacity_26 : decode cX6_setCapacity 26 = .ok (.ifCond .ne 9, 3) := by decide +kernel
theorem dX6_setCapacity_29 : decode cX6_setCapacity 29 = .ok (.aload_n 0, 1) := by decide +kernel
theorem dX6_setCapacity_30 : decode cX6_setCapacity 30 = .ok (.iconst 2, 1) := by decide +kernel
theorem dX6_setCapacity_31 : decode cX6_setCapacity 31 = .ok (.invokevirtual 107, 3) := by decide +kernel
theorem dX6_setCapacity_34 : decode cX6_setCapacity 34 = .ok (.ireturn, 1) := by decide +kernel
theorem dX6_setCapacity_35 : decode cX6_setCapacity 35 = .ok (.aload_n 0, 1) := by decide +kernel
theorem dX6_setCapacity_36 : decode cX6_setCapacity 36 = .ok (.getfield 9, 3) := by decide +kernel
theorem dX6_setCapacity_39 : decode cX6_setCapacity 39 = .ok (.bipush 10, 2) := by decide +kernel
theorem dX6_setCapacity_41 : decode cX6_setCapacity 41 = .ok (.iload_n 1, 1) := by decide +kernel
theorem dX6_setCapacity_42 : decode cX6_setCapacity 42 = .ok (.iadd, 1) := by decide +kernel
theorem dX6_setCapacity_43 : decode cX6_setCapacity 43 = .ok (.iaload, 1) := by decide +kernel
theorem dX6_setCapacity_44 : decode cX6_setCapacity 44 = .ok (.istore_n 3, 1) := by decide +kernel
theorem dX6_setCapacity_45 : decode cX6_setCapacity 45 = .ok (.aload_n 0, 1) := by decide +kernel
theorem dX6_setCapacity_46 : decode cX6_setCapacity 46 = .ok (.getfield 9, 3) := by decide +kernel
theorem dX6_setCapacity_49 : decode cX6_setCapacity 49 = .ok (.bipush 10, 2) := by decide +kernel
theorem dX6_setCapacity_51 : decode cX6_setCapacity 51 = .ok (.iload_n 1, 1) := by decide +kernel
theorem dX6_setCapacity_52 : decode cX6_setCapacity 52 = .ok (.iadd, 1) := by decide +kernel
theorem dX6_setCapacity_53 : decode cX6_setCapacity 53 = .ok (.iload_n 2, 1) := by decide +kernel
theorem dX6_setCapacity_54 : decode cX6_setCapacity 54 = .ok (.iastore, 1) := by decide +kernel
theorem dX6_setCapacity_55 : decode cX6_setCapacity 55 = .ok (.aload_n 0, 1) := by decide +kernel
theorem dX6_setCapacity_56 : decode cX6_setCapacity 56 = .ok (.invokevirtual 135, 3) := by decide +kernel
theorem dX6_setCapacity_59 : decode cX6_setCapacity 59 = .ok (.istore 4, 2) := by decide +kernel
theorem dX6_setCapacity_61 : decode cX6_setCapacity 61 = .ok (.aload_n 0, 1) := by decide +kernel
theorem dX6_setCapacity_62 : decode cX6_setCapacity 62 = .ok (.getfield 9, 3) := by decide +kernel
theorem dX6_setCapacity_65 : decode cX6_setCapacity 65 = .ok (.bipush 10, 2) := by decide +kernel
theorem dX6_setCapacity_67 : decode cX6_setCapacity 67 = .ok (.iload_n 1, 1) := by decide +kernel
theorem dX6_setCapacity_68 : decode cX6_setCapacity 68 = .ok (.iadd, 1) := by decide +kernel
theorem dX6_setCapacity_69 : decode cX6_setCapacity 69 = .ok (.iload_n 3, 1) := by decide +kernel
theorem dX6_setCapacity_70 : decode cX6_setCapacity 70 = .ok (.iastore, 1) := by decide +kernel
theorem dX6_setCapacity_71 : decode cX6_setCapacity 71 = .ok (.iload 4, 2) := by decide +kernel
theorem dX6_setCapacity_73 : decode cX6_setCapacity 73 = .ok (.ifCond .eq 11, 3) := by decide +kernel
theorem dX6_setCapacity_76 : decode cX6_setCapacity 76 = .ok (.aload_n 0, 1) := by decide +kernel
theorem dX6_setCapacity_77 : decode cX6_setCapacity 77 = .ok (.iconst 3, 1) := by decide +kernel
theorem dX6_setCapacity_78 : decode cX6_setCapacity 78 = .ok (.invokevirtual 107, 3) := by decide +kernel
theorem dX6_setCapacity_81 : decode cX6_setCapacity 81 = .ok (.goto 12, 3) := by decide +kernel
theorem dX6_setCapacity_84 : decode cX6_setCapacity 84 = .ok (.aload_n 0, 1) := by decide +kernel
theorem dX6_setCapacity_85 : decode cX6_setCapacity 85 = .ok (.bipush 10, 2) := by decide +kernel
theorem dX6_setCapacity_87 : decode cX6_setCapacity 87 = .ok (.iload_n 1, 1) := by decide +kernel
theorem dX6_setCapacity_88 : decode cX6_setCapacity 88 = .ok (.iadd, 1) := by decide +kernel
theorem dX6_setCapacity_89 : decode cX6_setCapacity 89 = .ok (.iload_n 2, 1) := by decide +kernel
theorem dX6_setCapacity_90 : decode cX6_setCapacity 90 = .ok (.invokevirtual 123, 3) := by decide +kernel
theorem dX6_setCapacity_93 : decode cX6_setCapacity 93 = .ok (.ireturn, 1) := by decide +kernel
theorem dX6_covers_0 : decode cX6_covers 0 = .ok (.iconst 0, 1) := by decide +kernel
theorem dX6_covers_1 : decode cX6_covers 1 = .ok (.istore_n 3, 1) := by decide +kernel
theorem dX6_covers_2 : decode cX6_covers 2 = .ok (.iload_n 3, 1) := by decide +kernel
theorem dX6_covers_3 : decode cX6_covers 3 = .ok (.aload_n 0, 1) := by decide +kernel
theorem dX6_covers_4 : decode cX6_covers 4 = .ok (.invokevirtual 54, 3) := by decide +kernel
theorem dX6_covers_7 : decode cX6_covers 7 = .ok (.if_icmp .ge 31, 3) := by decide +kernel
theorem dX6_covers_10 : decode cX6_covers 10 = .ok (.aload_n 0, 1) := by decide +kernel
theorem dX6_covers_11 : decode cX6_covers 11 = .ok (.iload_n 3, 1) := by decide +kernel
theorem dX6_covers_12 : decode cX6_covers 12 = .ok (.iconst 5, 1) := by decide +kernel
theorem dX6_covers_13 : decode cX6_covers 13 = .ok (.invokevirtual 78, 3) := by decide +kernel
theorem dX6_covers_16 : decode cX6_covers 16 = .ok (.iload_n 1, 1) := by decide +kernel
theorem dX6_covers_17 : decode cX6_covers 17 = .ok (.if_icmp .ne 15, 3) := by decide +kernel
theorem dX6_covers_20 : decode cX6_covers 20 = .ok (.aload_n 0, 1) := by decide +kernel
theorem dX6_covers_21 : decode cX6_covers 21 = .ok (.iload_n 3, 1) := by decide +kernel
theorem dX6_covers_22 : decode cX6_covers 22 = .ok (.iconst 0, 1) := by decide +kernel
theorem dX6_covers_23 : decode cX6_covers 23 = .ok (.invokevirtual 78, 3) := by decide +kernel
theorem dX6_covers_26 : decode cX6_covers 26 = .ok (.iload_n 2, 1) := by decide +kernel
theorem dX6_covers_27 : decode cX6_covers 27 = .ok (.if_icmp .ne 5, 3) := by decide +kernel
theorem dX6_covers_30 : decode cX6_covers 30 = .ok (.iconst 1, 1) := by decide +kernel
theorem dX6_covers_31 : decode cX6_covers 31 = .ok (.ireturn, 1) := by decide +kernel
theorem dX6_covers_32 : decode cX6_covers 32 = .ok (.iinc 3 1, 3) := by decide +kernel
theorem dX6_covers_35 : decode cX6_covers 35 = .ok (.goto (-33), 3) := by decide +kernel
theorem dX6_covers_38 : decode cX6_covers 38 = .ok (.iconst 0, 1) := by decide +kernel
theorem dX6_covers_39 : decode cX6_covers 39 = .ok (.ireturn, 1) := by decide +kernel
theorem dX6_collides_0 : decode cX6_collides 0 = .ok (.iconst 0, 1) := by decide +kernel
theorem dX6_collides_1 : decode cX6_collides 1 = .ok (.istore 5, 2) := by decide +kernel
theorem dX6_collides_3 : decode cX6_collides 3 = .ok (.iload 5, 2) := by decide +kernel
theorem dX6_collides_5 : decode cX6_collides 5 = .ok (.aload_n 0, 1) := by decide +kernel
theorem dX6_collides_6 : decode cX6_collides 6 = .ok (.invokevirtual 54, 3) := by decide +kernel
theorem dX6_collides_9 : decode cX6_collides 9 = .ok (.if_icmp .ge 56, 3) := by decide +kernel
theorem dX6_collides_12 : decode cX6_collides 12 = .ok (.aload_n 0, 1) := by decide +kernel
theorem dX6_collides_13 : decode cX6_collides 13 = .ok (.iload 5, 2) := by decide +kernel
theorem dX6_collides_15 : decode cX6_collides 15 = .ok (.iconst 0, 1) := by decide +kernel
theorem dX6_collides_16 : decode cX6_collides 16 = .ok (.invokevirtual 78, 3) := by decide +kernel
theorem dX6_collides_19 : decode cX6_collides 19 = .ok (.iload_n 1, 1) := by decide +kernel
theorem dX6_collides_20 : decode cX6_collides 20 = .ok (.if_icmp .ne 39, 3) := by decide +kernel
theorem dX6_collides_23 : decode cX6_collides 23 = .ok (.aload_n 0, 1) := by decide +kernel
theorem dX6_collides_24 : decode cX6_collides 24 = .ok (.iload 5, 2) := by decide +kernel
theorem dX6_collides_26 : decode cX6_collides 26 = .ok (.iconst 1, 1) := by decide +kernel
theorem dX6_collides_27 : decode cX6_collides 27 = .ok (.invokevirtual 78, 3) := by decide +kernel
theorem dX6_collides_30 : decode cX6_collides 30 = .ok (.iload_n 2, 1) := by decide +kernel
theorem dX6_collides_31 : decode cX6_collides 31 = .ok (.if_icmp .eq 26, 3) := by decide +kernel
theorem dX6_collides_34 : decode cX6_collides 34 = .ok (.aload_n 0, 1) := by decide +kernel
theorem dX6_collides_35 : decode cX6_collides 35 = .ok (.iload 5, 2) := by decide +kernel
theorem dX6_collides_37 : decode cX6_collides 37 = .ok (.iconst 3, 1) := by decide +kernel
theorem dX6_collides_38 : decode cX6_collides 38 = .ok (.invokevirtual 78, 3) := by decide +kernel
theorem dX6_collides_41 : decode cX6_collides 41 = .ok (.iload_n 3, 1) := by decide +kernel
theorem dX6_collides_42 : decode cX6_collides 42 = .ok (.if_icmp .eq 15, 3) := by decide +kernel
theorem dX6_collides_45 : decode cX6_collides 45 = .ok (.aload_n 0, 1) := by decide +kernel
theorem dX6_collides_46 : decode cX6_collides 46 = .ok (.iload 5, 2) := by decide +kernel
theorem dX6_collides_48 : decode cX6_collides 48 = .ok (.iconst 4, 1) := by decide +kernel
theorem dX6_collides_49 : decode cX6_collides 49 = .ok (.invokevirtual 78, 3) := by decide +kernel
theorem dX6_collides_52 : decode cX6_collides 52 = .ok (.iload 4, 2) := by decide +kernel
theorem dX6_collides_54 : decode cX6_collides 54 = .ok (.if_icmp .ne 5, 3) := by decide +kernel
theorem dX6_collides_57 : decode cX6_collides 57 = .ok (.iconst 1, 1) := by decide +kernel
theorem dX6_collides_58 : decode cX6_collides 58 = .ok (.ireturn, 1) := by decide +kernel
theorem dX6_collides_59 : decode cX6_collides 59 = .ok (.iinc 5 1, 3) := by decide +kernel
theorem dX6_collides_62 : decode cX6_collides 62 = .ok (.goto (-59), 3) := by decide +kernel
theorem dX6_collides_65 : decode cX6_collides 65 = .ok (.aload_n 0, 1) := by decide +kernel
theorem dX6_collides_66 : decode cX6_collides 66 = .ok (.iload_n 3, 1) := by decide +kernel
theorem dX6_collides_67 : decode cX6_collides 67 = .ok (.iload_n 1, 1) := by decide +kernel
theorem dX6_collides_68 : decode cX6_collides 68 = .ok (.invokevirtual 139, 3) := by decide +kernel
theorem dX6_collides_71 : decode cX6_collides 71 = .ok (.ifCond .ne 24, 3) := by decide +kernel
theorem dX6_collides_74 : decode cX6_collides 74 = .ok (.aload_n 0, 1) := by decide +kernel
theorem dX6_collides_75 : decode cX6_collides 75 = .ok (.getfield 9, 3) := by decide +kernel
theorem dX6_collides_78 : decode cX6_collides 78 = .ok (.iconst 4, 1) := by decide +kernel
theorem dX6_collides_79 : decode cX6_collides 79 = .ok (.iload_n 2, 1) := by decide +kernel
theorem dX6_collides_80 : decode cX6_collides 80 = .ok (.iadd, 1) := by decide +kernel
theorem dX6_collides_81 : decode cX6_collides 81 = .ok (.iaload, 1) := by decide +kernel
theorem dX6_collides_82 : decode cX6_collides 82 = .ok (.aload_n 0, 1) := by decide +kernel
theorem dX6_collides_83 : decode cX6_collides 83 = .ok (.getfield 9, 3) := by decide +kernel
theorem dX6_collides_86 : decode cX6_collides 86 = .ok (.bipush 10, 2) := by decide +kernel
theorem dX6_collides_88 : decode cX6_collides 88 = .ok (.iload 4, 2) := by decide +kernel
theorem dX6_collides_90 : decode cX6_collides 90 = .ok (.iadd, 1) := by decide +kernel
theorem dX6_collides_91 : decode cX6_collides 91 = .ok (.iaload, 1) := by decide +kernel
theorem dX6_collides_92 : decode cX6_collides 92 = .ok (.if_icmp .le 7, 3) := by decide +kernel
theorem dX6_collides_95 : decode cX6_collides 95 = .ok (.iconst 1, 1) := by decide +kernel
theorem dX6_collides_96 : decode cX6_collides 96 = .ok (.goto 4, 3) := by decide +kernel
theorem dX6_collides_99 : decode cX6_collides 99 = .ok (.iconst 0, 1) := by decide +kernel
theorem dX6_collides_100 : decode cX6_collides 100 = .ok (.ireturn, 1) := by decide +kernel
theorem dX6_newLesson_0 : decode cX6_newLesson 0 = .ok (.iload_n 1, 1) := by decide +kernel
theorem dX6_newLesson_1 : decode cX6_newLesson 1 = .ok (.invokestatic 142, 3) := by decide +kernel
theorem dX6_newLesson_4 : decode cX6_newLesson 4 = .ok (.ifCond .eq 34, 3) := by decide +kernel
theorem dX6_newLesson_7 : decode cX6_newLesson 7 = .ok (.iload_n 2, 1) := by decide +kernel
theorem dX6_newLesson_8 : decode cX6_newLesson 8 = .ok (.invokestatic 129, 3) := by decide +kernel
theorem dX6_newLesson_11 : decode cX6_newLesson 11 = .ok (.ifCond .eq 27, 3) := by decide +kernel
theorem dX6_newLesson_14 : decode cX6_newLesson 14 = .ok (.iload_n 3, 1) := by decide +kernel
theorem dX6_newLesson_15 : decode cX6_newLesson 15 = .ok (.invokestatic 129, 3) := by decide +kernel
theorem dX6_newLesson_18 : decode cX6_newLesson 18 = .ok (.ifCond .eq 20, 3) := by decide +kernel
theorem dX6_newLesson_21 : decode cX6_newLesson 21 = .ok (.aload_n 0, 1) := by decide +kernel
theorem dX6_newLesson_22 : decode cX6_newLesson 22 = .ok (.iload 4, 2) := by decide +kernel
theorem dX6_newLesson_24 : decode cX6_newLesson 24 = .ok (.invokevirtual 119, 3) := by decide +kernel
theorem dX6_newLesson_27 : decode cX6_newLesson 27 = .ok (.ifCond .eq 11, 3) := by decide +kernel
theorem dX6_newLesson_30 : decode cX6_newLesson 30 = .ok (.iload 5, 2) := by decide +kernel
theorem dX6_newLesson_32 : decode cX6_newLesson 32 = .ok (.invokestatic 129, 3) := by decide +kernel
theorem dX6_newLesson_35 : decode cX6_newLesson 35 = .ok (.ifCond .ne 9, 3) := by decide +kernel
theorem dX6_newLesson_38 : decode cX6_newLesson 38 = .ok (.aload_n 0, 1) := by decide +kernel
theorem dX6_newLesson_39 : decode cX6_newLesson 39 = .ok (.iconst 1, 1) := by decide +kernel
theorem dX6_newLesson_40 : decode cX6_newLesson 40 = .ok (.invokevirtual 107, 3) := by decide +kernel
theorem dX6_newLesson_43 : decode cX6_newLesson 43 = .ok (.ireturn, 1) := by decide +kernel
theorem dX6_newLesson_44 : decode cX6_newLesson 44 = .ok (.aload_n 0, 1) := by decide +kernel
theorem dX6_newLesson_45 : decode cX6_newLesson 45 = .ok (.iload_n 1, 1) := by decide +kernel
theorem dX6_newLesson_46 : decode cX6_newLesson 46 = .ok (.iload_n 2, 1) := by decide +kernel
theorem dX6_newLesson_47 : decode cX6_newLesson 47 = .ok (.iload 4, 2) := by decide +kernel
theorem dX6_newLesson_49 : decode cX6_newLesson 49 = .ok (.iload 5, 2) := by decide +kernel
theorem dX6_newLesson_51 : decode cX6_newLesson 51 = .ok (.invokevirtual 145, 3) := by decide +kernel
theorem dX6_newLesson_54 : decode cX6_newLesson 54 = .ok (.ifCond .eq 9, 3) := by decide +kernel
theorem dX6_newLesson_57 : decode cX6_newLesson 57 = .ok (.aload_n 0, 1) := by decide +kernel
theorem dX6_newLesson_58 : decode cX6_newLesson 58 = .ok (.iconst 2, 1) := by decide +kernel
theorem dX6_newLesson_59 : decode cX6_newLesson 59 = .ok (.invokevirtual 107, 3) := by decide +kernel
theorem dX6_newLesson_62 : decode cX6_newLesson 62 = .ok (.ireturn, 1) := by decide +kernel
theorem dX6_newLesson_63 : decode cX6_newLesson 63 = .ok (.aload_n 0, 1) := by decide +kernel
theorem dX6_newLesson_64 : decode cX6_newLesson 64 = .ok (.invokevirtual 54, 3) := by decide +kernel
theorem dX6_newLesson_67 : decode cX6_newLesson 67 = .ok (.bipush 40, 2) := by decide +kernel
theorem dX6_newLesson_69 : decode cX6_newLesson 69 = .ok (.if_icmp .ne 9, 3) := by decide +kernel
theorem dX6_newLesson_72 : decode cX6_newLesson 72 = .ok (.aload_n 0, 1) := by decide +kernel
theorem dX6_newLesson_73 : decode cX6_newLesson 73 = .ok (.iconst 3, 1) := by decide +kernel
theorem dX6_newLesson_74 : decode cX6_newLesson 74 = .ok (.invokevirtual 107, 3) := by decide +kernel
theorem dX6_newLesson_77 : decode cX6_newLesson 77 = .ok (.ireturn, 1) := by decide +kernel
theorem dX6_newLesson_78 : decode cX6_newLesson 78 = .ok (.aload_n 0, 1) := by decide +kernel
theorem dX6_newLesson_79 : decode cX6_newLesson 79 = .ok (.invokevirtual 54, 3) := by decide +kernel
theorem dX6_newLesson_82 : decode cX6_newLesson 82 = .ok (.invokestatic 47, 3) := by decide +kernel
theorem dX6_newLesson_85 : decode cX6_newLesson 85 = .ok (.istore 6, 2) := by decide +kernel
theorem dX6_newLesson_87 : decode cX6_newLesson 87 = .ok (.aload_n 0, 1) := by decide +kernel
theorem dX6_newLesson_88 : decode cX6_newLesson 88 = .ok (.getfield 9, 3) := by decide +kernel
theorem dX6_newLesson_91 : decode cX6_newLesson 91 = .ok (.iload 6, 2) := by decide +kernel
theorem dX6_newLesson_93 : decode cX6_newLesson 93 = .ok (.iload_n 1, 1) := by decide +kernel
theorem dX6_newLesson_94 : decode cX6_newLesson 94 = .ok (.iastore, 1) := by decide +kernel
theorem dX6_newLesson_95 : decode cX6_newLesson 95 = .ok (.aload_n 0, 1) := by decide +kernel
theorem dX6_newLesson_96 : decode cX6_newLesson 96 = .ok (.getfield 9, 3) := by decide +kernel
theorem dX6_newLesson_99 : decode cX6_newLesson 99 = .ok (.iload 6, 2) := by decide +kernel
theorem dX6_newLesson_101 : decode cX6_newLesson 101 = .ok (.iconst 1, 1) := by decide +kernel
theorem dX6_newLesson_102 : decode cX6_newLesson 102 = .ok (.iadd, 1) := by decide +kernel
theorem dX6_newLesson_103 : decode cX6_newLesson 103 = .ok (.iload_n 2, 1) := by decide +kernel
theorem dX6_newLesson_104 : decode cX6_newLesson 104 = .ok (.iastore, 1) := by decide +kernel
theorem dX6_newLesson_105 : decode cX6_newLesson 105 = .ok (.aload_n 0, 1) := by decide +kernel
theorem dX6_newLesson_106 : decode cX6_newLesson 106 = .ok (.getfield 9, 3) := by decide +kernel
theorem dX6_newLesson_109 : decode cX6_newLesson 109 = .ok (.iload 6, 2) := by decide +kernel
theorem dX6_newLesson_111 : decode cX6_newLesson 111 = .ok (.iconst 2, 1) := by decide +kernel
theorem dX6_newLesson_112 : decode cX6_newLesson 112 = .ok (.iadd, 1) := by decide +kernel
theorem dX6_newLesson_113 : decode cX6_newLesson 113 = .ok (.iload_n 3, 1) := by decide +kernel
theorem dX6_newLesson_114 : decode cX6_newLesson 114 = .ok (.iastore, 1) := by decide +kernel
theorem dX6_newLesson_115 : decode cX6_newLesson 115 = .ok (.aload_n 0, 1) := by decide +kernel
theorem dX6_newLesson_116 : decode cX6_newLesson 116 = .ok (.getfield 9, 3) := by decide +kernel
theorem dX6_newLesson_119 : decode cX6_newLesson 119 = .ok (.iload 6, 2) := by decide +kernel
theorem dX6_newLesson_121 : decode cX6_newLesson 121 = .ok (.iconst 3, 1) := by decide +kernel
theorem dX6_newLesson_122 : decode cX6_newLesson 122 = .ok (.iadd, 1) := by decide +kernel
theorem dX6_newLesson_123 : decode cX6_newLesson 123 = .ok (.iload 4, 2) := by decide +kernel
theorem dX6_newLesson_125 : decode cX6_newLesson 125 = .ok (.iastore, 1) := by decide +kernel
theorem dX6_newLesson_126 : decode cX6_newLesson 126 = .ok (.aload_n 0, 1) := by decide +kernel
theorem dX6_newLesson_127 : decode cX6_newLesson 127 = .ok (.getfield 9, 3) := by decide +kernel
theorem dX6_newLesson_130 : decode cX6_newLesson 130 = .ok (.iload 6, 2) := by decide +kernel
theorem dX6_newLesson_132 : decode cX6_newLesson 132 = .ok (.iconst 4, 1) := by decide +kernel
theorem dX6_newLesson_133 : decode cX6_newLesson 133 = .ok (.iadd, 1) := by decide +kernel
theorem dX6_newLesson_134 : decode cX6_newLesson 134 = .ok (.iload 5, 2) := by decide +kernel
theorem dX6_newLesson_136 : decode cX6_newLesson 136 = .ok (.iastore, 1) := by decide +kernel
theorem dX6_newLesson_137 : decode cX6_newLesson 137 = .ok (.aload_n 0, 1) := by decide +kernel
theorem dX6_newLesson_138 : decode cX6_newLesson 138 = .ok (.getfield 9, 3) := by decide +kernel
theorem dX6_newLesson_141 : decode cX6_newLesson 141 = .ok (.iload 6, 2) := by decide +kernel
theorem dX6_newLesson_143 : decode cX6_newLesson 143 = .ok (.iconst 5, 1) := by decide +kernel
theorem dX6_newLesson_144 : decode cX6_newLesson 144 = .ok (.iadd, 1) := by decide +kernel
theorem dX6_newLesson_145 : decode cX6_newLesson 145 = .ok (.iconst (-1), 1) := by decide +kernel
theorem dX6_newLesson_146 : decode cX6_newLesson 146 = .ok (.iastore, 1) := by decide +kernel
theorem dX6_newLesson_147 : decode cX6_newLesson 147 = .ok (.aload_n 0, 1) := by decide +kernel
theorem dX6_newLesson_148 : decode cX6_newLesson 148 = .ok (.getfield 9, 3) := by decide +kernel
theorem dX6_newLesson_151 : decode cX6_newLesson 151 = .ok (.iload 6, 2) := by decide +kernel
theorem dX6_newLesson_153 : decode cX6_newLesson 153 = .ok (.bipush 6, 2) := by decide +kernel
theorem dX6_newLesson_155 : decode cX6_newLesson 155 = .ok (.iadd, 1) := by decide +kernel
theorem dX6_newLesson_156 : decode cX6_newLesson 156 = .ok (.iconst (-1), 1) := by decide +kernel
theorem dX6_newLesson_157 : decode cX6_newLesson 157 = .ok (.iastore, 1) := by decide +kernel
theorem dX6_newLesson_158 : decode cX6_newLesson 158 = .ok (.aload_n 0, 1) := by decide +kernel
theorem dX6_newLesson_159 : decode cX6_newLesson 159 = .ok (.getfield 9, 3) := by decide +kernel
theorem dX6_newLesson_162 : decode cX6_newLesson 162 = .ok (.iload 6, 2) := by decide +kernel
theorem dX6_newLesson_164 : decode cX6_newLesson 164 = .ok (.bipush 7, 2) := by decide +kernel
theorem dX6_newLesson_166 : decode cX6_newLesson 166 = .ok (.iadd, 1) := by decide +kernel
theorem dX6_newLesson_167 : decode cX6_newLesson 167 = .ok (.iconst (-1), 1) := by decide +kernel
theorem dX6_newLesson_168 : decode cX6_newLesson 168 = .ok (.iastore, 1) := by decide +kernel
theorem dX6_newLesson_169 : decode cX6_newLesson 169 = .ok (.aload_n 0, 1) := by decide +kernel
theorem dX6_newLesson_170 : decode cX6_newLesson 170 = .ok (.getfield 9, 3) := by decide +kernel
theorem dX6_newLesson_173 : decode cX6_newLesson 173 = .ok (.iconst 1, 1) := by decide +kernel
theorem dX6_newLesson_174 : decode cX6_newLesson 174 = .ok (.dup2, 1) := by decide +kernel
theorem dX6_newLesson_175 : decode cX6_newLesson 175 = .ok (.iaload, 1) := by decide +kernel
theorem dX6_newLesson_176 : decode cX6_newLesson 176 = .ok (.dup_x2, 1) := by decide +kernel
theorem dX6_newLesson_177 : decode cX6_newLesson 177 = .ok (.iconst 1, 1) := by decide +kernel
theorem dX6_newLesson_178 : decode cX6_newLesson 178 = .ok (.iadd, 1) := by decide +kernel
theorem dX6_newLesson_179 : decode cX6_newLesson 179 = .ok (.iastore, 1) := by decide +kernel
theorem dX6_newLesson_180 : decode cX6_newLesson 180 = .ok (.ireturn, 1) := by decide +kernel
theorem dX6_addLesson_0 : decode cX6_addLesson 0 = .ok (.aload_n 0, 1) := by decide +kernel
theorem dX6_addLesson_1 : decode cX6_addLesson 1 = .ok (.iconst 0, 1) := by decide +kernel
theorem dX6_addLesson_2 : decode cX6_addLesson 2 = .ok (.putfield 44, 3) := by decide +kernel
theorem dX6_addLesson_5 : decode cX6_addLesson 5 = .ok (.aload_n 0, 1) := by decide +kernel
theorem dX6_addLesson_6 : decode cX6_addLesson 6 = .ok (.invokevirtual 110, 3) := by decide +kernel
theorem dX6_addLesson_9 : decode cX6_addLesson 9 = .ok (.aload_n 0, 1) := by decide +kernel
theorem dX6_addLesson_10 : decode cX6_addLesson 10 = .ok (.iload_n 1, 1) := by decide +kernel
theorem dX6_addLesson_11 : decode cX6_addLesson 11 = .ok (.iload_n 2, 1) := by decide +kernel
theorem dX6_addLesson_12 : decode cX6_addLesson 12 = .ok (.iload_n 3, 1) := by decide +kernel
theorem dX6_addLesson_13 : decode cX6_addLesson 13 = .ok (.iload 4, 2) := by decide +kernel
theorem dX6_addLesson_15 : decode cX6_addLesson 15 = .ok (.iload 5, 2) := by decide +kernel
theorem dX6_addLesson_17 : decode cX6_addLesson 17 = .ok (.invokevirtual 149, 3) := by decide +kernel
theorem dX6_addLesson_20 : decode cX6_addLesson 20 = .ok (.istore 6, 2) := by decide +kernel
theorem dX6_addLesson_22 : decode cX6_addLesson 22 = .ok (.aload_n 0, 1) := by decide +kernel
theorem dX6_addLesson_23 : decode cX6_addLesson 23 = .ok (.getfield 44, 3) := by decide +kernel
theorem dX6_addLesson_26 : decode cX6_addLesson 26 = .ok (.ifCond .ne 7, 3) := by decide +kernel
theorem dX6_addLesson_29 : decode cX6_addLesson 29 = .ok (.aload_n 0, 1) := by decide +kernel
theorem dX6_addLesson_30 : decode cX6_addLesson 30 = .ok (.invokevirtual 116, 3) := by decide +kernel
theorem dX6_addLesson_33 : decode cX6_addLesson 33 = .ok (.iload 6, 2) := by decide +kernel
theorem dX6_addLesson_35 : decode cX6_addLesson 35 = .ok (.ireturn, 1) := by decide +kernel
theorem dX6_removeLesson_0 : decode cX6_removeLesson 0 = .ok (.aload_n 0, 1) := by decide +kernel
theorem dX6_removeLesson_1 : decode cX6_removeLesson 1 = .ok (.iconst 0, 1) := by decide +kernel
theorem dX6_removeLesson_2 : decode cX6_removeLesson 2 = .ok (.putfield 44, 3) := by decide +kernel
theorem dX6_removeLesson_5 : decode cX6_removeLesson 5 = .ok (.aload_n 0, 1) := by decide +kernel
theorem dX6_removeLesson_6 : decode cX6_removeLesson 6 = .ok (.iload_n 1, 1) := by decide +kernel
theorem dX6_removeLesson_7 : decode cX6_removeLesson 7 = .ok (.invokevirtual 153, 3) := by decide +kernel
theorem dX6_removeLesson_10 : decode cX6_removeLesson 10 = .ok (.ifCond .ne 9, 3) := by decide +kernel
theorem dX6_removeLesson_13 : decode cX6_removeLesson 13 = .ok (.aload_n 0, 1) := by decide +kernel
theorem dX6_removeLesson_14 : decode cX6_removeLesson 14 = .ok (.iconst 1, 1) := by decide +kernel
theorem dX6_removeLesson_15 : decode cX6_removeLesson 15 = .ok (.invokevirtual 107, 3) := by decide +kernel
theorem dX6_removeLesson_18 : decode cX6_removeLesson 18 = .ok (.ireturn, 1) := by decide +kernel
theorem dX6_removeLesson_19 : decode cX6_removeLesson 19 = .ok (.aload_n 0, 1) := by decide +kernel
theorem dX6_removeLesson_20 : decode cX6_removeLesson 20 = .ok (.invokevirtual 68, 3) := by decide +kernel
theorem dX6_removeLesson_23 : decode cX6_removeLesson 23 = .ok (.aload_n 0, 1) := by decide +kernel
theorem dX6_removeLesson_24 : decode cX6_removeLesson 24 = .ok (.iload_n 1, 1) := by decide +kernel
theorem dX6_removeLesson_25 : decode cX6_removeLesson 25 = .ok (.invokevirtual 98, 3) := by decide +kernel
theorem dX6_removeLesson_28 : decode cX6_removeLesson 28 = .ok (.pop, 1) := by decide +kernel
theorem dX6_removeLesson_29 : decode cX6_removeLesson 29 = .ok (.aload_n 0, 1) := by decide +kernel
theorem dX6_removeLesson_30 : decode cX6_removeLesson 30 = .ok (.iload_n 1, 1) := by decide +kernel
theorem dX6_removeLesson_31 : decode cX6_removeLesson 31 = .ok (.invokevirtual 156, 3) := by decide +kernel
theorem dX6_removeLesson_34 : decode cX6_removeLesson 34 = .ok (.pop, 1) := by decide +kernel
theorem dX6_removeLesson_35 : decode cX6_removeLesson 35 = .ok (.aload_n 0, 1) := by decide +kernel
theorem dX6_removeLesson_36 : decode cX6_removeLesson 36 = .ok (.getfield 9, 3) := by decide +kernel
theorem dX6_removeLesson_39 : decode cX6_removeLesson 39 = .ok (.iconst 1, 1) := by decide +kernel
theorem dX6_removeLesson_40 : decode cX6_removeLesson 40 = .ok (.dup2, 1) := by decide +kernel
theorem dX6_removeLesson_41 : decode cX6_removeLesson 41 = .ok (.iaload, 1) := by decide +kernel
theorem dX6_removeLesson_42 : decode cX6_removeLesson 42 = .ok (.iconst 1, 1) := by decide +kernel
theorem dX6_removeLesson_43 : decode cX6_removeLesson 43 = .ok (.isub, 1) := by decide +kernel
theorem dX6_removeLesson_44 : decode cX6_removeLesson 44 = .ok (.iastore, 1) := by decide +kernel
theorem dX6_removeLesson_45 : decode cX6_removeLesson 45 = .ok (.iload_n 1, 1) := by decide +kernel
theorem dX6_removeLesson_46 : decode cX6_removeLesson 46 = .ok (.invokestatic 47, 3) := by decide +kernel
theorem dX6_removeLesson_49 : decode cX6_removeLesson 49 = .ok (.istore_n 2, 1) := by decide +kernel
theorem dX6_removeLesson_50 : decode cX6_removeLesson 50 = .ok (.iload_n 2, 1) := by decide +kernel
theorem dX6_removeLesson_51 : decode cX6_removeLesson 51 = .ok (.aload_n 0, 1) := by decide +kernel
theorem dX6_removeLesson_52 : decode cX6_removeLesson 52 = .ok (.invokevirtual 54, 3) := by decide +kernel
theorem dX6_removeLesson_55 : decode cX6_removeLesson 55 = .ok (.invokestatic 47, 3) := by decide +kernel
theorem dX6_removeLesson_58 : decode cX6_removeLesson 58 = .ok (.if_icmp .ge 24, 3) := by decide +kernel
theorem dX6_removeLesson_61 : decode cX6_removeLesson 61 = .ok (.aload_n 0, 1) := by decide +kernel
theorem dX6_removeLesson_62 : decode cX6_removeLesson 62 = .ok (.getfield 9, 3) := by decide +kernel
theorem dX6_removeLesson_65 : decode cX6_removeLesson 65 = .ok (.iload_n 2, 1) := by decide +kernel
theorem dX6_removeLesson_66 : decode cX6_removeLesson 66 = .ok (.aload_n 0, 1) := by decide +kernel
theorem dX6_removeLesson_67 : decode cX6_removeLesson 67 = .ok (.getfield 9, 3) := by decide +kernel
theorem dX6_removeLesson_70 : decode cX6_removeLesson 70 = .ok (.iload_n 2, 1) := by decide +kernel
theorem dX6_removeLesson_71 : decode cX6_removeLesson 71 = .ok (.bipush 8, 2) := by decide +kernel
theorem dX6_removeLesson_73 : decode cX6_removeLesson 73 = .ok (.iadd, 1) := by decide +kernel
theorem dX6_removeLesson_74 : decode cX6_removeLesson 74 = .ok (.iaload, 1) := by decide +kernel
theorem dX6_removeLesson_75 : decode cX6_removeLesson 75 = .ok (.iastore, 1) := by decide +kernel
theorem dX6_removeLesson_76 : decode cX6_removeLesson 76 = .ok (.iinc 2 1, 3) := by decide +kernel
theorem dX6_removeLesson_79 : decode cX6_removeLesson 79 = .ok (.goto (-29), 3) := by decide +kernel
theorem dX6_removeLesson_82 : decode cX6_removeLesson 82 = .ok (.iconst 0, 1) := by decide +kernel
theorem dX6_removeLesson_83 : decode cX6_removeLesson 83 = .ok (.istore_n 2, 1) := by decide +kernel
theorem dX6_removeLesson_84 : decode cX6_removeLesson 84 = .ok (.iload_n 2, 1) := by decide +kernel
theorem dX6_removeLesson_85 : decode cX6_removeLesson 85 = .ok (.aload_n 0, 1) := by decide +kernel
theorem dX6_removeLesson_86 : decode cX6_removeLesson 86 = .ok (.invokevirtual 54, 3) := by decide +kernel
theorem dX6_removeLesson_89 : decode cX6_removeLesson 89 = .ok (.if_icmp .ge 63, 3) := by decide +kernel
theorem dX6_removeLesson_92 : decode cX6_removeLesson 92 = .ok (.aload_n 0, 1) := by decide +kernel
theorem dX6_removeLesson_93 : decode cX6_removeLesson 93 = .ok (.iload_n 2, 1) := by decide +kernel
theorem dX6_removeLesson_94 : decode cX6_removeLesson 94 = .ok (.bipush 6, 2) := by decide +kernel
theorem dX6_removeLesson_96 : decode cX6_removeLesson 96 = .ok (.invokevirtual 78, 3) := by decide +kernel
theorem dX6_removeLesson_99 : decode cX6_removeLesson 99 = .ok (.iload_n 1, 1) := by decide +kernel
theorem dX6_removeLesson_100 : decode cX6_removeLesson 100 = .ok (.if_icmp .le 19, 3) := by decide +kernel
theorem dX6_removeLesson_103 : decode cX6_removeLesson 103 = .ok (.aload_n 0, 1) := by decide +kernel
theorem dX6_removeLesson_104 : decode cX6_removeLesson 104 = .ok (.getfield 9, 3) := by decide +kernel
theorem dX6_removeLesson_107 : decode cX6_removeLesson 107 = .ok (.iload_n 2, 1) := by decide +kernel
theorem dX6_removeLesson_108 : decode cX6_removeLesson 108 = .ok (.invokestatic 47, 3) := by decide +kernel
theorem dX6_removeLesson_111 : decode cX6_removeLesson 111 = .ok (.bipush 6, 2) := by decide +kernel
theorem dX6_removeLesson_113 : decode cX6_removeLesson 113 = .ok (.iadd, 1) := by decide +kernel
theorem dX6_removeLesson_114 : decode cX6_removeLesson 114 = .ok (.dup2, 1) := by decide +kernel
theorem dX6_removeLesson_115 : decode cX6_removeLesson 115 = .ok (.iaload, 1) := by decide +kernel
theorem dX6_removeLesson_116 : decode cX6_removeLesson 116 = .ok (.iconst 1, 1) := by decide +kernel
theorem dX6_removeLesson_117 : decode cX6_removeLesson 117 = .ok (.isub, 1) := by decide +kernel
theorem dX6_removeLesson_118 : decode cX6_removeLesson 118 = .ok (.iastore, 1) := by decide +kernel
theorem dX6_removeLesson_119 : decode cX6_removeLesson 119 = .ok (.aload_n 0, 1) := by decide +kernel
theorem dX6_removeLesson_120 : decode cX6_removeLesson 120 = .ok (.iload_n 2, 1) := by decide +kernel
theorem dX6_removeLesson_121 : decode cX6_removeLesson 121 = .ok (.bipush 7, 2) := by decide +kernel
theorem dX6_removeLesson_123 : decode cX6_removeLesson 123 = .ok (.invokevirtual 78, 3) := by decide +kernel
theorem dX6_removeLesson_126 : decode cX6_removeLesson 126 = .ok (.iload_n 1, 1) := by decide +kernel
theorem dX6_removeLesson_127 : decode cX6_removeLesson 127 = .ok (.if_icmp .le 19, 3) := by decide +kernel
theorem dX6_removeLesson_130 : decode cX6_removeLesson 130 = .ok (.aload_n 0, 1) := by decide +kernel
theorem dX6_removeLesson_131 : decode cX6_removeLesson 131 = .ok (.getfield 9, 3) := by decide +kernel
theorem dX6_removeLesson_134 : decode cX6_removeLesson 134 = .ok (.iload_n 2, 1) := by decide +kernel
theorem dX6_removeLesson_135 : decode cX6_removeLesson 135 = .ok (.invokestatic 47, 3) := by decide +kernel
theorem dX6_removeLesson_138 : decode cX6_removeLesson 138 = .ok (.bipush 7, 2) := by decide +kernel
theorem dX6_removeLesson_140 : decode cX6_removeLesson 140 = .ok (.iadd, 1) := by decide +kernel
theorem dX6_removeLesson_141 : decode cX6_removeLesson 141 = .ok (.dup2, 1) := by decide +kernel
theorem dX6_removeLesson_142 : decode cX6_removeLesson 142 = .ok (.iaload, 1) := by decide +kernel
theorem dX6_removeLesson_143 : decode cX6_removeLesson 143 = .ok (.iconst 1, 1) := by decide +kernel
theorem dX6_removeLesson_144 : decode cX6_removeLesson 144 = .ok (.isub, 1) := by decide +kernel
theorem dX6_removeLesson_145 : decode cX6_removeLesson 145 = .ok (.iastore, 1) := by decide +kernel
theorem dX6_removeLesson_146 : decode cX6_removeLesson 146 = .ok (.iinc 2 1, 3) := by decide +kernel
theorem dX6_removeLesson_149 : decode cX6_removeLesson 149 = .ok (.goto (-65), 3) := by decide +kernel
theorem dX6_removeLesson_152 : decode cX6_removeLesson 152 = .ok (.aload_n 0, 1) := by decide +kernel
theorem dX6_removeLesson_153 : decode cX6_removeLesson 153 = .ok (.invokevirtual 54, 3) := by decide +kernel
theorem dX6_removeLesson_156 : decode cX6_removeLesson 156 = .ok (.ireturn, 1) := by decide +kernel
theorem dX6_setRoom_0 : decode cX6_setRoom 0 = .ok (.aload_n 0, 1) := by decide +kernel
theorem dX6_setRoom_1 : decode cX6_setRoom 1 = .ok (.iconst 0, 1) := by decide +kernel
theorem dX6_setRoom_2 : decode cX6_setRoom 2 = .ok (.putfield 44, 3) := by decide +kernel
theorem dX6_setRoom_5 : decode cX6_setRoom 5 = .ok (.aload_n 0, 1) := by decide +kernel
theorem dX6_setRoom_6 : decode cX6_setRoom 6 = .ok (.iload_n 1, 1) := by decide +kernel
theorem dX6_setRoom_7 : decode cX6_setRoom 7 = .ok (.invokevirtual 153, 3) := by decide +kernel
theorem dX6_setRoom_10 : decode cX6_setRoom 10 = .ok (.ifCond .ne 9, 3) := by decide +kernel
theorem dX6_setRoom_13 : decode cX6_setRoom 13 = .ok (.aload_n 0, 1) := by decide +kernel
theorem dX6_setRoom_14 : decode cX6_setRoom 14 = .ok (.iconst 1, 1) := by decide +kernel
theorem dX6_setRoom_15 : decode cX6_setRoom 15 = .ok (.invokevirtual 107, 3) := by decide +kernel
theorem dX6_setRoom_18 : decode cX6_setRoom 18 = .ok (.ireturn, 1) := by decide +kernel
theorem dX6_setRoom_19 : decode cX6_setRoom 19 = .ok (.iload_n 2, 1) := by decide +kernel
theorem dX6_setRoom_20 : decode cX6_setRoom 20 = .ok (.invokestatic 129, 3) := by decide +kernel
theorem dX6_setRoom_23 : decode cX6_setRoom 23 = .ok (.ifCond .ne 9, 3) := by decide +kernel
theorem dX6_setRoom_26 : decode cX6_setRoom 26 = .ok (.aload_n 0, 1) := by decide +kernel
theorem dX6_setRoom_27 : decode cX6_setRoom 27 = .ok (.iconst 2, 1) := by decide +kernel
theorem dX6_setRoom_28 : decode cX6_setRoom 28 = .ok (.invokevirtual 107, 3) := by decide +kernel
theorem dX6_setRoom_31 : decode cX6_setRoom 31 = .ok (.ireturn, 1) := by decide +kernel
theorem dX6_setRoom_32 : decode cX6_setRoom 32 = .ok (.iconst 0, 1) := by decide +kernel
theorem dX6_setRoom_33 : decode cX6_setRoom 33 = .ok (.istore_n 3, 1) := by decide +kernel
theorem dX6_setRoom_34 : decode cX6_setRoom 34 = .ok (.iload_n 3, 1) := by decide +kernel
theorem dX6_setRoom_35 : decode cX6_setRoom 35 = .ok (.aload_n 0, 1) := by decide +kernel
theorem dX6_setRoom_36 : decode cX6_setRoom 36 = .ok (.invokevirtual 54, 3) := by decide +kernel
theorem dX6_setRoom_39 : decode cX6_setRoom 39 = .ok (.if_icmp .ge 45, 3) := by decide +kernel
theorem dX6_setRoom_42 : decode cX6_setRoom 42 = .ok (.iload_n 3, 1) := by decide +kernel
theorem dX6_setRoom_43 : decode cX6_setRoom 43 = .ok (.iload_n 1, 1) := by decide +kernel
theorem dX6_setRoom_44 : decode cX6_setRoom 44 = .ok (.if_icmp .eq 34, 3) := by decide +kernel
theorem dX6_setRoom_47 : decode cX6_setRoom 47 = .ok (.aload_n 0, 1) := by decide +kernel
theorem dX6_setRoom_48 : decode cX6_setRoom 48 = .ok (.iload_n 3, 1) := by decide +kernel
theorem dX6_setRoom_49 : decode cX6_setRoom 49 = .ok (.iconst 0, 1) := by decide +kernel
theorem dX6_setRoom_50 : decode cX6_setRoom 50 = .ok (.invokevirtual 78, 3) := by decide +kernel
theorem dX6_setRoom_53 : decode cX6_setRoom 53 = .ok (.aload_n 0, 1) := by decide +kernel
theorem dX6_setRoom_54 : decode cX6_setRoom 54 = .ok (.iload_n 1, 1) := by decide +kernel
theorem dX6_setRoom_55 : decode cX6_setRoom 55 = .ok (.iconst 0, 1) := by decide +kernel
theorem dX6_setRoom_56 : decode cX6_setRoom 56 = .ok (.invokevirtual 78, 3) := by decide +kernel
theorem dX6_setRoom_59 : decode cX6_setRoom 59 = .ok (.if_icmp .ne 19, 3) := by decide +kernel
theorem dX6_setRoom_62 : decode cX6_setRoom 62 = .ok (.aload_n 0, 1) := by decide +kernel
theorem dX6_setRoom_63 : decode cX6_setRoom 63 = .ok (.iload_n 3, 1) := by decide +kernel
theorem dX6_setRoom_64 : decode cX6_setRoom 64 = .ok (.iconst 4, 1) := by decide +kernel
theorem dX6_setRoom_65 : decode cX6_setRoom 65 = .ok (.invokevirtual 78, 3) := by decide +kernel
theorem dX6_setRoom_68 : decode cX6_setRoom 68 = .ok (.iload_n 2, 1) := by decide +kernel
theorem dX6_setRoom_69 : decode cX6_setRoom 69 = .ok (.if_icmp .ne 9, 3) := by decide +kernel
theorem dX6_setRoom_72 : decode cX6_setRoom 72 = .ok (.aload_n 0, 1) := by decide +kernel
theorem dX6_setRoom_73 : decode cX6_setRoom 73 = .ok (.iconst 3, 1) := by decide +kernel
theorem dX6_setRoom_74 : decode cX6_setRoom 74 = .ok (.invokevirtual 107, 3) := by decide +kernel
theorem dX6_setRoom_77 : decode cX6_setRoom 77 = .ok (.ireturn, 1) := by decide +kernel
theorem dX6_setRoom_78 : decode cX6_setRoom 78 = .ok (.iinc 3 1, 3) := by decide +kernel
theorem dX6_setRoom_81 : decode cX6_setRoom 81 = .ok (.goto (-47), 3) := by decide +kernel
theorem dX6_setRoom_84 : decode cX6_setRoom 84 = .ok (.aload_n 0, 1) := by decide +kernel
theorem dX6_setRoom_85 : decode cX6_setRoom 85 = .ok (.iload_n 1, 1) := by decide +kernel
theorem dX6_setRoom_86 : decode cX6_setRoom 86 = .ok (.invokevirtual 126, 3) := by decide +kernel
theorem dX6_setRoom_89 : decode cX6_setRoom 89 = .ok (.aload_n 0, 1) := by decide +kernel
theorem dX6_setRoom_90 : decode cX6_setRoom 90 = .ok (.getfield 9, 3) := by decide +kernel
theorem dX6_setRoom_93 : decode cX6_setRoom 93 = .ok (.bipush 10, 2) := by decide +kernel
theorem dX6_setRoom_95 : decode cX6_setRoom 95 = .ok (.iload_n 2, 1) := by decide +kernel
theorem dX6_setRoom_96 : decode cX6_setRoom 96 = .ok (.iadd, 1) := by decide +kernel
theorem dX6_setRoom_97 : decode cX6_setRoom 97 = .ok (.iaload, 1) := by decide +kernel
theorem dX6_setRoom_98 : decode cX6_setRoom 98 = .ok (.if_icmp .le 11, 3) := by decide +kernel
theorem dX6_setRoom_101 : decode cX6_setRoom 101 = .ok (.aload_n 0, 1) := by decide +kernel
theorem dX6_setRoom_102 : decode cX6_setRoom 102 = .ok (.iconst 3, 1) := by decide +kernel
theorem dX6_setRoom_103 : decode cX6_setRoom 103 = .ok (.invokevirtual 107, 3) := by decide +kernel
theorem dX6_setRoom_106 : decode cX6_setRoom 106 = .ok (.goto 14, 3) := by decide +kernel
theorem dX6_setRoom_109 : decode cX6_setRoom 109 = .ok (.aload_n 0, 1) := by decide +kernel
theorem dX6_setRoom_110 : decode cX6_setRoom 110 = .ok (.iload_n 1, 1) := by decide +kernel
theorem dX6_setRoom_111 : decode cX6_setRoom 111 = .ok (.invokestatic 47, 3) := by decide +kernel
theorem dX6_setRoom_114 : decode cX6_setRoom 114 = .ok (.iconst 4, 1) := by decide +kernel
theorem dX6_setRoom_115 : decode cX6_setRoom 115 = .ok (.iadd, 1) := by decide +kernel
theorem dX6_setRoom_116 : decode cX6_setRoom 116 = .ok (.iload_n 2, 1) := by decide +kernel
theorem dX6_setRoom_117 : decode cX6_setRoom 117 = .ok (.invokevirtual 123, 3) := by decide +kernel
theorem dX6_setRoom_120 : decode cX6_setRoom 120 = .ok (.ireturn, 1) := by decide +kernel
theorem dX6_count_0 : decode cX6_count 0 = .ok (.aload_n 0, 1) := by decide +kernel
theorem dX6_count_1 : decode cX6_count 1 = .ok (.iconst 0, 1) := by decide +kernel
theorem dX6_count_2 : decode cX6_count 2 = .ok (.putfield 44, 3) := by decide +kernel
theorem dX6_count_5 : decode cX6_count 5 = .ok (.iload_n 1, 1) := by decide +kernel
theorem dX6_count_6 : decode cX6_count 6 = .ok (.iconst 0, 1) := by decide +kernel
theorem dX6_count_7 : decode cX6_count 7 = .ok (.bipush 7, 2) := by decide +kernel
theorem dX6_count_9 : decode cX6_count 9 = .ok (.invokestatic 58, 3) := by decide +kernel
theorem dX6_count_12 : decode cX6_count 12 = .ok (.ifCond .ne 9, 3) := by decide +kernel
theorem dX6_count_15 : decode cX6_count 15 = .ok (.aload_n 0, 1) := by decide +kernel
theorem dX6_count_16 : decode cX6_count 16 = .ok (.iconst 1, 1) := by decide +kernel
theorem dX6_count_17 : decode cX6_count 17 = .ok (.invokevirtual 107, 3) := by decide +kernel
theorem dX6_count_20 : decode cX6_count 20 = .ok (.ireturn, 1) := by decide +kernel
theorem dX6_count_21 : decode cX6_count 21 = .ok (.iload_n 1, 1) := by decide +kernel
theorem dX6_count_22 : decode cX6_count 22 = .ok (.iconst 2, 1) := by decide +kernel
theorem dX6_count_23 : decode cX6_count 23 = .ok (.if_icmp .ge 10, 3) := by decide +kernel
theorem dX6_count_26 : decode cX6_count 26 = .ok (.aload_n 0, 1) := by decide +kernel
theorem dX6_count_27 : decode cX6_count 27 = .ok (.getfield 9, 3) := by decide +kernel
theorem dX6_count_30 : decode cX6_count 30 = .ok (.iload_n 1, 1) := by decide +kernel
theorem dX6_count_31 : decode cX6_count 31 = .ok (.iaload, 1) := by decide +kernel
theorem dX6_count_32 : decode cX6_count 32 = .ok (.ireturn, 1) := by decide +kernel
theorem dX6_count_33 : decode cX6_count 33 = .ok (.iload_n 1, 1) := by decide +kernel
theorem dX6_count_34 : decode cX6_count 34 = .ok (.iconst 5, 1) := by decide +kernel
theorem dX6_count_35 : decode cX6_count 35 = .ok (.if_icmp .le 15, 3) := by decide +kernel
theorem dX6_count_38 : decode cX6_count 38 = .ok (.aload_n 0, 1) := by decide +kernel
theorem dX6_count_39 : decode cX6_count 39 = .ok (.getfield 9, 3) := by decide +kernel
theorem dX6_count_42 : decode cX6_count 42 = .ok (.iconst 2, 1) := by decide +kernel
theorem dX6_count_43 : decode cX6_count 43 = .ok (.iload_n 1, 1) := by decide +kernel
theorem dX6_count_44 : decode cX6_count 44 = .ok (.iadd, 1) := by decide +kernel
theorem dX6_count_45 : decode cX6_count 45 = .ok (.bipush 6, 2) := by decide +kernel
theorem dX6_count_47 : decode cX6_count 47 = .ok (.isub, 1) := by decide +kernel
theorem dX6_count_48 : decode cX6_count 48 = .ok (.iaload, 1) := by decide +kernel
theorem dX6_count_49 : decode cX6_count 49 = .ok (.ireturn, 1) := by decide +kernel
theorem dX6_count_50 : decode cX6_count 50 = .ok (.iconst 0, 1) := by decide +kernel
theorem dX6_count_51 : decode cX6_count 51 = .ok (.istore_n 2, 1) := by decide +kernel
theorem dX6_count_52 : decode cX6_count 52 = .ok (.iconst 0, 1) := by decide +kernel
theorem dX6_count_53 : decode cX6_count 53 = .ok (.istore_n 3, 1) := by decide +kernel
theorem dX6_count_54 : decode cX6_count 54 = .ok (.iload_n 3, 1) := by decide +kernel
theorem dX6_count_55 : decode cX6_count 55 = .ok (.aload_n 0, 1) := by decide +kernel
theorem dX6_count_56 : decode cX6_count 56 = .ok (.invokevirtual 54, 3) := by decide +kernel
theorem dX6_count_59 : decode cX6_count 59 = .ok (.if_icmp .ge 23, 3) := by decide +kernel
theorem dX6_count_62 : decode cX6_count 62 = .ok (.aload_n 0, 1) := by decide +kernel
theorem dX6_count_63 : decode cX6_count 63 = .ok (.iload_n 3, 1) := by decide +kernel
theorem dX6_count_64 : decode cX6_count 64 = .ok (.invokevirtual 84, 3) := by decide +kernel
theorem dX6_count_67 : decode cX6_count 67 = .ok (.iload_n 1, 1) := by decide +kernel
theorem dX6_count_68 : decode cX6_count 68 = .ok (.iconst 2, 1) := by decide +kernel
theorem dX6_count_69 : decode cX6_count 69 = .ok (.isub, 1) := by decide +kernel
theorem dX6_count_70 : decode cX6_count 70 = .ok (.if_icmp .ne 6, 3) := by decide +kernel
theorem dX6_count_73 : decode cX6_count 73 = .ok (.iinc 2 1, 3) := by decide +kernel
theorem dX6_count_76 : decode cX6_count 76 = .ok (.iinc 3 1, 3) := by decide +kernel
theorem dX6_count_79 : decode cX6_count 79 = .ok (.goto (-25), 3) := by decide +kernel
theorem dX6_count_82 : decode cX6_count 82 = .ok (.iload_n 2, 1) := by decide +kernel
theorem dX6_count_83 : decode cX6_count 83 = .ok (.ireturn, 1) := by decide +kernel
theorem dX6_lesson_0 : decode cX6_lesson 0 = .ok (.aload_n 0, 1) := by decide +kernel
theorem dX6_lesson_1 : decode cX6_lesson 1 = .ok (.iconst 0, 1) := by decide +kernel
theorem dX6_lesson_2 : decode cX6_lesson 2 = .ok (.putfield 44, 3) := by decide +kernel
theorem dX6_lesson_5 : decode cX6_lesson 5 = .ok (.aload_n 0, 1) := by decide +kernel
theorem dX6_lesson_6 : decode cX6_lesson 6 = .ok (.iload_n 1, 1) := by decide +kernel
theorem dX6_lesson_7 : decode cX6_lesson 7 = .ok (.invokevirtual 153, 3) := by decide +kernel
theorem dX6_lesson_10 : decode cX6_lesson 10 = .ok (.ifCond .ne 9, 3) := by decide +kernel
theorem dX6_lesson_13 : decode cX6_lesson 13 = .ok (.aload_n 0, 1) := by decide +kernel
theorem dX6_lesson_14 : decode cX6_lesson 14 = .ok (.iconst 1, 1) := by decide +kernel
theorem dX6_lesson_15 : decode cX6_lesson 15 = .ok (.invokevirtual 107, 3) := by decide +kernel
theorem dX6_lesson_18 : decode cX6_lesson 18 = .ok (.ireturn, 1) := by decide +kernel
theorem dX6_lesson_19 : decode cX6_lesson 19 = .ok (.iload_n 2, 1) := by decide +kernel
theorem dX6_lesson_20 : decode cX6_lesson 20 = .ok (.tableswitch 46 5 7 #[28, 34, 40], 28) := by decide +kernel
theorem dX6_lesson_48 : decode cX6_lesson 48 = .ok (.aload_n 0, 1) := by decide +kernel
theorem dX6_lesson_49 : decode cX6_lesson 49 = .ok (.iload_n 1, 1) := by decide +kernel
theorem dX6_lesson_50 : decode cX6_lesson 50 = .ok (.invokevirtual 84, 3) := by decide +kernel
theorem dX6_lesson_53 : decode cX6_lesson 53 = .ok (.ireturn, 1) := by decide +kernel
theorem dX6_lesson_54 : decode cX6_lesson 54 = .ok (.aload_n 0, 1) := by decide +kernel
theorem dX6_lesson_55 : decode cX6_lesson 55 = .ok (.iload_n 1, 1) := by decide +kernel
theorem dX6_lesson_56 : decode cX6_lesson 56 = .ok (.invokevirtual 87, 3) := by decide +kernel
theorem dX6_lesson_59 : decode cX6_lesson 59 = .ok (.ireturn, 1) := by decide +kernel
theorem dX6_lesson_60 : decode cX6_lesson 60 = .ok (.aload_n 0, 1) := by decide +kernel
theorem dX6_lesson_61 : decode cX6_lesson 61 = .ok (.iload_n 1, 1) := by decide +kernel
theorem dX6_lesson_62 : decode cX6_lesson 62 = .ok (.invokevirtual 126, 3) := by decide +kernel
theorem dX6_lesson_65 : decode cX6_lesson 65 = .ok (.ireturn, 1) := by decide +kernel
theorem dX6_lesson_66 : decode cX6_lesson 66 = .ok (.iload_n 2, 1) := by decide +kernel
theorem dX6_lesson_67 : decode cX6_lesson 67 = .ok (.iconst 0, 1) := by decide +kernel
theorem dX6_lesson_68 : decode cX6_lesson 68 = .ok (.iconst 4, 1) := by decide +kernel
theorem dX6_lesson_69 : decode cX6_lesson 69 = .ok (.invokestatic 58, 3) := by decide +kernel
theorem dX6_lesson_72 : decode cX6_lesson 72 = .ok (.ifCond .eq 12, 3) := by decide +kernel
theorem dX6_lesson_75 : decode cX6_lesson 75 = .ok (.aload_n 0, 1) := by decide +kernel
theorem dX6_lesson_76 : decode cX6_lesson 76 = .ok (.iload_n 1, 1) := by decide +kernel
theorem dX6_lesson_77 : decode cX6_lesson 77 = .ok (.iload_n 2, 1) := by decide +kernel
theorem dX6_lesson_78 : decode cX6_lesson 78 = .ok (.invokevirtual 78, 3) := by decide +kernel
theorem dX6_lesson_81 : decode cX6_lesson 81 = .ok (.goto 8, 3) := by decide +kernel
theorem dX6_lesson_84 : decode cX6_lesson 84 = .ok (.aload_n 0, 1) := by decide +kernel
theorem dX6_lesson_85 : decode cX6_lesson 85 = .ok (.iconst 2, 1) := by decide +kernel
theorem dX6_lesson_86 : decode cX6_lesson 86 = .ok (.invokevirtual 107, 3) := by decide +kernel
theorem dX6_lesson_89 : decode cX6_lesson 89 = .ok (.ireturn, 1) := by decide +kernel
theorem dX6_share_0 : decode cX6_share 0 = .ok (.bipush 12, 2) := by decide +kernel
theorem dX6_share_2 : decode cX6_share 2 = .ok (.iload_n 2, 1) := by decide +kernel
theorem dX6_share_3 : decode cX6_share 3 = .ok (.imul, 1) := by decide +kernel
theorem dX6_share_4 : decode cX6_share 4 = .ok (.aload_n 0, 1) := by decide +kernel
theorem dX6_share_5 : decode cX6_share 5 = .ok (.iload_n 1, 1) := by decide +kernel
theorem dX6_share_6 : decode cX6_share 6 = .ok (.iconst 1, 1) := by decide +kernel
theorem dX6_share_7 : decode cX6_share 7 = .ok (.invokevirtual 70, 3) := by decide +kernel
theorem dX6_share_10 : decode cX6_share 10 = .ok (.idiv, 1) := by decide +kernel
theorem dX6_share_11 : decode cX6_share 11 = .ok (.ireturn, 1) := by decide +kernel
theorem dX6_lessonsOf_0 : decode cX6_lessonsOf 0 = .ok (.iconst 0, 1) := by decide +kernel
theorem dX6_lessonsOf_1 : decode cX6_lessonsOf 1 = .ok (.istore_n 3, 1) := by decide +kernel
theorem dX6_lessonsOf_2 : decode cX6_lessonsOf 2 = .ok (.iconst 0, 1) := by decide +kernel
theorem dX6_lessonsOf_3 : decode cX6_lessonsOf 3 = .ok (.istore 4, 2) := by decide +kernel
theorem dX6_lessonsOf_5 : decode cX6_lessonsOf 5 = .ok (.iload 4, 2) := by decide +kernel
theorem dX6_lessonsOf_7 : decode cX6_lessonsOf 7 = .ok (.aload_n 0, 1) := by decide +kernel
theorem dX6_lessonsOf_8 : decode cX6_lessonsOf 8 = .ok (.invokevirtual 54, 3) := by decide +kernel
theorem dX6_lessonsOf_11 : decode cX6_lessonsOf 11 = .ok (.if_icmp .ge 57, 3) := by decide +kernel
theorem dX6_lessonsOf_14 : decode cX6_lessonsOf 14 = .ok (.iload_n 2, 1) := by decide +kernel
theorem dX6_lessonsOf_15 : decode cX6_lessonsOf 15 = .ok (.bipush 6, 2) := by decide +kernel
theorem dX6_lessonsOf_17 : decode cX6_lessonsOf 17 = .ok (.if_icmp .ne 17, 3) := by decide +kernel
theorem dX6_lessonsOf_20 : decode cX6_lessonsOf 20 = .ok (.aload_n 0, 1) := by decide +kernel
theorem dX6_lessonsOf_21 : decode cX6_lessonsOf 21 = .ok (.iload 4, 2) := by decide +kernel
theorem dX6_lessonsOf_23 : decode cX6_lessonsOf 23 = .ok (.iconst 5, 1) := by decide +kernel
theorem dX6_lessonsOf_24 : decode cX6_lessonsOf 24 = .ok (.invokevirtual 78, 3) := by decide +kernel
theorem dX6_lessonsOf_27 : decode cX6_lessonsOf 27 = .ok (.iload_n 1, 1) := by decide +kernel
theorem dX6_lessonsOf_28 : decode cX6_lessonsOf 28 = .ok (.if_icmp .ne 34, 3) := by decide +kernel
theorem dX6_lessonsOf_31 : decode cX6_lessonsOf 31 = .ok (.goto 28, 3) := by decide +kernel
theorem dX6_lessonsOf_34 : decode cX6_lessonsOf 34 = .ok (.aload_n 0, 1) := by decide +kernel
theorem dX6_lessonsOf_35 : decode cX6_lessonsOf 35 = .ok (.iload 4, 2) := by decide +kernel
theorem dX6_lessonsOf_37 : decode cX6_lessonsOf 37 = .ok (.iconst 3, 1) := by decide +kernel
theorem dX6_lessonsOf_38 : decode cX6_lessonsOf 38 = .ok (.invokevirtual 78, 3) := by decide +kernel
theorem dX6_lessonsOf_41 : decode cX6_lessonsOf 41 = .ok (.iload_n 1, 1) := by decide +kernel
theorem dX6_lessonsOf_42 : decode cX6_lessonsOf 42 = .ok (.if_icmp .ne 20, 3) := by decide +kernel
theorem dX6_lessonsOf_45 : decode cX6_lessonsOf 45 = .ok (.iload_n 2, 1) := by decide +kernel
theorem dX6_lessonsOf_46 : decode cX6_lessonsOf 46 = .ok (.iconst 5, 1) := by decide +kernel
theorem dX6_lessonsOf_47 : decode cX6_lessonsOf 47 = .ok (.if_icmp .eq 12, 3) := by decide +kernel
theorem dX6_lessonsOf_50 : decode cX6_lessonsOf 50 = .ok (.aload_n 0, 1) := by decide +kernel
theorem dX6_lessonsOf_51 : decode cX6_lessonsOf 51 = .ok (.iload 4, 2) := by decide +kernel
theorem dX6_lessonsOf_53 : decode cX6_lessonsOf 53 = .ok (.invokevirtual 84, 3) := by decide +kernel
theorem dX6_lessonsOf_56 : decode cX6_lessonsOf 56 = .ok (.ifCond .eq 6, 3) := by decide +kernel
theorem dX6_lessonsOf_59 : decode cX6_lessonsOf 59 = .ok (.iinc 3 1, 3) := by decide +kernel
theorem dX6_lessonsOf_62 : decode cX6_lessonsOf 62 = .ok (.iinc 4 1, 3) := by decide +kernel
theorem dX6_lessonsOf_65 : decode cX6_lessonsOf 65 = .ok (.goto (-60), 3) := by decide +kernel
theorem dX6_lessonsOf_68 : decode cX6_lessonsOf 68 = .ok (.iload_n 3, 1) := by decide +kernel
theorem dX6_lessonsOf_69 : decode cX6_lessonsOf 69 = .ok (.ireturn, 1) := by decide +kernel
theorem dX6_teacher_0 : decode cX6_teacher 0 = .ok (.aload_n 0, 1) := by decide +kernel
theorem dX6_teacher_1 : decode cX6_teacher 1 = .ok (.iconst 0, 1) := by decide +kernel
theorem dX6_teacher_2 : decode cX6_teacher 2 = .ok (.putfield 44, 3) := by decide +kernel
theorem dX6_teacher_5 : decode cX6_teacher 5 = .ok (.aload_n 0, 1) := by decide +kernel
theorem dX6_teacher_6 : decode cX6_teacher 6 = .ok (.iload_n 1, 1) := by decide +kernel
theorem dX6_teacher_7 : decode cX6_teacher 7 = .ok (.invokevirtual 119, 3) := by decide +kernel
theorem dX6_teacher_10 : decode cX6_teacher 10 = .ok (.ifCond .ne 9, 3) := by decide +kernel
theorem dX6_teacher_13 : decode cX6_teacher 13 = .ok (.aload_n 0, 1) := by decide +kernel
theorem dX6_teacher_14 : decode cX6_teacher 14 = .ok (.iconst 1, 1) := by decide +kernel
theorem dX6_teacher_15 : decode cX6_teacher 15 = .ok (.invokevirtual 107, 3) := by decide +kernel
theorem dX6_teacher_18 : decode cX6_teacher 18 = .ok (.ireturn, 1) := by decide +kernel
theorem dX6_teacher_19 : decode cX6_teacher 19 = .ok (.iload_n 2, 1) := by decide +kernel
theorem dX6_teacher_20 : decode cX6_teacher 20 = .ok (.iconst 0, 1) := by decide +kernel
theorem dX6_teacher_21 : decode cX6_teacher 21 = .ok (.bipush 7, 2) := by decide +kernel
theorem dX6_teacher_23 : decode cX6_teacher 23 = .ok (.invokestatic 58, 3) := by decide +kernel
theorem dX6_teacher_26 : decode cX6_teacher 26 = .ok (.ifCond .ne 9, 3) := by decide +kernel
theorem dX6_teacher_29 : decode cX6_teacher 29 = .ok (.aload_n 0, 1) := by decide +kernel
theorem dX6_teacher_30 : decode cX6_teacher 30 = .ok (.iconst 2, 1) := by decide +kernel
theorem dX6_teacher_31 : decode cX6_teacher 31 = .ok (.invokevirtual 107, 3) := by decide +kernel
theorem dX6_teacher_34 : decode cX6_teacher 34 = .ok (.ireturn, 1) := by decide +kernel
theorem dX6_teacher_35 : decode cX6_teacher 35 = .ok (.iload_n 2, 1) := by decide +kernel
theorem dX6_teacher_36 : decode cX6_teacher 36 = .ok (.iconst 3, 1) := by decide +kernel
theorem dX6_teacher_37 : decode cX6_teacher 37 = .ok (.if_icmp .ge 10, 3) := by decide +kernel
theorem dX6_teacher_40 : decode cX6_teacher 40 = .ok (.aload_n 0, 1) := by decide +kernel
theorem dX6_teacher_41 : decode cX6_teacher 41 = .ok (.iload_n 1, 1) := by decide +kernel
theorem dX6_teacher_42 : decode cX6_teacher 42 = .ok (.iload_n 2, 1) := by decide +kernel
theorem dX6_teacher_43 : decode cX6_teacher 43 = .ok (.invokevirtual 70, 3) := by decide +kernel
theorem dX6_teacher_46 : decode cX6_teacher 46 = .ok (.ireturn, 1) := by decide +kernel
theorem dX6_teacher_47 : decode cX6_teacher 47 = .ok (.iload_n 2, 1) := by decide +kernel
theorem dX6_teacher_48 : decode cX6_teacher 48 = .ok (.iconst 3, 1) := by decide +kernel
theorem dX6_teacher_49 : decode cX6_teacher 49 = .ok (.if_icmp .ne 12, 3) := by decide +kernel
theorem dX6_teacher_52 : decode cX6_teacher 52 = .ok (.aload_n 0, 1) := by decide +kernel
theorem dX6_teacher_53 : decode cX6_teacher 53 = .ok (.iload_n 1, 1) := by decide +kernel
theorem dX6_teacher_54 : decode cX6_teacher 54 = .ok (.iconst 4, 1) := by decide +kernel
theorem dX6_teacher_55 : decode cX6_teacher 55 = .ok (.invokevirtual 70, 3) := by decide +kernel
theorem dX6_teacher_58 : decode cX6_teacher 58 = .ok (.goto 28, 3) := by decide +kernel
theorem dX6_teacher_61 : decode cX6_teacher 61 = .ok (.iload_n 2, 1) := by decide +kernel
theorem dX6_teacher_62 : decode cX6_teacher 62 = .ok (.iconst 4, 1) := by decide +kernel
theorem dX6_teacher_63 : decode cX6_teacher 63 = .ok (.if_icmp .ne 17, 3) := by decide +kernel
theorem dX6_teacher_66 : decode cX6_teacher 66 = .ok (.aload_n 0, 1) := by decide +kernel
theorem dX6_teacher_67 : decode cX6_teacher 67 = .ok (.iload_n 1, 1) := by decide +kernel
theorem dX6_teacher_68 : decode cX6_teacher 68 = .ok (.aload_n 0, 1) := by decide +kernel
theorem dX6_teacher_69 : decode cX6_teacher 69 = .ok (.iload_n 1, 1) := by decide +kernel
theorem dX6_teacher_70 : decode cX6_teacher 70 = .ok (.iconst 4, 1) := by decide +kernel
theorem dX6_teacher_71 : decode cX6_teacher 71 = .ok (.invokevirtual 70, 3) := by decide +kernel
theorem dX6_teacher_74 : decode cX6_teacher 74 = .ok (.invokevirtual 159, 3) := by decide +kernel
theorem dX6_teacher_77 : decode cX6_teacher 77 = .ok (.goto 9, 3) := by decide +kernel
theorem dX6_teacher_80 : decode cX6_teacher 80 = .ok (.aload_n 0, 1) := by decide +kernel
theorem dX6_teacher_81 : decode cX6_teacher 81 = .ok (.iload_n 1, 1) := by decide +kernel
theorem dX6_teacher_82 : decode cX6_teacher 82 = .ok (.iload_n 2, 1) := by decide +kernel
theorem dX6_teacher_83 : decode cX6_teacher 83 = .ok (.invokevirtual 162, 3) := by decide +kernel
theorem dX6_teacher_86 : decode cX6_teacher 86 = .ok (.ireturn, 1) := by decide +kernel
theorem dX6_find_0 : decode cX6_find 0 = .ok (.iconst (-1), 1) := by decide +kernel
theorem dX6_find_1 : decode cX6_find 1 = .ok (.istore 4, 2) := by decide +kernel
theorem dX6_find_3 : decode cX6_find 3 = .ok (.iconst 0, 1) := by decide +kernel
theorem dX6_find_4 : decode cX6_find 4 = .ok (.istore 5, 2) := by decide +kernel
theorem dX6_find_6 : decode cX6_find 6 = .ok (.iload 5, 2) := by decide +kernel
theorem dX6_find_8 : decode cX6_find 8 = .ok (.aload_n 0, 1) := by decide +kernel
theorem dX6_find_9 : decode cX6_find 9 = .ok (.invokevirtual 54, 3) := by decide +kernel
theorem dX6_find_12 : decode cX6_find 12 = .ok (.if_icmp .ge 35, 3) := by decide +kernel
theorem dX6_find_15 : decode cX6_find 15 = .ok (.aload_n 0, 1) := by decide +kernel
theorem dX6_find_16 : decode cX6_find 16 = .ok (.iload 5, 2) := by decide +kernel
theorem dX6_find_18 : decode cX6_find 18 = .ok (.iconst 0, 1) := by decide +kernel
theorem dX6_find_19 : decode cX6_find 19 = .ok (.invokevirtual 78, 3) := by decide +kernel
theorem dX6_find_22 : decode cX6_find 22 = .ok (.iload_n 1, 1) := by decide +kernel
theorem dX6_find_23 : decode cX6_find 23 = .ok (.if_icmp .ne 18, 3) := by decide +kernel
theorem dX6_find_26 : decode cX6_find 26 = .ok (.aload_n 0, 1) := by decide +kernel
theorem dX6_find_27 : decode cX6_find 27 = .ok (.iload 5, 2) := by decide +kernel
theorem dX6_find_29 : decode cX6_find 29 = .ok (.iload_n 2, 1) := by decide +kernel
theorem dX6_find_30 : decode cX6_find 30 = .ok (.invokevirtual 78, 3) := by decide +kernel
theorem dX6_find_33 : decode cX6_find 33 = .ok (.iload_n 3, 1) := by decide +kernel
theorem dX6_find_34 : decode cX6_find 34 = .ok (.if_icmp .ne 7, 3) := by decide +kernel
theorem dX6_find_37 : decode cX6_find 37 = .ok (.iload 5, 2) := by decide +kernel
theorem dX6_find_39 : decode cX6_find 39 = .ok (.istore 4, 2) := by decide +kernel
theorem dX6_find_41 : decode cX6_find 41 = .ok (.iinc 5 1, 3) := by decide +kernel
theorem dX6_find_44 : decode cX6_find 44 = .ok (.goto (-38), 3) := by decide +kernel
theorem dX6_find_47 : decode cX6_find 47 = .ok (.iload 4, 2) := by decide +kernel
theorem dX6_find_49 : decode cX6_find 49 = .ok (.ireturn, 1) := by decide +kernel
theorem dX6_lessonOf_0 : decode cX6_lessonOf 0 = .ok (.aload_n 0, 1) := by decide +kernel
theorem dX6_lessonOf_1 : decode cX6_lessonOf 1 = .ok (.iconst 0, 1) := by decide +kernel
theorem dX6_lessonOf_2 : decode cX6_lessonOf 2 = .ok (.putfield 44, 3) := by decide +kernel
theorem dX6_lessonOf_5 : decode cX6_lessonOf 5 = .ok (.iload_n 1, 1) := by decide +kernel
theorem dX6_lessonOf_6 : decode cX6_lessonOf 6 = .ok (.invokestatic 142, 3) := by decide +kernel
theorem dX6_lessonOf_9 : decode cX6_lessonOf 9 = .ok (.ifCond .eq 10, 3) := by decide +kernel
theorem dX6_lessonOf_12 : decode cX6_lessonOf 12 = .ok (.iload_n 2, 1) := by decide +kernel
theorem dX6_lessonOf_13 : decode cX6_lessonOf 13 = .ok (.invokestatic 129, 3) := by decide +kernel
theorem dX6_lessonOf_16 : decode cX6_lessonOf 16 = .ok (.ifCond .ne 9, 3) := by decide +kernel
theorem dX6_lessonOf_19 : decode cX6_lessonOf 19 = .ok (.aload_n 0, 1) := by decide +kernel
theorem dX6_lessonOf_20 : decode cX6_lessonOf 20 = .ok (.iconst 1, 1) := by decide +kernel
theorem dX6_lessonOf_21 : decode cX6_lessonOf 21 = .ok (.invokevirtual 107, 3) := by decide +kernel
theorem dX6_lessonOf_24 : decode cX6_lessonOf 24 = .ok (.ireturn, 1) := by decide +kernel
theorem dX6_lessonOf_25 : decode cX6_lessonOf 25 = .ok (.aload_n 0, 1) := by decide +kernel
theorem dX6_lessonOf_26 : decode cX6_lessonOf 26 = .ok (.iload_n 1, 1) := by decide +kernel
theorem dX6_lessonOf_27 : decode cX6_lessonOf 27 = .ok (.iconst 1, 1) := by decide +kernel
theorem dX6_lessonOf_28 : decode cX6_lessonOf 28 = .ok (.iload_n 2, 1) := by decide +kernel
theorem dX6_lessonOf_29 : decode cX6_lessonOf 29 = .ok (.invokevirtual 165, 3) := by decide +kernel
theorem dX6_lessonOf_32 : decode cX6_lessonOf 32 = .ok (.istore_n 3, 1) := by decide +kernel
theorem dX6_lessonOf_33 : decode cX6_lessonOf 33 = .ok (.iload_n 3, 1) := by decide +kernel
theorem dX6_lessonOf_34 : decode cX6_lessonOf 34 = .ok (.iconst (-1), 1) := by decide +kernel
theorem dX6_lessonOf_35 : decode cX6_lessonOf 35 = .ok (.if_icmp .ne 11, 3) := by decide +kernel
theorem dX6_lessonOf_38 : decode cX6_lessonOf 38 = .ok (.aload_n 0, 1) := by decide +kernel
theorem dX6_lessonOf_39 : decode cX6_lessonOf 39 = .ok (.iconst 2, 1) := by decide +kernel
theorem dX6_lessonOf_40 : decode cX6_lessonOf 40 = .ok (.invokevirtual 107, 3) := by decide +kernel
theorem dX6_lessonOf_43 : decode cX6_lessonOf 43 = .ok (.goto 4, 3) := by decide +kernel
theorem dX6_lessonOf_46 : decode cX6_lessonOf 46 = .ok (.iload_n 3, 1) := by decide +kernel
theorem dX6_lessonOf_47 : decode cX6_lessonOf 47 = .ok (.ireturn, 1) := by decide +kernel
theorem dX6_turns_0 : decode cX6_turns 0 = .ok (.iconst 0, 1) := by decide +kernel
theorem dX6_turns_1 : decode cX6_turns 1 = .ok (.istore 4, 2) := by decide +kernel
theorem dX6_turns_3 : decode cX6_turns 3 = .ok (.aload_n 0, 1) := by decide +kernel
theorem dX6_turns_4 : decode cX6_turns 4 = .ok (.iload_n 2, 1) := by decide +kernel
theorem dX6_turns_5 : decode cX6_turns 5 = .ok (.iconst 3, 1) := by decide +kernel
theorem dX6_turns_6 : decode cX6_turns 6 = .ok (.iload_n 1, 1) := by decide +kernel
theorem dX6_turns_7 : decode cX6_turns 7 = .ok (.invokevirtual 165, 3) := by decide +kernel
theorem dX6_turns_10 : decode cX6_turns 10 = .ok (.istore 5, 2) := by decide +kernel
theorem dX6_turns_12 : decode cX6_turns 12 = .ok (.aload_n 0, 1) := by decide +kernel
theorem dX6_turns_13 : decode cX6_turns 13 = .ok (.iload_n 2, 1) := by decide +kernel
theorem dX6_turns_14 : decode cX6_turns 14 = .ok (.iconst 5, 1) := by decide +kernel
theorem dX6_turns_15 : decode cX6_turns 15 = .ok (.iload_n 1, 1) := by decide +kernel
theorem dX6_turns_16 : decode cX6_turns 16 = .ok (.invokevirtual 165, 3) := by decide +kernel
theorem dX6_turns_19 : decode cX6_turns 19 = .ok (.istore 6, 2) := by decide +kernel
theorem dX6_turns_21 : decode cX6_turns 21 = .ok (.iload_n 3, 1) := by decide +kernel
theorem dX6_turns_22 : decode cX6_turns 22 = .ok (.ifCond .eq 40, 3) := by decide +kernel
theorem dX6_turns_25 : decode cX6_turns 25 = .ok (.iload 5, 2) := by decide +kernel
theorem dX6_turns_27 : decode cX6_turns 27 = .ok (.iconst (-1), 1) := by decide +kernel
theorem dX6_turns_28 : decode cX6_turns 28 = .ok (.if_icmp .eq 14, 3) := by decide +kernel
theorem dX6_turns_31 : decode cX6_turns 31 = .ok (.iload 4, 2) := by decide +kernel
theorem dX6_turns_33 : decode cX6_turns 33 = .ok (.aload_n 0, 1) := by decide +kernel
theorem dX6_turns_34 : decode cX6_turns 34 = .ok (.iload 5, 2) := by decide +kernel
theorem dX6_turns_36 : decode cX6_turns 36 = .ok (.invokevirtual 98, 3) := by decide +kernel
theorem dX6_turns_39 : decode cX6_turns 39 = .ok (.iadd, 1) := by decide +kernel
theorem dX6_turns_40 : decode cX6_turns 40 = .ok (.istore 4, 2) := by decide +kernel
theorem dX6_turns_42 : decode cX6_turns 42 = .ok (.iload 6, 2) := by decide +kernel
theorem dX6_turns_44 : decode cX6_turns 44 = .ok (.iconst (-1), 1) := by decide +kernel
theorem dX6_turns_45 : decode cX6_turns 45 = .ok (.if_icmp .eq 34, 3) := by decide +kernel
theorem dX6_turns_48 : decode cX6_turns 48 = .ok (.iload 4, 2) := by decide +kernel
theorem dX6_turns_50 : decode cX6_turns 50 = .ok (.aload_n 0, 1) := by decide +kernel
theorem dX6_turns_51 : decode cX6_turns 51 = .ok (.iload 6, 2) := by decide +kernel
theorem dX6_turns_53 : decode cX6_turns 53 = .ok (.invokevirtual 156, 3) := by decide +kernel
theorem dX6_turns_56 : decode cX6_turns 56 = .ok (.iadd, 1) := by decide +kernel
theorem dX6_turns_57 : decode cX6_turns 57 = .ok (.istore 4, 2) := by decide +kernel
theorem dX6_turns_59 : decode cX6_turns 59 = .ok (.goto 20, 3) := by decide +kernel
theorem dX6_turns_62 : decode cX6_turns 62 = .ok (.iload 5, 2) := by decide +kernel
theorem dX6_turns_64 : decode cX6_turns 64 = .ok (.iconst (-1), 1) := by decide +kernel
theorem dX6_turns_65 : decode cX6_turns 65 = .ok (.if_icmp .eq 14, 3) := by decide +kernel
theorem dX6_turns_68 : decode cX6_turns 68 = .ok (.iload 4, 2) := by decide +kernel
theorem dX6_turns_70 : decode cX6_turns 70 = .ok (.aload_n 0, 1) := by decide +kernel
theorem dX6_turns_71 : decode cX6_turns 71 = .ok (.iload 5, 2) := by decide +kernel
theorem dX6_turns_73 : decode cX6_turns 73 = .ok (.invokevirtual 156, 3) := by decide +kernel
theorem dX6_turns_76 : decode cX6_turns 76 = .ok (.iadd, 1) := by decide +kernel
theorem dX6_turns_77 : decode cX6_turns 77 = .ok (.istore 4, 2) := by decide +kernel
theorem dX6_turns_79 : decode cX6_turns 79 = .ok (.aload_n 0, 1) := by decide +kernel
theorem dX6_turns_80 : decode cX6_turns 80 = .ok (.getfield 9, 3) := by decide +kernel
theorem dX6_turns_83 : decode cX6_turns 83 = .ok (.iload_n 1, 1) := by decide +kernel
theorem dX6_turns_84 : decode cX6_turns 84 = .ok (.invokestatic 51, 3) := by decide +kernel
theorem dX6_turns_87 : decode cX6_turns 87 = .ok (.iconst 3, 1) := by decide +kernel
theorem dX6_turns_88 : decode cX6_turns 88 = .ok (.iadd, 1) := by decide +kernel
theorem dX6_turns_89 : decode cX6_turns 89 = .ok (.dup2, 1) := by decide +kernel
theorem dX6_turns_90 : decode cX6_turns 90 = .ok (.iaload, 1) := by decide +kernel
theorem dX6_turns_91 : decode cX6_turns 91 = .ok (.iconst 1, 1) := by decide +kernel
theorem dX6_turns_92 : decode cX6_turns 92 = .ok (.iload_n 2, 1) := by decide +kernel
theorem dX6_turns_93 : decode cX6_turns 93 = .ok (.ishl, 1) := by decide +kernel
theorem dX6_turns_94 : decode cX6_turns 94 = .ok (.ixor, 1) := by decide +kernel
theorem dX6_turns_95 : decode cX6_turns 95 = .ok (.iastore, 1) := by decide +kernel
theorem dX6_turns_96 : decode cX6_turns 96 = .ok (.iload 4, 2) := by decide +kernel
theorem dX6_turns_98 : decode cX6_turns 98 = .ok (.ireturn, 1) := by decide +kernel
theorem dX6_setAbsent_0 : decode cX6_setAbsent 0 = .ok (.aload_n 0, 1) := by decide +kernel
theorem dX6_setAbsent_1 : decode cX6_setAbsent 1 = .ok (.iconst 0, 1) := by decide +kernel
theorem dX6_setAbsent_2 : decode cX6_setAbsent 2 = .ok (.putfield 44, 3) := by decide +kernel
theorem dX6_setAbsent_5 : decode cX6_setAbsent 5 = .ok (.aload_n 0, 1) := by decide +kernel
theorem dX6_setAbsent_6 : decode cX6_setAbsent 6 = .ok (.iload_n 1, 1) := by decide +kernel
theorem dX6_setAbsent_7 : decode cX6_setAbsent 7 = .ok (.invokevirtual 119, 3) := by decide +kernel
theorem dX6_setAbsent_10 : decode cX6_setAbsent 10 = .ok (.ifCond .eq 10, 3) := by decide +kernel
theorem dX6_setAbsent_13 : decode cX6_setAbsent 13 = .ok (.iload_n 2, 1) := by decide +kernel
theorem dX6_setAbsent_14 : decode cX6_setAbsent 14 = .ok (.invokestatic 142, 3) := by decide +kernel
theorem dX6_setAbsent_17 : decode cX6_setAbsent 17 = .ok (.ifCond .ne 9, 3) := by decide +kernel
theorem dX6_setAbsent_20 : decode cX6_setAbsent 20 = .ok (.aload_n 0, 1) := by decide +kernel
theorem dX6_setAbsent_21 : decode cX6_setAbsent 21 = .ok (.iconst 1, 1) := by decide +kernel
theorem dX6_setAbsent_22 : decode cX6_setAbsent 22 = .ok (.invokevirtual 107, 3) := by decide +kernel
theorem dX6_setAbsent_25 : decode cX6_setAbsent 25 = .ok (.ireturn, 1) := by decide +kernel
theorem dX6_setAbsent_26 : decode cX6_setAbsent 26 = .ok (.aload_n 0, 1) := by decide +kernel
theorem dX6_setAbsent_27 : decode cX6_setAbsent 27 = .ok (.iload_n 1, 1) := by decide +kernel
theorem dX6_setAbsent_28 : decode cX6_setAbsent 28 = .ok (.iload_n 2, 1) := by decide +kernel
theorem dX6_setAbsent_29 : decode cX6_setAbsent 29 = .ok (.invokevirtual 81, 3) := by decide +kernel
theorem dX6_setAbsent_32 : decode cX6_setAbsent 32 = .ok (.iload_n 3, 1) := by decide +kernel
theorem dX6_setAbsent_33 : decode cX6_setAbsent 33 = .ok (.if_icmp .ne 9, 3) := by decide +kernel
theorem dX6_setAbsent_36 : decode cX6_setAbsent 36 = .ok (.aload_n 0, 1) := by decide +kernel
theorem dX6_setAbsent_37 : decode cX6_setAbsent 37 = .ok (.iconst 2, 1) := by decide +kernel
theorem dX6_setAbsent_38 : decode cX6_setAbsent 38 = .ok (.invokevirtual 107, 3) := by decide +kernel
theorem dX6_setAbsent_41 : decode cX6_setAbsent 41 = .ok (.ireturn, 1) := by decide +kernel
theorem dX6_setAbsent_42 : decode cX6_setAbsent 42 = .ok (.aload_n 0, 1) := by decide +kernel
theorem dX6_setAbsent_43 : decode cX6_setAbsent 43 = .ok (.invokevirtual 68, 3) := by decide +kernel
theorem dX6_setAbsent_46 : decode cX6_setAbsent 46 = .ok (.aload_n 0, 1) := by decide +kernel
theorem dX6_setAbsent_47 : decode cX6_setAbsent 47 = .ok (.iload_n 1, 1) := by decide +kernel
theorem dX6_setAbsent_48 : decode cX6_setAbsent 48 = .ok (.iload_n 2, 1) := by decide +kernel
theorem dX6_setAbsent_49 : decode cX6_setAbsent 49 = .ok (.iload_n 3, 1) := by decide +kernel
theorem dX6_setAbsent_50 : decode cX6_setAbsent 50 = .ok (.invokevirtual 169, 3) := by decide +kernel
theorem dX6_setAbsent_53 : decode cX6_setAbsent 53 = .ok (.ireturn, 1) := by decide +kernel
theorem dX6_isDay_0 : decode cX6_isDay 0 = .ok (.iload_n 0, 1) := by decide +kernel
theorem dX6_isDay_1 : decode cX6_isDay 1 = .ok (.iconst 0, 1) := by decide +kernel
theorem dX6_isDay_2 : decode cX6_isDay 2 = .ok (.iconst 4, 1) := by decide +kernel
theorem dX6_isDay_3 : decode cX6_isDay 3 = .ok (.invokestatic 58, 3) := by decide +kernel
theorem dX6_isDay_6 : decode cX6_isDay 6 = .ok (.ireturn, 1) := by decide +kernel
theorem dX6_absent_0 : decode cX6_absent 0 = .ok (.aload_n 0, 1) := by decide +kernel
theorem dX6_absent_1 : decode cX6_absent 1 = .ok (.iconst 0, 1) := by decide +kernel
theorem dX6_absent_2 : decode cX6_absent 2 = .ok (.putfield 44, 3) := by decide +kernel
theorem dX6_absent_5 : decode cX6_absent 5 = .ok (.aload_n 0, 1) := by decide +kernel
theorem dX6_absent_6 : decode cX6_absent 6 = .ok (.iload_n 1, 1) := by decide +kernel
theorem dX6_absent_7 : decode cX6_absent 7 = .ok (.invokevirtual 119, 3) := by decide +kernel
theorem dX6_absent_10 : decode cX6_absent 10 = .ok (.ifCond .eq 27, 3) := by decide +kernel
theorem dX6_absent_13 : decode cX6_absent 13 = .ok (.iload_n 2, 1) := by decide +kernel
theorem dX6_absent_14 : decode cX6_absent 14 = .ok (.invokestatic 173, 3) := by decide +kernel
theorem dX6_absent_17 : decode cX6_absent 17 = .ok (.ifCond .eq 20, 3) := by decide +kernel
theorem dX6_absent_20 : decode cX6_absent 20 = .ok (.aload_n 0, 1) := by decide +kernel
theorem dX6_absent_21 : decode cX6_absent 21 = .ok (.iload_n 1, 1) := by decide +kernel
theorem dX6_absent_22 : decode cX6_absent 22 = .ok (.iconst 3, 1) := by decide +kernel
theorem dX6_absent_23 : decode cX6_absent 23 = .ok (.invokevirtual 70, 3) := by decide +kernel
theorem dX6_absent_26 : decode cX6_absent 26 = .ok (.bipush 6, 2) := by decide +kernel
theorem dX6_absent_28 : decode cX6_absent 28 = .ok (.iload_n 2, 1) := by decide +kernel
theorem dX6_absent_29 : decode cX6_absent 29 = .ok (.imul, 1) := by decide +kernel
theorem dX6_absent_30 : decode cX6_absent 30 = .ok (.ishr, 1) := by decide +kernel
theorem dX6_absent_31 : decode cX6_absent 31 = .ok (.bipush 63, 2) := by decide +kernel
theorem dX6_absent_33 : decode cX6_absent 33 = .ok (.iand, 1) := by decide +kernel
theorem dX6_absent_34 : decode cX6_absent 34 = .ok (.goto 8, 3) := by decide +kernel
theorem dX6_absent_37 : decode cX6_absent 37 = .ok (.aload_n 0, 1) := by decide +kernel
theorem dX6_absent_38 : decode cX6_absent 38 = .ok (.iconst 1, 1) := by decide +kernel
theorem dX6_absent_39 : decode cX6_absent 39 = .ok (.invokevirtual 107, 3) := by decide +kernel
theorem dX6_absent_42 : decode cX6_absent 42 = .ok (.ireturn, 1) := by decide +kernel
theorem dX6_free_0 : decode cX6_free 0 = .ok (.aload_n 0, 1) := by decide +kernel
theorem dX6_free_1 : decode cX6_free 1 = .ok (.iconst 0, 1) := by decide +kernel
theorem dX6_free_2 : decode cX6_free 2 = .ok (.putfield 44, 3) := by decide +kernel
theorem dX6_free_5 : decode cX6_free 5 = .ok (.aload_n 0, 1) := by decide +kernel
theorem dX6_free_6 : decode cX6_free 6 = .ok (.iload_n 1, 1) := by decide +kernel
theorem dX6_free_7 : decode cX6_free 7 = .ok (.invokevirtual 119, 3) := by decide +kernel
theorem dX6_free_10 : decode cX6_free 10 = .ok (.ifCond .eq 10, 3) := by decide +kernel
theorem dX6_free_13 : decode cX6_free 13 = .ok (.iload_n 2, 1) := by decide +kernel
theorem dX6_free_14 : decode cX6_free 14 = .ok (.invokestatic 173, 3) := by decide +kernel
theorem dX6_free_17 : decode cX6_free 17 = .ok (.ifCond .ne 9, 3) := by decide +kernel
theorem dX6_free_20 : decode cX6_free 20 = .ok (.aload_n 0, 1) := by decide +kernel
theorem dX6_free_21 : decode cX6_free 21 = .ok (.iconst 1, 1) := by decide +kernel
theorem dX6_free_22 : decode cX6_free 22 = .ok (.invokevirtual 107, 3) := by decide +kernel
theorem dX6_free_25 : decode cX6_free 25 = .ok (.ireturn, 1) := by decide +kernel
theorem dX6_free_26 : decode cX6_free 26 = .ok (.iconst 0, 1) := by decide +kernel
theorem dX6_free_27 : decode cX6_free 27 = .ok (.istore_n 3, 1) := by decide +kernel
theorem dX6_free_28 : decode cX6_free 28 = .ok (.iconst 0, 1) := by decide +kernel
theorem dX6_free_29 : decode cX6_free 29 = .ok (.istore 4, 2) := by decide +kernel
theorem dX6_free_31 : decode cX6_free 31 = .ok (.iload 4, 2) := by decide +kernel
theorem dX6_free_33 : decode cX6_free 33 = .ok (.bipush 6, 2) := by decide +kernel
theorem dX6_free_35 : decode cX6_free 35 = .ok (.if_icmp .ge 57, 3) := by decide +kernel
theorem dX6_free_38 : decode cX6_free 38 = .ok (.bipush 6, 2) := by decide +kernel
theorem dX6_free_40 : decode cX6_free 40 = .ok (.iload_n 2, 1) := by decide +kernel
theorem dX6_free_41 : decode cX6_free 41 = .ok (.imul, 1) := by decide +kernel
theorem dX6_free_42 : decode cX6_free 42 = .ok (.iload 4, 2) := by decide +kernel
theorem dX6_free_44 : decode cX6_free 44 = .ok (.iadd, 1) := by decide +kernel
theorem dX6_free_45 : decode cX6_free 45 = .ok (.istore 5, 2) := by decide +kernel
theorem dX6_free_47 : decode cX6_free 47 = .ok (.aload_n 0, 1) := by decide +kernel
theorem dX6_free_48 : decode cX6_free 48 = .ok (.iload_n 1, 1) := by decide +kernel
theorem dX6_free_49 : decode cX6_free 49 = .ok (.iload 5, 2) := by decide +kernel
theorem dX6_free_51 : decode cX6_free 51 = .ok (.invokevirtual 81, 3) := by decide +kernel
theorem dX6_free_54 : decode cX6_free 54 = .ok (.ifCond .ne 32, 3) := by decide +kernel
theorem dX6_free_57 : decode cX6_free 57 = .ok (.aload_n 0, 1) := by decide +kernel
theorem dX6_free_58 : decode cX6_free 58 = .ok (.iload 5, 2) := by decide +kernel
theorem dX6_free_60 : decode cX6_free 60 = .ok (.iconst 3, 1) := by decide +kernel
theorem dX6_free_61 : decode cX6_free 61 = .ok (.iload_n 1, 1) := by decide +kernel
theorem dX6_free_62 : decode cX6_free 62 = .ok (.invokevirtual 165, 3) := by decide +kernel
theorem dX6_free_65 : decode cX6_free 65 = .ok (.iconst (-1), 1) := by decide +kernel
theorem dX6_free_66 : decode cX6_free 66 = .ok (.if_icmp .ne 20, 3) := by decide +kernel
theorem dX6_free_69 : decode cX6_free 69 = .ok (.aload_n 0, 1) := by decide +kernel
theorem dX6_free_70 : decode cX6_free 70 = .ok (.iload_n 1, 1) := by decide +kernel
theorem dX6_free_71 : decode cX6_free 71 = .ok (.iload 5, 2) := by decide +kernel
theorem dX6_free_73 : decode cX6_free 73 = .ok (.invokevirtual 139, 3) := by decide +kernel
theorem dX6_free_76 : decode cX6_free 76 = .ok (.ifCond .ne 10, 3) := by decide +kernel
theorem dX6_free_79 : decode cX6_free 79 = .ok (.iload_n 3, 1) := by decide +kernel
theorem dX6_free_80 : decode cX6_free 80 = .ok (.iconst 1, 1) := by decide +kernel
theorem dX6_free_81 : decode cX6_free 81 = .ok (.iload 4, 2) := by decide +kernel
theorem dX6_free_83 : decode cX6_free 83 = .ok (.ishl, 1) := by decide +kernel
theorem dX6_free_84 : decode cX6_free 84 = .ok (.ior, 1) := by decide +kernel
theorem dX6_free_85 : decode cX6_free 85 = .ok (.istore_n 3, 1) := by decide +kernel
theorem dX6_free_86 : decode cX6_free 86 = .ok (.iinc 4 1, 3) := by decide +kernel
theorem dX6_free_89 : decode cX6_free 89 = .ok (.goto (-58), 3) := by decide +kernel
theorem dX6_free_92 : decode cX6_free 92 = .ok (.iload_n 3, 1) := by decide +kernel
theorem dX6_free_93 : decode cX6_free 93 = .ok (.ireturn, 1) := by decide +kernel
theorem dX6_freeRooms_0 : decode cX6_freeRooms 0 = .ok (.aload_n 0, 1) := by decide +kernel
theorem dX6_freeRooms_1 : decode cX6_freeRooms 1 = .ok (.iconst 0, 1) := by decide +kernel
theorem dX6_freeRooms_2 : decode cX6_freeRooms 2 = .ok (.putfield 44, 3) := by decide +kernel
theorem dX6_freeRooms_5 : decode cX6_freeRooms 5 = .ok (.iload_n 1, 1) := by decide +kernel
theorem dX6_freeRooms_6 : decode cX6_freeRooms 6 = .ok (.invokestatic 142, 3) := by decide +kernel
theorem dX6_freeRooms_9 : decode cX6_freeRooms 9 = .ok (.ifCond .ne 9, 3) := by decide +kernel
theorem dX6_freeRooms_12 : decode cX6_freeRooms 12 = .ok (.aload_n 0, 1) := by decide +kernel
theorem dX6_freeRooms_13 : decode cX6_freeRooms 13 = .ok (.iconst 1, 1) := by decide +kernel
theorem dX6_freeRooms_14 : decode cX6_freeRooms 14 = .ok (.invokevirtual 107, 3) := by decide +kernel
theorem dX6_freeRooms_17 : decode cX6_freeRooms 17 = .ok (.ireturn, 1) := by decide +kernel
theorem dX6_freeRooms_18 : decode cX6_freeRooms 18 = .ok (.iconst 0, 1) := by decide +kernel
theorem dX6_freeRooms_19 : decode cX6_freeRooms 19 = .ok (.istore_n 2, 1) := by decide +kernel
theorem dX6_freeRooms_20 : decode cX6_freeRooms 20 = .ok (.iconst 0, 1) := by decide +kernel
theorem dX6_freeRooms_21 : decode cX6_freeRooms 21 = .ok (.istore_n 3, 1) := by decide +kernel
theorem dX6_freeRooms_22 : decode cX6_freeRooms 22 = .ok (.iload_n 3, 1) := by decide +kernel
theorem dX6_freeRooms_23 : decode cX6_freeRooms 23 = .ok (.bipush 6, 2) := by decide +kernel
theorem dX6_freeRooms_25 : decode cX6_freeRooms 25 = .ok (.if_icmp .ge 26, 3) := by decide +kernel
theorem dX6_freeRooms_28 : decode cX6_freeRooms 28 = .ok (.aload_n 0, 1) := by decide +kernel
theorem dX6_freeRooms_29 : decode cX6_freeRooms 29 = .ok (.iload_n 1, 1) := by decide +kernel
theorem dX6_freeRooms_30 : decode cX6_freeRooms 30 = .ok (.iconst 4, 1) := by decide +kernel
theorem dX6_freeRooms_31 : decode cX6_freeRooms 31 = .ok (.iload_n 3, 1) := by decide +kernel
theorem dX6_freeRooms_32 : decode cX6_freeRooms 32 = .ok (.invokevirtual 165, 3) := by decide +kernel
theorem dX6_freeRooms_35 : decode cX6_freeRooms 35 = .ok (.iconst (-1), 1) := by decide +kernel
theorem dX6_freeRooms_36 : decode cX6_freeRooms 36 = .ok (.if_icmp .ne 9, 3) := by decide +kernel
theorem dX6_freeRooms_39 : decode cX6_freeRooms 39 = .ok (.iload_n 2, 1) := by decide +kernel
theorem dX6_freeRooms_40 : decode cX6_freeRooms 40 = .ok (.iconst 1, 1) := by decide +kernel
theorem dX6_freeRooms_41 : decode cX6_freeRooms 41 = .ok (.iload_n 3, 1) := by decide +kernel
theorem dX6_freeRooms_42 : decode cX6_freeRooms 42 = .ok (.ishl, 1) := by decide +kernel
theorem dX6_freeRooms_43 : decode cX6_freeRooms 43 = .ok (.ior, 1) := by decide +kernel
theorem dX6_freeRooms_44 : decode cX6_freeRooms 44 = .ok (.istore_n 2, 1) := by decide +kernel
theorem dX6_freeRooms_45 : decode cX6_freeRooms 45 = .ok (.iinc 3 1, 3) := by decide +kernel
theorem dX6_freeRooms_48 : decode cX6_freeRooms 48 = .ok (.goto (-26), 3) := by decide +kernel
theorem dX6_freeRooms_51 : decode cX6_freeRooms 51 = .ok (.iload_n 2, 1) := by decide +kernel
theorem dX6_freeRooms_52 : decode cX6_freeRooms 52 = .ok (.ireturn, 1) := by decide +kernel
theorem dX6_listsOpen_0 : decode cX6_listsOpen 0 = .ok (.iconst 0, 1) := by decide +kernel
theorem dX6_listsOpen_1 : decode cX6_listsOpen 1 = .ok (.istore_n 2, 1) := by decide +kernel
theorem dX6_listsOpen_2 : decode cX6_listsOpen 2 = .ok (.iconst 0, 1) := by decide +kernel
theorem dX6_listsOpen_3 : decode cX6_listsOpen 3 = .ok (.istore_n 3, 1) := by decide +kernel
theorem dX6_listsOpen_4 : decode cX6_listsOpen 4 = .ok (.iload_n 3, 1) := by decide +kernel
theorem dX6_listsOpen_5 : decode cX6_listsOpen 5 = .ok (.bipush 6, 2) := by decide +kernel
theorem dX6_listsOpen_7 : decode cX6_listsOpen 7 = .ok (.if_icmp .ge 64, 3) := by decide +kernel
theorem dX6_listsOpen_10 : decode cX6_listsOpen 10 = .ok (.iconst 0, 1) := by decide +kernel
theorem dX6_listsOpen_11 : decode cX6_listsOpen 11 = .ok (.istore 4, 2) := by decide +kernel
theorem dX6_listsOpen_13 : decode cX6_listsOpen 13 = .ok (.iload 4, 2) := by decide +kernel
theorem dX6_listsOpen_15 : decode cX6_listsOpen 15 = .ok (.aload_n 0, 1) := by decide +kernel
theorem dX6_listsOpen_16 : decode cX6_listsOpen 16 = .ok (.invokevirtual 54, 3) := by decide +kernel
theorem dX6_listsOpen_19 : decode cX6_listsOpen 19 = .ok (.if_icmp .ge 46, 3) := by decide +kernel
theorem dX6_listsOpen_22 : decode cX6_listsOpen 22 = .ok (.aload_n 0, 1) := by decide +kernel
theorem dX6_listsOpen_23 : decode cX6_listsOpen 23 = .ok (.iload 4, 2) := by decide +kernel
theorem dX6_listsOpen_25 : decode cX6_listsOpen 25 = .ok (.iconst 0, 1) := by decide +kernel
theorem dX6_listsOpen_26 : decode cX6_listsOpen 26 = .ok (.invokevirtual 78, 3) := by decide +kernel
theorem dX6_listsOpen_29 : decode cX6_listsOpen 29 = .ok (.bipush 6, 2) := by decide +kernel
theorem dX6_listsOpen_31 : decode cX6_listsOpen 31 = .ok (.iload_n 1, 1) := by decide +kernel
theorem dX6_listsOpen_32 : decode cX6_listsOpen 32 = .ok (.imul, 1) := by decide +kernel
theorem dX6_listsOpen_33 : decode cX6_listsOpen 33 = .ok (.iload_n 3, 1) := by decide +kernel
theorem dX6_listsOpen_34 : decode cX6_listsOpen 34 = .ok (.iadd, 1) := by decide +kernel
theorem dX6_listsOpen_35 : decode cX6_listsOpen 35 = .ok (.if_icmp .ne 24, 3) := by decide +kernel
theorem dX6_listsOpen_38 : decode cX6_listsOpen 38 = .ok (.aload_n 0, 1) := by decide +kernel
theorem dX6_listsOpen_39 : decode cX6_listsOpen 39 = .ok (.iload 4, 2) := by decide +kernel
theorem dX6_listsOpen_41 : decode cX6_listsOpen 41 = .ok (.invokevirtual 84, 3) := by decide +kernel
theorem dX6_listsOpen_44 : decode cX6_listsOpen 44 = .ok (.iconst 3, 1) := by decide +kernel
theorem dX6_listsOpen_45 : decode cX6_listsOpen 45 = .ok (.if_icmp .ne 14, 3) := by decide +kernel
theorem dX6_listsOpen_48 : decode cX6_listsOpen 48 = .ok (.aload_n 0, 1) := by decide +kernel
theorem dX6_listsOpen_49 : decode cX6_listsOpen 49 = .ok (.getfield 29, 3) := by decide +kernel
theorem dX6_listsOpen_52 : decode cX6_listsOpen 52 = .ok (.iload_n 2, 1) := by decide +kernel
theorem dX6_listsOpen_53 : decode cX6_listsOpen 53 = .ok (.iinc 2 1, 3) := by decide +kernel
theorem dX6_listsOpen_56 : decode cX6_listsOpen 56 = .ok (.iload 4, 2) := by decide +kernel
theorem dX6_listsOpen_58 : decode cX6_listsOpen 58 = .ok (.iastore, 1) := by decide +kernel
theorem dX6_listsOpen_59 : decode cX6_listsOpen 59 = .ok (.iinc 4 1, 3) := by decide +kernel
theorem dX6_listsOpen_62 : decode cX6_listsOpen 62 = .ok (.goto (-49), 3) := by decide +kernel
theorem dX6_listsOpen_65 : decode cX6_listsOpen 65 = .ok (.iinc 3 1, 3) := by decide +kernel
theorem dX6_listsOpen_68 : decode cX6_listsOpen 68 = .ok (.goto (-64), 3) := by decide +kernel
theorem dX6_listsOpen_71 : decode cX6_listsOpen 71 = .ok (.iload_n 2, 1) := by decide +kernel
theorem dX6_listsOpen_72 : decode cX6_listsOpen 72 = .ok (.ireturn, 1) := by decide +kernel
theorem dX6_openOn_0 : decode cX6_openOn 0 = .ok (.aload_n 0, 1) := by decide +kernel
theorem dX6_openOn_1 : decode cX6_openOn 1 = .ok (.iconst 0, 1) := by decide +kernel
theorem dX6_openOn_2 : decode cX6_openOn 2 = .ok (.putfield 44, 3) := by decide +kernel
theorem dX6_openOn_5 : decode cX6_openOn 5 = .ok (.iload_n 1, 1) := by decide +kernel
theorem dX6_openOn_6 : decode cX6_openOn 6 = .ok (.invokestatic 173, 3) := by decide +kernel
theorem dX6_openOn_9 : decode cX6_openOn 9 = .ok (.ifCond .eq 11, 3) := by decide +kernel
theorem dX6_openOn_12 : decode cX6_openOn 12 = .ok (.aload_n 0, 1) := by decide +kernel
theorem dX6_openOn_13 : decode cX6_openOn 13 = .ok (.iload_n 1, 1) := by decide +kernel
theorem dX6_openOn_14 : decode cX6_openOn 14 = .ok (.invokevirtual 176, 3) := by decide +kernel
theorem dX6_openOn_17 : decode cX6_openOn 17 = .ok (.goto 8, 3) := by decide +kernel
theorem dX6_openOn_20 : decode cX6_openOn 20 = .ok (.aload_n 0, 1) := by decide +kernel
theorem dX6_openOn_21 : decode cX6_openOn 21 = .ok (.iconst 1, 1) := by decide +kernel
theorem dX6_openOn_22 : decode cX6_openOn 22 = .ok (.invokevirtual 107, 3) := by decide +kernel
theorem dX6_openOn_25 : decode cX6_openOn 25 = .ok (.ireturn, 1) := by decide +kernel
theorem dX6_open_0 : decode cX6_open 0 = .ok (.aload_n 0, 1) := by decide +kernel
theorem dX6_open_1 : decode cX6_open 1 = .ok (.iconst 0, 1) := by decide +kernel
theorem dX6_open_2 : decode cX6_open 2 = .ok (.putfield 44, 3) := by decide +kernel
theorem dX6_open_5 : decode cX6_open 5 = .ok (.iload_n 1, 1) := by decide +kernel
theorem dX6_open_6 : decode cX6_open 6 = .ok (.invokestatic 173, 3) := by decide +kernel
theorem dX6_open_9 : decode cX6_open 9 = .ok (.ifCond .ne 9, 3) := by decide +kernel
theorem dX6_open_12 : decode cX6_open 12 = .ok (.aload_n 0, 1) := by decide +kernel
theorem dX6_open_13 : decode cX6_open 13 = .ok (.iconst 1, 1) := by decide +kernel
theorem dX6_open_14 : decode cX6_open 14 = .ok (.invokevirtual 107, 3) := by decide +kernel
theorem dX6_open_17 : decode cX6_open 17 = .ok (.ireturn, 1) := by decide +kernel
theorem dX6_open_18 : decode cX6_open 18 = .ok (.iload_n 2, 1) := by decide +kernel
theorem dX6_open_19 : decode cX6_open 19 = .ok (.iconst 0, 1) := by decide +kernel
theorem dX6_open_20 : decode cX6_open 20 = .ok (.aload_n 0, 1) := by decide +kernel
theorem dX6_open_21 : decode cX6_open 21 = .ok (.iload_n 1, 1) := by decide +kernel
theorem dX6_open_22 : decode cX6_open 22 = .ok (.invokevirtual 176, 3) := by decide +kernel
theorem dX6_open_25 : decode cX6_open 25 = .ok (.iconst 1, 1) := by decide +kernel
theorem dX6_open_26 : decode cX6_open 26 = .ok (.isub, 1) := by decide +kernel
theorem dX6_open_27 : decode cX6_open 27 = .ok (.invokestatic 58, 3) := by decide +kernel
theorem dX6_open_30 : decode cX6_open 30 = .ok (.ifCond .eq 12, 3) := by decide +kernel
theorem dX6_open_33 : decode cX6_open 33 = .ok (.aload_n 0, 1) := by decide +kernel
theorem dX6_open_34 : decode cX6_open 34 = .ok (.getfield 29, 3) := by decide +kernel
theorem dX6_open_37 : decode cX6_open 37 = .ok (.iload_n 2, 1) := by decide +kernel
