theorem dX5_init_0 : decode cX5_init 0 = .ok (.aload_n 0, 1) := by decide +kernel
theorem dX5_init_1 : decode cX5_init 1 = .ok (.invokespecial 1, 3) := by decide +kernel
theorem dX5_init_4 : decode cX5_init 4 = .ok (.aload_n 0, 1) := by decide +kernel
theorem dX5_init_5 : decode cX5_init 5 = .ok (.new 7, 3) := by decide +kernel
theorem dX5_init_8 : decode cX5_init 8 = .ok (.dup, 1) := by decide +kernel
theorem dX5_init_9 : decode cX5_init 9 = .ok (.invokespecial 9, 3) := by decide +kernel
theorem dX5_init_12 : decode cX5_init 12 = .ok (.putfield 10, 3) := by decide +kernel
theorem dX5_init_15 : decode cX5_init 15 = .ok (.aload_n 0, 1) := by decide +kernel
theorem dX5_init_16 : decode cX5_init 16 = .ok (.new 7, 3) := by decide +kernel
theorem dX5_init_19 : decode cX5_init 19 = .ok (.dup, 1) := by decide +kernel
theorem dX5_init_20 : decode cX5_init 20 = .ok (.invokespecial 9, 3) := by decide +kernel
theorem dX5_init_23 : decode cX5_init 23 = .ok (.putfield 16, 3) := by decide +kernel
theorem dX5_init_26 : decode cX5_init 26 = .ok (.aload_n 0, 1) := by decide +kernel
theorem dX5_init_27 : decode cX5_init 27 = .ok (.new 7, 3) := by decide +kernel
theorem dX5_init_30 : decode cX5_init 30 = .ok (.dup, 1) := by decide +kernel
theorem dX5_init_31 : decode cX5_init 31 = .ok (.invokespecial 9, 3) := by decide +kernel
theorem dX5_init_34 : decode cX5_init 34 = .ok (.putfield 19, 3) := by decide +kernel
theorem dX5_init_37 : decode cX5_init 37 = .ok (.aload_n 0, 1) := by decide +kernel
theorem dX5_init_38 : decode cX5_init 38 = .ok (.new 22, 3) := by decide +kernel
theorem dX5_init_41 : decode cX5_init 41 = .ok (.dup, 1) := by decide +kernel
theorem dX5_init_42 : decode cX5_init 42 = .ok (.invokespecial 24, 3) := by decide +kernel
theorem dX5_init_45 : decode cX5_init 45 = .ok (.putfield 25, 3) := by decide +kernel
theorem dX5_init_48 : decode cX5_init 48 = .ok (.aload_n 0, 1) := by decide +kernel
theorem dX5_init_49 : decode cX5_init 49 = .ok (.new 29, 3) := by decide +kernel
theorem dX5_init_52 : decode cX5_init 52 = .ok (.dup, 1) := by decide +kernel
theorem dX5_init_53 : decode cX5_init 53 = .ok (.invokespecial 31, 3) := by decide +kernel
theorem dX5_init_56 : decode cX5_init 56 = .ok (.putfield 32, 3) := by decide +kernel
theorem dX5_init_59 : decode cX5_init 59 = .ok (.aload_n 0, 1) := by decide +kernel
theorem dX5_init_60 : decode cX5_init 60 = .ok (.new 36, 3) := by decide +kernel
theorem dX5_init_63 : decode cX5_init 63 = .ok (.dup, 1) := by decide +kernel
theorem dX5_init_64 : decode cX5_init 64 = .ok (.invokespecial 38, 3) := by decide +kernel
theorem dX5_init_67 : decode cX5_init 67 = .ok (.putfield 39, 3) := by decide +kernel
theorem dX5_init_70 : decode cX5_init 70 = .ok (.aload_n 0, 1) := by decide +kernel
theorem dX5_init_71 : decode cX5_init 71 = .ok (.new 43, 3) := by decide +kernel
theorem dX5_init_74 : decode cX5_init 74 = .ok (.dup, 1) := by decide +kernel
theorem dX5_init_75 : decode cX5_init 75 = .ok (.invokespecial 45, 3) := by decide +kernel
theorem dX5_init_78 : decode cX5_init 78 = .ok (.putfield 46, 3) := by decide +kernel
theorem dX5_init_81 : decode cX5_init 81 = .ok (.aload_n 0, 1) := by decide +kernel
theorem dX5_init_82 : decode cX5_init 82 = .ok (.iconst 0, 1) := by decide +kernel
theorem dX5_init_83 : decode cX5_init 83 = .ok (.putfield 50, 3) := by decide +kernel
theorem dX5_init_86 : decode cX5_init 86 = .ok (.aload_n 0, 1) := by decide +kernel
theorem dX5_init_87 : decode cX5_init 87 = .ok (.iconst (-1), 1) := by decide +kernel
theorem dX5_init_88 : decode cX5_init 88 = .ok (.putfield 54, 3) := by decide +kernel
theorem dX5_init_91 : decode cX5_init 91 = .ok (.aload_n 0, 1) := by decide +kernel
theorem dX5_init_92 : decode cX5_init 92 = .ok (.iconst (-1), 1) := by decide +kernel
theorem dX5_init_93 : decode cX5_init 93 = .ok (.putfield 58, 3) := by decide +kernel
theorem dX5_init_96 : decode cX5_init 96 = .ok (.return_, 1) := by decide +kernel
theorem dX5_clear_0 : decode cX5_clear 0 = .ok (.aload_n 0, 1) := by decide +kernel
theorem dX5_clear_1 : decode cX5_clear 1 = .ok (.getfield 10, 3) := by decide +kernel
theorem dX5_clear_4 : decode cX5_clear 4 = .ok (.getfield 61, 3) := by decide +kernel
theorem dX5_clear_7 : decode cX5_clear 7 = .ok (.istore_n 1, 1) := by decide +kernel
theorem dX5_clear_8 : decode cX5_clear 8 = .ok (.aload_n 0, 1) := by decide +kernel
theorem dX5_clear_9 : decode cX5_clear 9 = .ok (.getfield 10, 3) := by decide +kernel
theorem dX5_clear_12 : decode cX5_clear 12 = .ok (.invokevirtual 64, 3) := by decide +kernel
theorem dX5_clear_15 : decode cX5_clear 15 = .ok (.aload_n 0, 1) := by decide +kernel
theorem dX5_clear_16 : decode cX5_clear 16 = .ok (.getfield 25, 3) := by decide +kernel
theorem dX5_clear_19 : decode cX5_clear 19 = .ok (.invokevirtual 67, 3) := by decide +kernel
theorem dX5_clear_22 : decode cX5_clear 22 = .ok (.iload_n 1, 1) := by decide +kernel
theorem dX5_clear_23 : decode cX5_clear 23 = .ok (.ireturn, 1) := by decide +kernel
theorem dX5_addTeacher_0 : decode cX5_addTeacher 0 = .ok (.iload_n 1, 1) := by decide +kernel
theorem dX5_addTeacher_1 : decode cX5_addTeacher 1 = .ok (.iconst 1, 1) := by decide +kernel
theorem dX5_addTeacher_2 : decode cX5_addTeacher 2 = .ok (.bipush 63, 2) := by decide +kernel
theorem dX5_addTeacher_4 : decode cX5_addTeacher 4 = .ok (.invokestatic 70, 3) := by decide +kernel
theorem dX5_addTeacher_7 : decode cX5_addTeacher 7 = .ok (.iload_n 2, 1) := by decide +kernel
theorem dX5_addTeacher_8 : decode cX5_addTeacher 8 = .ok (.iconst 1, 1) := by decide +kernel
theorem dX5_addTeacher_9 : decode cX5_addTeacher 9 = .ok (.iconst 4, 1) := by decide +kernel
theorem dX5_addTeacher_10 : decode cX5_addTeacher 10 = .ok (.invokestatic 70, 3) := by decide +kernel
theorem dX5_addTeacher_13 : decode cX5_addTeacher 13 = .ok (.aload_n 0, 1) := by decide +kernel
theorem dX5_addTeacher_14 : decode cX5_addTeacher 14 = .ok (.getfield 10, 3) := by decide +kernel
theorem dX5_addTeacher_17 : decode cX5_addTeacher 17 = .ok (.getfield 74, 3) := by decide +kernel
theorem dX5_addTeacher_20 : decode cX5_addTeacher 20 = .ok (.bipush 8, 2) := by decide +kernel
theorem dX5_addTeacher_22 : decode cX5_addTeacher 22 = .ok (.if_icmp .lt 13, 3) := by decide +kernel
theorem dX5_addTeacher_25 : decode cX5_addTeacher 25 = .ok (.new 77, 3) := by decide +kernel
theorem dX5_addTeacher_28 : decode cX5_addTeacher 28 = .ok (.dup, 1) := by decide +kernel
theorem dX5_addTeacher_29 : decode cX5_addTeacher 29 = .ok (.ldc 79, 2) := by decide +kernel
theorem dX5_addTeacher_31 : decode cX5_addTeacher 31 = .ok (.invokespecial 81, 3) := by decide +kernel
theorem dX5_addTeacher_34 : decode cX5_addTeacher 34 = .ok (.athrow, 1) := by decide +kernel
theorem dX5_addTeacher_35 : decode cX5_addTeacher 35 = .ok (.aload_n 0, 1) := by decide +kernel
theorem dX5_addTeacher_36 : decode cX5_addTeacher 36 = .ok (.getfield 25, 3) := by decide +kernel
theorem dX5_addTeacher_39 : decode cX5_addTeacher 39 = .ok (.aload_n 0, 1) := by decide +kernel
theorem dX5_addTeacher_40 : decode cX5_addTeacher 40 = .ok (.getfield 10, 3) := by decide +kernel
theorem dX5_addTeacher_43 : decode cX5_addTeacher 43 = .ok (.invokevirtual 84, 3) := by decide +kernel
theorem dX5_addTeacher_46 : decode cX5_addTeacher 46 = .ok (.aload_n 0, 1) := by decide +kernel
theorem dX5_addTeacher_47 : decode cX5_addTeacher 47 = .ok (.getfield 10, 3) := by decide +kernel
theorem dX5_addTeacher_50 : decode cX5_addTeacher 50 = .ok (.iload_n 1, 1) := by decide +kernel
theorem dX5_addTeacher_51 : decode cX5_addTeacher 51 = .ok (.iload_n 2, 1) := by decide +kernel
theorem dX5_addTeacher_52 : decode cX5_addTeacher 52 = .ok (.invokevirtual 88, 3) := by decide +kernel
theorem dX5_addTeacher_55 : decode cX5_addTeacher 55 = .ok (.ireturn, 1) := by decide +kernel
theorem dX5_setLimit_0 : decode cX5_setLimit 0 = .ok (.aload_n 0, 1) := by decide +kernel
theorem dX5_setLimit_1 : decode cX5_setLimit 1 = .ok (.iload_n 1, 1) := by decide +kernel
theorem dX5_setLimit_2 : decode cX5_setLimit 2 = .ok (.invokevirtual 92, 3) := by decide +kernel
theorem dX5_setLimit_5 : decode cX5_setLimit 5 = .ok (.iload_n 2, 1) := by decide +kernel
theorem dX5_setLimit_6 : decode cX5_setLimit 6 = .ok (.iconst 0, 1) := by decide +kernel
theorem dX5_setLimit_7 : decode cX5_setLimit 7 = .ok (.iconst 3, 1) := by decide +kernel
theorem dX5_setLimit_8 : decode cX5_setLimit 8 = .ok (.invokestatic 70, 3) := by decide +kernel
theorem dX5_setLimit_11 : decode cX5_setLimit 11 = .ok (.aload_n 0, 1) := by decide +kernel
theorem dX5_setLimit_12 : decode cX5_setLimit 12 = .ok (.getfield 25, 3) := by decide +kernel
theorem dX5_setLimit_15 : decode cX5_setLimit 15 = .ok (.aload_n 0, 1) := by decide +kernel
theorem dX5_setLimit_16 : decode cX5_setLimit 16 = .ok (.getfield 10, 3) := by decide +kernel
theorem dX5_setLimit_19 : decode cX5_setLimit 19 = .ok (.invokevirtual 84, 3) := by decide +kernel
theorem dX5_setLimit_22 : decode cX5_setLimit 22 = .ok (.aload_n 0, 1) := by decide +kernel
theorem dX5_setLimit_23 : decode cX5_setLimit 23 = .ok (.getfield 10, 3) := by decide +kernel
theorem dX5_setLimit_26 : decode cX5_setLimit 26 = .ok (.getfield 96, 3) := by decide +kernel
theorem dX5_setLimit_29 : decode cX5_setLimit 29 = .ok (.iload_n 1, 1) := by decide +kernel
theorem dX5_setLimit_30 : decode cX5_setLimit 30 = .ok (.iload_n 2, 1) := by decide +kernel
theorem dX5_setLimit_31 : decode cX5_setLimit 31 = .ok (.invokestatic 100, 3) := by decide +kernel
theorem dX5_setLimit_34 : decode cX5_setLimit 34 = .ok (.ireturn, 1) := by decide +kernel
theorem dX5_setSize_0 : decode cX5_setSize 0 = .ok (.iload_n 1, 1) := by decide +kernel
theorem dX5_setSize_1 : decode cX5_setSize 1 = .ok (.bipush 6, 2) := by decide +kernel
theorem dX5_setSize_3 : decode cX5_setSize 3 = .ok (.invokestatic 104, 3) := by decide +kernel
theorem dX5_setSize_6 : decode cX5_setSize 6 = .ok (.iload_n 2, 1) := by decide +kernel
theorem dX5_setSize_7 : decode cX5_setSize 7 = .ok (.iconst 1, 1) := by decide +kernel
theorem dX5_setSize_8 : decode cX5_setSize 8 = .ok (.bipush 30, 2) := by decide +kernel
theorem dX5_setSize_10 : decode cX5_setSize 10 = .ok (.invokestatic 70, 3) := by decide +kernel
theorem dX5_setSize_13 : decode cX5_setSize 13 = .ok (.aload_n 0, 1) := by decide +kernel
theorem dX5_setSize_14 : decode cX5_setSize 14 = .ok (.getfield 10, 3) := by decide +kernel
theorem dX5_setSize_17 : decode cX5_setSize 17 = .ok (.iload_n 1, 1) := by decide +kernel
theorem dX5_setSize_18 : decode cX5_setSize 18 = .ok (.iload_n 2, 1) := by decide +kernel
theorem dX5_setSize_19 : decode cX5_setSize 19 = .ok (.invokevirtual 108, 3) := by decide +kernel
theorem dX5_setSize_22 : decode cX5_setSize 22 = .ok (.ifCond .ne 13, 3) := by decide +kernel
theorem dX5_setSize_25 : decode cX5_setSize 25 = .ok (.new 77, 3) := by decide +kernel
theorem dX5_setSize_28 : decode cX5_setSize 28 = .ok (.dup, 1) := by decide +kernel
theorem dX5_setSize_29 : decode cX5_setSize 29 = .ok (.ldc 112, 2) := by decide +kernel
theorem dX5_setSize_31 : decode cX5_setSize 31 = .ok (.invokespecial 81, 3) := by decide +kernel
theorem dX5_setSize_34 : decode cX5_setSize 34 = .ok (.athrow, 1) := by decide +kernel
theorem dX5_setSize_35 : decode cX5_setSize 35 = .ok (.aload_n 0, 1) := by decide +kernel
theorem dX5_setSize_36 : decode cX5_setSize 36 = .ok (.getfield 25, 3) := by decide +kernel
theorem dX5_setSize_39 : decode cX5_setSize 39 = .ok (.aload_n 0, 1) := by decide +kernel
theorem dX5_setSize_40 : decode cX5_setSize 40 = .ok (.getfield 10, 3) := by decide +kernel
theorem dX5_setSize_43 : decode cX5_setSize 43 = .ok (.invokevirtual 84, 3) := by decide +kernel
theorem dX5_setSize_46 : decode cX5_setSize 46 = .ok (.aload_n 0, 1) := by decide +kernel
theorem dX5_setSize_47 : decode cX5_setSize 47 = .ok (.getfield 10, 3) := by decide +kernel
theorem dX5_setSize_50 : decode cX5_setSize 50 = .ok (.getfield 114, 3) := by decide +kernel
theorem dX5_setSize_53 : decode cX5_setSize 53 = .ok (.iload_n 1, 1) := by decide +kernel
theorem dX5_setSize_54 : decode cX5_setSize 54 = .ok (.iload_n 2, 1) := by decide +kernel
theorem dX5_setSize_55 : decode cX5_setSize 55 = .ok (.invokestatic 100, 3) := by decide +kernel
theorem dX5_setSize_58 : decode cX5_setSize 58 = .ok (.ireturn, 1) := by decide +kernel
theorem dX5_setCapacity_0 : decode cX5_setCapacity 0 = .ok (.iload_n 1, 1) := by decide +kernel
theorem dX5_setCapacity_1 : decode cX5_setCapacity 1 = .ok (.bipush 6, 2) := by decide +kernel
theorem dX5_setCapacity_3 : decode cX5_setCapacity 3 = .ok (.invokestatic 104, 3) := by decide +kernel
theorem dX5_setCapacity_6 : decode cX5_setCapacity 6 = .ok (.iload_n 2, 1) := by decide +kernel
theorem dX5_setCapacity_7 : decode cX5_setCapacity 7 = .ok (.bipush 10, 2) := by decide +kernel
theorem dX5_setCapacity_9 : decode cX5_setCapacity 9 = .ok (.bipush 60, 2) := by decide +kernel
theorem dX5_setCapacity_11 : decode cX5_setCapacity 11 = .ok (.invokestatic 70, 3) := by decide +kernel
theorem dX5_setCapacity_14 : decode cX5_setCapacity 14 = .ok (.aload_n 0, 1) := by decide +kernel
theorem dX5_setCapacity_15 : decode cX5_setCapacity 15 = .ok (.getfield 10, 3) := by decide +kernel
theorem dX5_setCapacity_18 : decode cX5_setCapacity 18 = .ok (.iload_n 1, 1) := by decide +kernel
theorem dX5_setCapacity_19 : decode cX5_setCapacity 19 = .ok (.iload_n 2, 1) := by decide +kernel
theorem dX5_setCapacity_20 : decode cX5_setCapacity 20 = .ok (.invokevirtual 117, 3) := by decide +kernel
theorem dX5_setCapacity_23 : decode cX5_setCapacity 23 = .ok (.ifCond .ne 13, 3) := by decide +kernel
theorem dX5_setCapacity_26 : decode cX5_setCapacity 26 = .ok (.new 77, 3) := by decide +kernel
theorem dX5_setCapacity_29 : decode cX5_setCapacity 29 = .ok (.dup, 1) := by decide +kernel
theorem dX5_setCapacity_30 : decode cX5_setCapacity 30 = .ok (.ldc 120, 2) := by decide +kernel
theorem dX5_setCapacity_32 : decode cX5_setCapacity 32 = .ok (.invokespecial 81, 3) := by decide +kernel
theorem dX5_setCapacity_35 : decode cX5_setCapacity 35 = .ok (.athrow, 1) := by decide +kernel
theorem dX5_setCapacity_36 : decode cX5_setCapacity 36 = .ok (.aload_n 0, 1) := by decide +kernel
theorem dX5_setCapacity_37 : decode cX5_setCapacity 37 = .ok (.getfield 25, 3) := by decide +kernel
theorem dX5_setCapacity_40 : decode cX5_setCapacity 40 = .ok (.aload_n 0, 1) := by decide +kernel
theorem dX5_setCapacity_41 : decode cX5_setCapacity 41 = .ok (.getfield 10, 3) := by decide +kernel
theorem dX5_setCapacity_44 : decode cX5_setCapacity 44 = .ok (.invokevirtual 84, 3) := by decide +kernel
theorem dX5_setCapacity_47 : decode cX5_setCapacity 47 = .ok (.aload_n 0, 1) := by decide +kernel
theorem dX5_setCapacity_48 : decode cX5_setCapacity 48 = .ok (.getfield 10, 3) := by decide +kernel
theorem dX5_setCapacity_51 : decode cX5_setCapacity 51 = .ok (.getfield 122, 3) := by decide +kernel
theorem dX5_setCapacity_54 : decode cX5_setCapacity 54 = .ok (.iload_n 1, 1) := by decide +kernel
theorem dX5_setCapacity_55 : decode cX5_setCapacity 55 = .ok (.iload_n 2, 1) := by decide +kernel
theorem dX5_setCapacity_56 : decode cX5_setCapacity 56 = .ok (.invokestatic 100, 3) := by decide +kernel
theorem dX5_setCapacity_59 : decode cX5_setCapacity 59 = .ok (.ireturn, 1) := by decide +kernel
theorem dX5_addLesson_0 : decode cX5_addLesson 0 = .ok (.aload_n 0, 1) := by decide +kernel
theorem dX5_addLesson_1 : decode cX5_addLesson 1 = .ok (.getfield 10, 3) := by decide +kernel
theorem dX5_addLesson_4 : decode cX5_addLesson 4 = .ok (.iload_n 1, 1) := by decide +kernel
theorem dX5_addLesson_5 : decode cX5_addLesson 5 = .ok (.iload_n 2, 1) := by decide +kernel
theorem dX5_addLesson_6 : decode cX5_addLesson 6 = .ok (.iload_n 3, 1) := by decide +kernel
theorem dX5_addLesson_7 : decode cX5_addLesson 7 = .ok (.iload 4, 2) := by decide +kernel
theorem dX5_addLesson_9 : decode cX5_addLesson 9 = .ok (.iload 5, 2) := by decide +kernel
theorem dX5_addLesson_11 : decode cX5_addLesson 11 = .ok (.invokevirtual 125, 3) := by decide +kernel
theorem dX5_addLesson_14 : decode cX5_addLesson 14 = .ok (.tableswitch 56 1 3 #[26, 36, 46], 26) := by decide +kernel
theorem dX5_addLesson_40 : decode cX5_addLesson 40 = .ok (.new 129, 3) := by decide +kernel
theorem dX5_addLesson_43 : decode cX5_addLesson 43 = .ok (.dup, 1) := by decide +kernel
theorem dX5_addLesson_44 : decode cX5_addLesson 44 = .ok (.ldc 131, 2) := by decide +kernel
theorem dX5_addLesson_46 : decode cX5_addLesson 46 = .ok (.invokespecial 133, 3) := by decide +kernel
theorem dX5_addLesson_49 : decode cX5_addLesson 49 = .ok (.athrow, 1) := by decide +kernel
theorem dX5_addLesson_50 : decode cX5_addLesson 50 = .ok (.new 134, 3) := by decide +kernel
theorem dX5_addLesson_53 : decode cX5_addLesson 53 = .ok (.dup, 1) := by decide +kernel
theorem dX5_addLesson_54 : decode cX5_addLesson 54 = .ok (.ldc 136, 2) := by decide +kernel
theorem dX5_addLesson_56 : decode cX5_addLesson 56 = .ok (.invokespecial 138, 3) := by decide +kernel
theorem dX5_addLesson_59 : decode cX5_addLesson 59 = .ok (.athrow, 1) := by decide +kernel
theorem dX5_addLesson_60 : decode cX5_addLesson 60 = .ok (.new 77, 3) := by decide +kernel
theorem dX5_addLesson_63 : decode cX5_addLesson 63 = .ok (.dup, 1) := by decide +kernel
theorem dX5_addLesson_64 : decode cX5_addLesson 64 = .ok (.ldc 139, 2) := by decide +kernel
theorem dX5_addLesson_66 : decode cX5_addLesson 66 = .ok (.invokespecial 81, 3) := by decide +kernel
theorem dX5_addLesson_69 : decode cX5_addLesson 69 = .ok (.athrow, 1) := by decide +kernel
theorem dX5_addLesson_70 : decode cX5_addLesson 70 = .ok (.aload_n 0, 1) := by decide +kernel
theorem dX5_addLesson_71 : decode cX5_addLesson 71 = .ok (.getfield 25, 3) := by decide +kernel
theorem dX5_addLesson_74 : decode cX5_addLesson 74 = .ok (.aload_n 0, 1) := by decide +kernel
theorem dX5_addLesson_75 : decode cX5_addLesson 75 = .ok (.getfield 10, 3) := by decide +kernel
theorem dX5_addLesson_78 : decode cX5_addLesson 78 = .ok (.invokevirtual 84, 3) := by decide +kernel
theorem dX5_addLesson_81 : decode cX5_addLesson 81 = .ok (.aload_n 0, 1) := by decide +kernel
theorem dX5_addLesson_82 : decode cX5_addLesson 82 = .ok (.getfield 10, 3) := by decide +kernel
theorem dX5_addLesson_85 : decode cX5_addLesson 85 = .ok (.iload_n 1, 1) := by decide +kernel
theorem dX5_addLesson_86 : decode cX5_addLesson 86 = .ok (.iload_n 2, 1) := by decide +kernel
theorem dX5_addLesson_87 : decode cX5_addLesson 87 = .ok (.iload_n 3, 1) := by decide +kernel
theorem dX5_addLesson_88 : decode cX5_addLesson 88 = .ok (.iload 4, 2) := by decide +kernel
theorem dX5_addLesson_90 : decode cX5_addLesson 90 = .ok (.iload 5, 2) := by decide +kernel
theorem dX5_addLesson_92 : decode cX5_addLesson 92 = .ok (.invokevirtual 141, 3) := by decide +kernel
theorem dX5_addLesson_95 : decode cX5_addLesson 95 = .ok (.ireturn, 1) := by decide +kernel
theorem dX5_removeLesson_0 : decode cX5_removeLesson 0 = .ok (.aload_n 0, 1) := by decide +kernel
theorem dX5_removeLesson_1 : decode cX5_removeLesson 1 = .ok (.iload_n 1, 1) := by decide +kernel
theorem dX5_removeLesson_2 : decode cX5_removeLesson 2 = .ok (.invokevirtual 144, 3) := by decide +kernel
theorem dX5_removeLesson_5 : decode cX5_removeLesson 5 = .ok (.aload_n 0, 1) := by decide +kernel
theorem dX5_removeLesson_6 : decode cX5_removeLesson 6 = .ok (.getfield 25, 3) := by decide +kernel
theorem dX5_removeLesson_9 : decode cX5_removeLesson 9 = .ok (.aload_n 0, 1) := by decide +kernel
theorem dX5_removeLesson_10 : decode cX5_removeLesson 10 = .ok (.getfield 10, 3) := by decide +kernel
theorem dX5_removeLesson_13 : decode cX5_removeLesson 13 = .ok (.invokevirtual 84, 3) := by decide +kernel
theorem dX5_removeLesson_16 : decode cX5_removeLesson 16 = .ok (.aload_n 0, 1) := by decide +kernel
theorem dX5_removeLesson_17 : decode cX5_removeLesson 17 = .ok (.getfield 10, 3) := by decide +kernel
theorem dX5_removeLesson_20 : decode cX5_removeLesson 20 = .ok (.iload_n 1, 1) := by decide +kernel
theorem dX5_removeLesson_21 : decode cX5_removeLesson 21 = .ok (.invokevirtual 147, 3) := by decide +kernel
theorem dX5_removeLesson_24 : decode cX5_removeLesson 24 = .ok (.aload_n 0, 1) := by decide +kernel
theorem dX5_removeLesson_25 : decode cX5_removeLesson 25 = .ok (.getfield 10, 3) := by decide +kernel
theorem dX5_removeLesson_28 : decode cX5_removeLesson 28 = .ok (.getfield 61, 3) := by decide +kernel
theorem dX5_removeLesson_31 : decode cX5_removeLesson 31 = .ok (.ireturn, 1) := by decide +kernel
theorem dX5_setRoom_0 : decode cX5_setRoom 0 = .ok (.aload_n 0, 1) := by decide +kernel
theorem dX5_setRoom_1 : decode cX5_setRoom 1 = .ok (.iload_n 1, 1) := by decide +kernel
theorem dX5_setRoom_2 : decode cX5_setRoom 2 = .ok (.invokevirtual 144, 3) := by decide +kernel
theorem dX5_setRoom_5 : decode cX5_setRoom 5 = .ok (.iload_n 2, 1) := by decide +kernel
theorem dX5_setRoom_6 : decode cX5_setRoom 6 = .ok (.iconst 0, 1) := by decide +kernel
theorem dX5_setRoom_7 : decode cX5_setRoom 7 = .ok (.iconst 5, 1) := by decide +kernel
theorem dX5_setRoom_8 : decode cX5_setRoom 8 = .ok (.invokestatic 70, 3) := by decide +kernel
theorem dX5_setRoom_11 : decode cX5_setRoom 11 = .ok (.aload_n 0, 1) := by decide +kernel
theorem dX5_setRoom_12 : decode cX5_setRoom 12 = .ok (.getfield 10, 3) := by decide +kernel
theorem dX5_setRoom_15 : decode cX5_setRoom 15 = .ok (.iload_n 1, 1) := by decide +kernel
theorem dX5_setRoom_16 : decode cX5_setRoom 16 = .ok (.iload_n 2, 1) := by decide +kernel
theorem dX5_setRoom_17 : decode cX5_setRoom 17 = .ok (.invokevirtual 150, 3) := by decide +kernel
theorem dX5_setRoom_20 : decode cX5_setRoom 20 = .ok (.ifCond .ne 13, 3) := by decide +kernel
theorem dX5_setRoom_23 : decode cX5_setRoom 23 = .ok (.new 77, 3) := by decide +kernel
theorem dX5_setRoom_26 : decode cX5_setRoom 26 = .ok (.dup, 1) := by decide +kernel
theorem dX5_setRoom_27 : decode cX5_setRoom 27 = .ok (.ldc 153, 2) := by decide +kernel
theorem dX5_setRoom_29 : decode cX5_setRoom 29 = .ok (.invokespecial 81, 3) := by decide +kernel
theorem dX5_setRoom_32 : decode cX5_setRoom 32 = .ok (.athrow, 1) := by decide +kernel
theorem dX5_setRoom_33 : decode cX5_setRoom 33 = .ok (.aload_n 0, 1) := by decide +kernel
theorem dX5_setRoom_34 : decode cX5_setRoom 34 = .ok (.getfield 25, 3) := by decide +kernel
theorem dX5_setRoom_37 : decode cX5_setRoom 37 = .ok (.aload_n 0, 1) := by decide +kernel
theorem dX5_setRoom_38 : decode cX5_setRoom 38 = .ok (.getfield 10, 3) := by decide +kernel
theorem dX5_setRoom_41 : decode cX5_setRoom 41 = .ok (.invokevirtual 84, 3) := by decide +kernel
theorem dX5_setRoom_44 : decode cX5_setRoom 44 = .ok (.aload_n 0, 1) := by decide +kernel
theorem dX5_setRoom_45 : decode cX5_setRoom 45 = .ok (.getfield 10, 3) := by decide +kernel
theorem dX5_setRoom_48 : decode cX5_setRoom 48 = .ok (.getfield 155, 3) := by decide +kernel
theorem dX5_setRoom_51 : decode cX5_setRoom 51 = .ok (.iload_n 1, 1) := by decide +kernel
theorem dX5_setRoom_52 : decode cX5_setRoom 52 = .ok (.iload_n 2, 1) := by decide +kernel
theorem dX5_setRoom_53 : decode cX5_setRoom 53 = .ok (.invokestatic 100, 3) := by decide +kernel
theorem dX5_setRoom_56 : decode cX5_setRoom 56 = .ok (.ireturn, 1) := by decide +kernel
theorem dX5_count_0 : decode cX5_count 0 = .ok (.iload_n 1, 1) := by decide +kernel
theorem dX5_count_1 : decode cX5_count 1 = .ok (.tableswitch 115 0 7 #[47, 55, 63, 72, 81, 90, 99, 107], 47) := by decide +kernel
theorem dX5_count_48 : decode cX5_count 48 = .ok (.aload_n 0, 1) := by decide +kernel
theorem dX5_count_49 : decode cX5_count 49 = .ok (.getfield 10, 3) := by decide +kernel
theorem dX5_count_52 : decode cX5_count 52 = .ok (.getfield 74, 3) := by decide +kernel
theorem dX5_count_55 : decode cX5_count 55 = .ok (.ireturn, 1) := by decide +kernel
theorem dX5_count_56 : decode cX5_count 56 = .ok (.aload_n 0, 1) := by decide +kernel
theorem dX5_count_57 : decode cX5_count 57 = .ok (.getfield 10, 3) := by decide +kernel
theorem dX5_count_60 : decode cX5_count 60 = .ok (.getfield 61, 3) := by decide +kernel
theorem dX5_count_63 : decode cX5_count 63 = .ok (.ireturn, 1) := by decide +kernel
theorem dX5_count_64 : decode cX5_count 64 = .ok (.aload_n 0, 1) := by decide +kernel
theorem dX5_count_65 : decode cX5_count 65 = .ok (.getfield 10, 3) := by decide +kernel
theorem dX5_count_68 : decode cX5_count 68 = .ok (.iconst 0, 1) := by decide +kernel
theorem dX5_count_69 : decode cX5_count 69 = .ok (.invokevirtual 158, 3) := by decide +kernel
theorem dX5_count_72 : decode cX5_count 72 = .ok (.ireturn, 1) := by decide +kernel
theorem dX5_count_73 : decode cX5_count 73 = .ok (.aload_n 0, 1) := by decide +kernel
theorem dX5_count_74 : decode cX5_count 74 = .ok (.getfield 10, 3) := by decide +kernel
theorem dX5_count_77 : decode cX5_count 77 = .ok (.iconst 1, 1) := by decide +kernel
theorem dX5_count_78 : decode cX5_count 78 = .ok (.invokevirtual 158, 3) := by decide +kernel
theorem dX5_count_81 : decode cX5_count 81 = .ok (.ireturn, 1) := by decide +kernel
theorem dX5_count_82 : decode cX5_count 82 = .ok (.aload_n 0, 1) := by decide +kernel
theorem dX5_count_83 : decode cX5_count 83 = .ok (.getfield 10, 3) := by decide +kernel
theorem dX5_count_86 : decode cX5_count 86 = .ok (.iconst 2, 1) := by decide +kernel
theorem dX5_count_87 : decode cX5_count 87 = .ok (.invokevirtual 158, 3) := by decide +kernel
theorem dX5_count_90 : decode cX5_count 90 = .ok (.ireturn, 1) := by decide +kernel
theorem dX5_count_91 : decode cX5_count 91 = .ok (.aload_n 0, 1) := by decide +kernel
theorem dX5_count_92 : decode cX5_count 92 = .ok (.getfield 10, 3) := by decide +kernel
theorem dX5_count_95 : decode cX5_count 95 = .ok (.iconst 3, 1) := by decide +kernel
theorem dX5_count_96 : decode cX5_count 96 = .ok (.invokevirtual 158, 3) := by decide +kernel
theorem dX5_count_99 : decode cX5_count 99 = .ok (.ireturn, 1) := by decide +kernel
theorem dX5_count_100 : decode cX5_count 100 = .ok (.aload_n 0, 1) := by decide +kernel
theorem dX5_count_101 : decode cX5_count 101 = .ok (.getfield 10, 3) := by decide +kernel
theorem dX5_count_104 : decode cX5_count 104 = .ok (.getfield 162, 3) := by decide +kernel
theorem dX5_count_107 : decode cX5_count 107 = .ok (.ireturn, 1) := by decide +kernel
theorem dX5_count_108 : decode cX5_count 108 = .ok (.aload_n 0, 1) := by decide +kernel
theorem dX5_count_109 : decode cX5_count 109 = .ok (.getfield 10, 3) := by decide +kernel
theorem dX5_count_112 : decode cX5_count 112 = .ok (.getfield 165, 3) := by decide +kernel
theorem dX5_count_115 : decode cX5_count 115 = .ok (.ireturn, 1) := by decide +kernel
theorem dX5_count_116 : decode cX5_count 116 = .ok (.new 129, 3) := by decide +kernel
theorem dX5_count_119 : decode cX5_count 119 = .ok (.dup, 1) := by decide +kernel
theorem dX5_count_120 : decode cX5_count 120 = .ok (.ldc 168, 2) := by decide +kernel
theorem dX5_count_122 : decode cX5_count 122 = .ok (.invokespecial 133, 3) := by decide +kernel
theorem dX5_count_125 : decode cX5_count 125 = .ok (.athrow, 1) := by decide +kernel
theorem dX5_lesson_0 : decode cX5_lesson 0 = .ok (.aload_n 0, 1) := by decide +kernel
theorem dX5_lesson_1 : decode cX5_lesson 1 = .ok (.iload_n 1, 1) := by decide +kernel
theorem dX5_lesson_2 : decode cX5_lesson 2 = .ok (.invokevirtual 144, 3) := by decide +kernel
theorem dX5_lesson_5 : decode cX5_lesson 5 = .ok (.iload_n 2, 1) := by decide +kernel
theorem dX5_lesson_6 : decode cX5_lesson 6 = .ok (.tableswitch 133 0 7 #[46, 58, 70, 82, 94, 106, 115, 124], 46) := by decide +kernel
theorem dX5_lesson_52 : decode cX5_lesson 52 = .ok (.aload_n 0, 1) := by decide +kernel
theorem dX5_lesson_53 : decode cX5_lesson 53 = .ok (.getfield 10, 3) := by decide +kernel
theorem dX5_lesson_56 : decode cX5_lesson 56 = .ok (.getfield 170, 3) := by decide +kernel
theorem dX5_lesson_59 : decode cX5_lesson 59 = .ok (.iload_n 1, 1) := by decide +kernel
theorem dX5_lesson_60 : decode cX5_lesson 60 = .ok (.invokestatic 173, 3) := by decide +kernel
theorem dX5_lesson_63 : decode cX5_lesson 63 = .ok (.ireturn, 1) := by decide +kernel
theorem dX5_lesson_64 : decode cX5_lesson 64 = .ok (.aload_n 0, 1) := by decide +kernel
theorem dX5_lesson_65 : decode cX5_lesson 65 = .ok (.getfield 10, 3) := by decide +kernel
theorem dX5_lesson_68 : decode cX5_lesson 68 = .ok (.getfield 177, 3) := by decide +kernel
theorem dX5_lesson_71 : decode cX5_lesson 71 = .ok (.iload_n 1, 1) := by decide +kernel
theorem dX5_lesson_72 : decode cX5_lesson 72 = .ok (.invokestatic 173, 3) := by decide +kernel
theorem dX5_lesson_75 : decode cX5_lesson 75 = .ok (.ireturn, 1) := by decide +kernel
theorem dX5_lesson_76 : decode cX5_lesson 76 = .ok (.aload_n 0, 1) := by decide +kernel
theorem dX5_lesson_77 : decode cX5_lesson 77 = .ok (.getfield 10, 3) := by decide +kernel
theorem dX5_lesson_80 : decode cX5_lesson 80 = .ok (.getfield 180, 3) := by decide +kernel
theorem dX5_lesson_83 : decode cX5_lesson 83 = .ok (.iload_n 1, 1) := by decide +kernel
theorem dX5_lesson_84 : decode cX5_lesson 84 = .ok (.invokestatic 173, 3) := by decide +kernel
theorem dX5_lesson_87 : decode cX5_lesson 87 = .ok (.ireturn, 1) := by decide +kernel
theorem dX5_lesson_88 : decode cX5_lesson 88 = .ok (.aload_n 0, 1) := by decide +kernel
theorem dX5_lesson_89 : decode cX5_lesson 89 = .ok (.getfield 10, 3) := by decide +kernel
theorem dX5_lesson_92 : decode cX5_lesson 92 = .ok (.getfield 183, 3) := by decide +kernel
theorem dX5_lesson_95 : decode cX5_lesson 95 = .ok (.iload_n 1, 1) := by decide +kernel
theorem dX5_lesson_96 : decode cX5_lesson 96 = .ok (.invokestatic 173, 3) := by decide +kernel
theorem dX5_lesson_99 : decode cX5_lesson 99 = .ok (.ireturn, 1) := by decide +kernel
theorem dX5_lesson_100 : decode cX5_lesson 100 = .ok (.aload_n 0, 1) := by decide +kernel
theorem dX5_lesson_101 : decode cX5_lesson 101 = .ok (.getfield 10, 3) := by decide +kernel
theorem dX5_lesson_104 : decode cX5_lesson 104 = .ok (.getfield 155, 3) := by decide +kernel
theorem dX5_lesson_107 : decode cX5_lesson 107 = .ok (.iload_n 1, 1) := by decide +kernel
theorem dX5_lesson_108 : decode cX5_lesson 108 = .ok (.invokestatic 173, 3) := by decide +kernel
theorem dX5_lesson_111 : decode cX5_lesson 111 = .ok (.ireturn, 1) := by decide +kernel
theorem dX5_lesson_112 : decode cX5_lesson 112 = .ok (.aload_n 0, 1) := by decide +kernel
theorem dX5_lesson_113 : decode cX5_lesson 113 = .ok (.getfield 10, 3) := by decide +kernel
theorem dX5_lesson_116 : decode cX5_lesson 116 = .ok (.iload_n 1, 1) := by decide +kernel
theorem dX5_lesson_117 : decode cX5_lesson 117 = .ok (.invokevirtual 186, 3) := by decide +kernel
theorem dX5_lesson_120 : decode cX5_lesson 120 = .ok (.ireturn, 1) := by decide +kernel
theorem dX5_lesson_121 : decode cX5_lesson 121 = .ok (.aload_n 0, 1) := by decide +kernel
theorem dX5_lesson_122 : decode cX5_lesson 122 = .ok (.getfield 10, 3) := by decide +kernel
theorem dX5_lesson_125 : decode cX5_lesson 125 = .ok (.iload_n 1, 1) := by decide +kernel
theorem dX5_lesson_126 : decode cX5_lesson 126 = .ok (.invokevirtual 189, 3) := by decide +kernel
theorem dX5_lesson_129 : decode cX5_lesson 129 = .ok (.ireturn, 1) := by decide +kernel
theorem dX5_lesson_130 : decode cX5_lesson 130 = .ok (.aload_n 0, 1) := by decide +kernel
theorem dX5_lesson_131 : decode cX5_lesson 131 = .ok (.getfield 10, 3) := by decide +kernel
theorem dX5_lesson_134 : decode cX5_lesson 134 = .ok (.iload_n 1, 1) := by decide +kernel
theorem dX5_lesson_135 : decode cX5_lesson 135 = .ok (.invokevirtual 192, 3) := by decide +kernel
theorem dX5_lesson_138 : decode cX5_lesson 138 = .ok (.ireturn, 1) := by decide +kernel
theorem dX5_lesson_139 : decode cX5_lesson 139 = .ok (.new 129, 3) := by decide +kernel
theorem dX5_lesson_142 : decode cX5_lesson 142 = .ok (.dup, 1) := by decide +kernel
theorem dX5_lesson_143 : decode cX5_lesson 143 = .ok (.ldc 168, 2) := by decide +kernel
theorem dX5_lesson_145 : decode cX5_lesson 145 = .ok (.invokespecial 133, 3) := by decide +kernel
theorem dX5_lesson_148 : decode cX5_lesson 148 = .ok (.athrow, 1) := by decide +kernel
theorem dX5_teacher_0 : decode cX5_teacher 0 = .ok (.aload_n 0, 1) := by decide +kernel
theorem dX5_teacher_1 : decode cX5_teacher 1 = .ok (.iload_n 1, 1) := by decide +kernel
theorem dX5_teacher_2 : decode cX5_teacher 2 = .ok (.invokevirtual 92, 3) := by decide +kernel
theorem dX5_teacher_5 : decode cX5_teacher 5 = .ok (.iload_n 2, 1) := by decide +kernel
theorem dX5_teacher_6 : decode cX5_teacher 6 = .ok (.tableswitch 130 0 7 #[46, 58, 70, 82, 94, 103, 112, 121], 46) := by decide +kernel
theorem dX5_teacher_52 : decode cX5_teacher 52 = .ok (.aload_n 0, 1) := by decide +kernel
theorem dX5_teacher_53 : decode cX5_teacher 53 = .ok (.getfield 10, 3) := by decide +kernel
theorem dX5_teacher_56 : decode cX5_teacher 56 = .ok (.getfield 195, 3) := by decide +kernel
theorem dX5_teacher_59 : decode cX5_teacher 59 = .ok (.iload_n 1, 1) := by decide +kernel
theorem dX5_teacher_60 : decode cX5_teacher 60 = .ok (.invokestatic 173, 3) := by decide +kernel
theorem dX5_teacher_63 : decode cX5_teacher 63 = .ok (.ireturn, 1) := by decide +kernel
theorem dX5_teacher_64 : decode cX5_teacher 64 = .ok (.aload_n 0, 1) := by decide +kernel
theorem dX5_teacher_65 : decode cX5_teacher 65 = .ok (.getfield 10, 3) := by decide +kernel
theorem dX5_teacher_68 : decode cX5_teacher 68 = .ok (.getfield 198, 3) := by decide +kernel
theorem dX5_teacher_71 : decode cX5_teacher 71 = .ok (.iload_n 1, 1) := by decide +kernel
theorem dX5_teacher_72 : decode cX5_teacher 72 = .ok (.invokestatic 173, 3) := by decide +kernel
theorem dX5_teacher_75 : decode cX5_teacher 75 = .ok (.ireturn, 1) := by decide +kernel
theorem dX5_teacher_76 : decode cX5_teacher 76 = .ok (.aload_n 0, 1) := by decide +kernel
theorem dX5_teacher_77 : decode cX5_teacher 77 = .ok (.getfield 10, 3) := by decide +kernel
theorem dX5_teacher_80 : decode cX5_teacher 80 = .ok (.getfield 96, 3) := by decide +kernel
theorem dX5_teacher_83 : decode cX5_teacher 83 = .ok (.iload_n 1, 1) := by decide +kernel
theorem dX5_teacher_84 : decode cX5_teacher 84 = .ok (.invokestatic 173, 3) := by decide +kernel
theorem dX5_teacher_87 : decode cX5_teacher 87 = .ok (.ireturn, 1) := by decide +kernel
theorem dX5_teacher_88 : decode cX5_teacher 88 = .ok (.aload_n 0, 1) := by decide +kernel
theorem dX5_teacher_89 : decode cX5_teacher 89 = .ok (.getfield 10, 3) := by decide +kernel
theorem dX5_teacher_92 : decode cX5_teacher 92 = .ok (.getfield 201, 3) := by decide +kernel
theorem dX5_teacher_95 : decode cX5_teacher 95 = .ok (.iload_n 1, 1) := by decide +kernel
theorem dX5_teacher_96 : decode cX5_teacher 96 = .ok (.invokestatic 173, 3) := by decide +kernel
theorem dX5_teacher_99 : decode cX5_teacher 99 = .ok (.ireturn, 1) := by decide +kernel
theorem dX5_teacher_100 : decode cX5_teacher 100 = .ok (.aload_n 0, 1) := by decide +kernel
theorem dX5_teacher_101 : decode cX5_teacher 101 = .ok (.getfield 10, 3) := by decide +kernel
theorem dX5_teacher_104 : decode cX5_teacher 104 = .ok (.iload_n 1, 1) := by decide +kernel
theorem dX5_teacher_105 : decode cX5_teacher 105 = .ok (.invokevirtual 204, 3) := by decide +kernel
theorem dX5_teacher_108 : decode cX5_teacher 108 = .ok (.ireturn, 1) := by decide +kernel
theorem dX5_teacher_109 : decode cX5_teacher 109 = .ok (.aload_n 0, 1) := by decide +kernel
theorem dX5_teacher_110 : decode cX5_teacher 110 = .ok (.getfield 10, 3) := by decide +kernel
theorem dX5_teacher_113 : decode cX5_teacher 113 = .ok (.iload_n 1, 1) := by decide +kernel
theorem dX5_teacher_114 : decode cX5_teacher 114 = .ok (.invokevirtual 207, 3) := by decide +kernel
theorem dX5_teacher_117 : decode cX5_teacher 117 = .ok (.ireturn, 1) := by decide +kernel
theorem dX5_teacher_118 : decode cX5_teacher 118 = .ok (.aload_n 0, 1) := by decide +kernel
theorem dX5_teacher_119 : decode cX5_teacher 119 = .ok (.getfield 10, 3) := by decide +kernel
theorem dX5_teacher_122 : decode cX5_teacher 122 = .ok (.iload_n 1, 1) := by decide +kernel
theorem dX5_teacher_123 : decode cX5_teacher 123 = .ok (.invokevirtual 210, 3) := by decide +kernel
theorem dX5_teacher_126 : decode cX5_teacher 126 = .ok (.ireturn, 1) := by decide +kernel
theorem dX5_teacher_127 : decode cX5_teacher 127 = .ok (.aload_n 0, 1) := by decide +kernel
theorem dX5_teacher_128 : decode cX5_teacher 128 = .ok (.getfield 10, 3) := by decide +kernel
theorem dX5_teacher_131 : decode cX5_teacher 131 = .ok (.iload_n 1, 1) := by decide +kernel
theorem dX5_teacher_132 : decode cX5_teacher 132 = .ok (.invokevirtual 213, 3) := by decide +kernel
theorem dX5_teacher_135 : decode cX5_teacher 135 = .ok (.ireturn, 1) := by decide +kernel
theorem dX5_teacher_136 : decode cX5_teacher 136 = .ok (.new 129, 3) := by decide +kernel
theorem dX5_teacher_139 : decode cX5_teacher 139 = .ok (.dup, 1) := by decide +kernel
theorem dX5_teacher_140 : decode cX5_teacher 140 = .ok (.ldc 168, 2) := by decide +kernel
theorem dX5_teacher_142 : decode cX5_teacher 142 = .ok (.invokespecial 133, 3) := by decide +kernel
theorem dX5_teacher_145 : decode cX5_teacher 145 = .ok (.athrow, 1) := by decide +kernel
theorem dX5_lessonOf_0 : decode cX5_lessonOf 0 = .ok (.iload_n 1, 1) := by decide +kernel
theorem dX5_lessonOf_1 : decode cX5_lessonOf 1 = .ok (.bipush 30, 2) := by decide +kernel
theorem dX5_lessonOf_3 : decode cX5_lessonOf 3 = .ok (.invokestatic 104, 3) := by decide +kernel
theorem dX5_lessonOf_6 : decode cX5_lessonOf 6 = .ok (.iload_n 2, 1) := by decide +kernel
theorem dX5_lessonOf_7 : decode cX5_lessonOf 7 = .ok (.bipush 6, 2) := by decide +kernel
theorem dX5_lessonOf_9 : decode cX5_lessonOf 9 = .ok (.invokestatic 104, 3) := by decide +kernel
theorem dX5_lessonOf_12 : decode cX5_lessonOf 12 = .ok (.aload_n 0, 1) := by decide +kernel
theorem dX5_lessonOf_13 : decode cX5_lessonOf 13 = .ok (.getfield 10, 3) := by decide +kernel
theorem dX5_lessonOf_16 : decode cX5_lessonOf 16 = .ok (.iload_n 1, 1) := by decide +kernel
theorem dX5_lessonOf_17 : decode cX5_lessonOf 17 = .ok (.aload_n 0, 1) := by decide +kernel
theorem dX5_lessonOf_18 : decode cX5_lessonOf 18 = .ok (.getfield 10, 3) := by decide +kernel
theorem dX5_lessonOf_21 : decode cX5_lessonOf 21 = .ok (.getfield 177, 3) := by decide +kernel
theorem dX5_lessonOf_24 : decode cX5_lessonOf 24 = .ok (.iload_n 2, 1) := by decide +kernel
theorem dX5_lessonOf_25 : decode cX5_lessonOf 25 = .ok (.invokevirtual 216, 3) := by decide +kernel
theorem dX5_lessonOf_28 : decode cX5_lessonOf 28 = .ok (.istore_n 3, 1) := by decide +kernel
theorem dX5_lessonOf_29 : decode cX5_lessonOf 29 = .ok (.iload_n 3, 1) := by decide +kernel
theorem dX5_lessonOf_30 : decode cX5_lessonOf 30 = .ok (.iconst (-1), 1) := by decide +kernel
theorem dX5_lessonOf_31 : decode cX5_lessonOf 31 = .ok (.if_icmp .ne 13, 3) := by decide +kernel
theorem dX5_lessonOf_34 : decode cX5_lessonOf 34 = .ok (.new 220, 3) := by decide +kernel
theorem dX5_lessonOf_37 : decode cX5_lessonOf 37 = .ok (.dup, 1) := by decide +kernel
theorem dX5_lessonOf_38 : decode cX5_lessonOf 38 = .ok (.ldc 222, 2) := by decide +kernel
theorem dX5_lessonOf_40 : decode cX5_lessonOf 40 = .ok (.invokespecial 224, 3) := by decide +kernel
theorem dX5_lessonOf_43 : decode cX5_lessonOf 43 = .ok (.athrow, 1) := by decide +kernel
theorem dX5_lessonOf_44 : decode cX5_lessonOf 44 = .ok (.iload_n 3, 1) := by decide +kernel
theorem dX5_lessonOf_45 : decode cX5_lessonOf 45 = .ok (.ireturn, 1) := by decide +kernel
theorem dX5_setAbsent_0 : decode cX5_setAbsent 0 = .ok (.aload_n 0, 1) := by decide +kernel
theorem dX5_setAbsent_1 : decode cX5_setAbsent 1 = .ok (.iload_n 1, 1) := by decide +kernel
theorem dX5_setAbsent_2 : decode cX5_setAbsent 2 = .ok (.invokevirtual 92, 3) := by decide +kernel
theorem dX5_setAbsent_5 : decode cX5_setAbsent 5 = .ok (.iload_n 2, 1) := by decide +kernel
theorem dX5_setAbsent_6 : decode cX5_setAbsent 6 = .ok (.bipush 30, 2) := by decide +kernel
theorem dX5_setAbsent_8 : decode cX5_setAbsent 8 = .ok (.invokestatic 104, 3) := by decide +kernel
theorem dX5_setAbsent_11 : decode cX5_setAbsent 11 = .ok (.aload_n 0, 1) := by decide +kernel
theorem dX5_setAbsent_12 : decode cX5_setAbsent 12 = .ok (.getfield 10, 3) := by decide +kernel
theorem dX5_setAbsent_15 : decode cX5_setAbsent 15 = .ok (.iload_n 1, 1) := by decide +kernel
theorem dX5_setAbsent_16 : decode cX5_setAbsent 16 = .ok (.iload_n 2, 1) := by decide +kernel
theorem dX5_setAbsent_17 : decode cX5_setAbsent 17 = .ok (.invokevirtual 225, 3) := by decide +kernel
theorem dX5_setAbsent_20 : decode cX5_setAbsent 20 = .ok (.iload_n 3, 1) := by decide +kernel
theorem dX5_setAbsent_21 : decode cX5_setAbsent 21 = .ok (.if_icmp .ne 13, 3) := by decide +kernel
theorem dX5_setAbsent_24 : decode cX5_setAbsent 24 = .ok (.new 77, 3) := by decide +kernel
theorem dX5_setAbsent_27 : decode cX5_setAbsent 27 = .ok (.dup, 1) := by decide +kernel
theorem dX5_setAbsent_28 : decode cX5_setAbsent 28 = .ok (.ldc 228, 2) := by decide +kernel
theorem dX5_setAbsent_30 : decode cX5_setAbsent 30 = .ok (.invokespecial 81, 3) := by decide +kernel
theorem dX5_setAbsent_33 : decode cX5_setAbsent 33 = .ok (.athrow, 1) := by decide +kernel
theorem dX5_setAbsent_34 : decode cX5_setAbsent 34 = .ok (.aload_n 0, 1) := by decide +kernel
theorem dX5_setAbsent_35 : decode cX5_setAbsent 35 = .ok (.getfield 25, 3) := by decide +kernel
theorem dX5_setAbsent_38 : decode cX5_setAbsent 38 = .ok (.aload_n 0, 1) := by decide +kernel
theorem dX5_setAbsent_39 : decode cX5_setAbsent 39 = .ok (.getfield 10, 3) := by decide +kernel
theorem dX5_setAbsent_42 : decode cX5_setAbsent 42 = .ok (.invokevirtual 84, 3) := by decide +kernel
theorem dX5_setAbsent_45 : decode cX5_setAbsent 45 = .ok (.aload_n 0, 1) := by decide +kernel
theorem dX5_setAbsent_46 : decode cX5_setAbsent 46 = .ok (.getfield 10, 3) := by decide +kernel
theorem dX5_setAbsent_49 : decode cX5_setAbsent 49 = .ok (.iload_n 1, 1) := by decide +kernel
theorem dX5_setAbsent_50 : decode cX5_setAbsent 50 = .ok (.iload_n 2, 1) := by decide +kernel
theorem dX5_setAbsent_51 : decode cX5_setAbsent 51 = .ok (.invokevirtual 230, 3) := by decide +kernel
theorem dX5_setAbsent_54 : decode cX5_setAbsent 54 = .ok (.ireturn, 1) := by decide +kernel
theorem dX5_absent_0 : decode cX5_absent 0 = .ok (.aload_n 0, 1) := by decide +kernel
theorem dX5_absent_1 : decode cX5_absent 1 = .ok (.iload_n 1, 1) := by decide +kernel
theorem dX5_absent_2 : decode cX5_absent 2 = .ok (.invokevirtual 92, 3) := by decide +kernel
theorem dX5_absent_5 : decode cX5_absent 5 = .ok (.iload_n 2, 1) := by decide +kernel
theorem dX5_absent_6 : decode cX5_absent 6 = .ok (.iconst 5, 1) := by decide +kernel
theorem dX5_absent_7 : decode cX5_absent 7 = .ok (.invokestatic 104, 3) := by decide +kernel
theorem dX5_absent_10 : decode cX5_absent 10 = .ok (.aload_n 0, 1) := by decide +kernel
theorem dX5_absent_11 : decode cX5_absent 11 = .ok (.getfield 10, 3) := by decide +kernel
theorem dX5_absent_14 : decode cX5_absent 14 = .ok (.iload_n 1, 1) := by decide +kernel
theorem dX5_absent_15 : decode cX5_absent 15 = .ok (.iload_n 2, 1) := by decide +kernel
theorem dX5_absent_16 : decode cX5_absent 16 = .ok (.invokevirtual 233, 3) := by decide +kernel
theorem dX5_absent_19 : decode cX5_absent 19 = .ok (.ireturn, 1) := by decide +kernel
theorem dX5_free_0 : decode cX5_free 0 = .ok (.aload_n 0, 1) := by decide +kernel
theorem dX5_free_1 : decode cX5_free 1 = .ok (.iload_n 1, 1) := by decide +kernel
theorem dX5_free_2 : decode cX5_free 2 = .ok (.invokevirtual 92, 3) := by decide +kernel
theorem dX5_free_5 : decode cX5_free 5 = .ok (.iload_n 2, 1) := by decide +kernel
theorem dX5_free_6 : decode cX5_free 6 = .ok (.iconst 5, 1) := by decide +kernel
theorem dX5_free_7 : decode cX5_free 7 = .ok (.invokestatic 104, 3) := by decide +kernel
theorem dX5_free_10 : decode cX5_free 10 = .ok (.aload_n 0, 1) := by decide +kernel
theorem dX5_free_11 : decode cX5_free 11 = .ok (.getfield 10, 3) := by decide +kernel
theorem dX5_free_14 : decode cX5_free 14 = .ok (.iload_n 1, 1) := by decide +kernel
theorem dX5_free_15 : decode cX5_free 15 = .ok (.iload_n 2, 1) := by decide +kernel
theorem dX5_free_16 : decode cX5_free 16 = .ok (.invokevirtual 236, 3) := by decide +kernel
theorem dX5_free_19 : decode cX5_free 19 = .ok (.ireturn, 1) := by decide +kernel
theorem dX5_freeRooms_0 : decode cX5_freeRooms 0 = .ok (.iload_n 1, 1) := by decide +kernel
theorem dX5_freeRooms_1 : decode cX5_freeRooms 1 = .ok (.bipush 30, 2) := by decide +kernel
theorem dX5_freeRooms_3 : decode cX5_freeRooms 3 = .ok (.invokestatic 104, 3) := by decide +kernel
theorem dX5_freeRooms_6 : decode cX5_freeRooms 6 = .ok (.aload_n 0, 1) := by decide +kernel
theorem dX5_freeRooms_7 : decode cX5_freeRooms 7 = .ok (.getfield 10, 3) := by decide +kernel
theorem dX5_freeRooms_10 : decode cX5_freeRooms 10 = .ok (.iload_n 1, 1) := by decide +kernel
theorem dX5_freeRooms_11 : decode cX5_freeRooms 11 = .ok (.invokevirtual 239, 3) := by decide +kernel
theorem dX5_freeRooms_14 : decode cX5_freeRooms 14 = .ok (.ireturn, 1) := by decide +kernel
theorem dX5_openOn_0 : decode cX5_openOn 0 = .ok (.iload_n 1, 1) := by decide +kernel
theorem dX5_openOn_1 : decode cX5_openOn 1 = .ok (.iconst 5, 1) := by decide +kernel
theorem dX5_openOn_2 : decode cX5_openOn 2 = .ok (.invokestatic 104, 3) := by decide +kernel
theorem dX5_openOn_5 : decode cX5_openOn 5 = .ok (.aload_n 0, 1) := by decide +kernel
theorem dX5_openOn_6 : decode cX5_openOn 6 = .ok (.getfield 10, 3) := by decide +kernel
theorem dX5_openOn_9 : decode cX5_openOn 9 = .ok (.iload_n 1, 1) := by decide +kernel
theorem dX5_openOn_10 : decode cX5_openOn 10 = .ok (.invokevirtual 242, 3) := by decide +kernel
theorem dX5_openOn_13 : decode cX5_openOn 13 = .ok (.ireturn, 1) := by decide +kernel
theorem dX5_open_0 : decode cX5_open 0 = .ok (.iload_n 1, 1) := by decide +kernel
theorem dX5_open_1 : decode cX5_open 1 = .ok (.iconst 5, 1) := by decide +kernel
theorem dX5_open_2 : decode cX5_open 2 = .ok (.invokestatic 104, 3) := by decide +kernel
theorem dX5_open_5 : decode cX5_open 5 = .ok (.aload_n 0, 1) := by decide +kernel
theorem dX5_open_6 : decode cX5_open 6 = .ok (.getfield 10, 3) := by decide +kernel
theorem dX5_open_9 : decode cX5_open 9 = .ok (.iload_n 1, 1) := by decide +kernel
theorem dX5_open_10 : decode cX5_open 10 = .ok (.iload_n 2, 1) := by decide +kernel
theorem dX5_open_11 : decode cX5_open 11 = .ok (.invokevirtual 245, 3) := by decide +kernel
theorem dX5_open_14 : decode cX5_open 14 = .ok (.istore_n 3, 1) := by decide +kernel
theorem dX5_open_15 : decode cX5_open 15 = .ok (.iload_n 3, 1) := by decide +kernel
theorem dX5_open_16 : decode cX5_open 16 = .ok (.iconst (-1), 1) := by decide +kernel
theorem dX5_open_17 : decode cX5_open 17 = .ok (.if_icmp .ne 13, 3) := by decide +kernel
theorem dX5_open_20 : decode cX5_open 20 = .ok (.new 220, 3) := by decide +kernel
theorem dX5_open_23 : decode cX5_open 23 = .ok (.dup, 1) := by decide +kernel
theorem dX5_open_24 : decode cX5_open 24 = .ok (.ldc 248, 2) := by decide +kernel
theorem dX5_open_26 : decode cX5_open 26 = .ok (.invokespecial 224, 3) := by decide +kernel
theorem dX5_open_29 : decode cX5_open 29 = .ok (.athrow, 1) := by decide +kernel
theorem dX5_open_30 : decode cX5_open 30 = .ok (.iload_n 3, 1) := by decide +kernel
theorem dX5_open_31 : decode cX5_open 31 = .ok (.ireturn, 1) := by decide +kernel
theorem dX5_why_0 : decode cX5_why 0 = .ok (.aload_n 0, 1) := by decide +kernel
theorem dX5_why_1 : decode cX5_why 1 = .ok (.iload_n 1, 1) := by decide +kernel
theorem dX5_why_2 : decode cX5_why 2 = .ok (.invokevirtual 144, 3) := by decide +kernel
theorem dX5_why_5 : decode cX5_why 5 = .ok (.aload_n 0, 1) := by decide +kernel
theorem dX5_why_6 : decode cX5_why 6 = .ok (.iload_n 2, 1) := by decide +kernel
theorem dX5_why_7 : decode cX5_why 7 = .ok (.invokevirtual 92, 3) := by decide +kernel
theorem dX5_why_10 : decode cX5_why 10 = .ok (.aload_n 0, 1) := by decide +kernel
theorem dX5_why_11 : decode cX5_why 11 = .ok (.iload_n 1, 1) := by decide +kernel
theorem dX5_why_12 : decode cX5_why 12 = .ok (.iconst 3, 1) := by decide +kernel
theorem dX5_why_13 : decode cX5_why 13 = .ok (.invokevirtual 250, 3) := by decide +kernel
theorem dX5_why_16 : decode cX5_why 16 = .ok (.aload_n 0, 1) := by decide +kernel
theorem dX5_why_17 : decode cX5_why 17 = .ok (.getfield 10, 3) := by decide +kernel
theorem dX5_why_20 : decode cX5_why 20 = .ok (.iload_n 1, 1) := by decide +kernel
theorem dX5_why_21 : decode cX5_why 21 = .ok (.iload_n 2, 1) := by decide +kernel
theorem dX5_why_22 : decode cX5_why 22 = .ok (.invokevirtual 253, 3) := by decide +kernel
theorem dX5_why_25 : decode cX5_why 25 = .ok (.ireturn, 1) := by decide +kernel
theorem dX5_points_0 : decode cX5_points 0 = .ok (.aload_n 0, 1) := by decide +kernel
theorem dX5_points_1 : decode cX5_points 1 = .ok (.iload_n 1, 1) := by decide +kernel
theorem dX5_points_2 : decode cX5_points 2 = .ok (.invokevirtual 144, 3) := by decide +kernel
theorem dX5_points_5 : decode cX5_points 5 = .ok (.aload_n 0, 1) := by decide +kernel
theorem dX5_points_6 : decode cX5_points 6 = .ok (.iload_n 2, 1) := by decide +kernel
theorem dX5_points_7 : decode cX5_points 7 = .ok (.invokevirtual 92, 3) := by decide +kernel
theorem dX5_points_10 : decode cX5_points 10 = .ok (.aload_n 0, 1) := by decide +kernel
theorem dX5_points_11 : decode cX5_points 11 = .ok (.getfield 10, 3) := by decide +kernel
theorem dX5_points_14 : decode cX5_points 14 = .ok (.iload_n 1, 1) := by decide +kernel
theorem dX5_points_15 : decode cX5_points 15 = .ok (.iload_n 2, 1) := by decide +kernel
theorem dX5_points_16 : decode cX5_points 16 = .ok (.invokevirtual 256, 3) := by decide +kernel
theorem dX5_points_19 : decode cX5_points 19 = .ok (.ireturn, 1) := by decide +kernel
theorem dX5_suggestion_0 : decode cX5_suggestion 0 = .ok (.aload_n 0, 1) := by decide +kernel
theorem dX5_suggestion_1 : decode cX5_suggestion 1 = .ok (.iload_n 1, 1) := by decide +kernel
theorem dX5_suggestion_2 : decode cX5_suggestion 2 = .ok (.invokevirtual 144, 3) := by decide +kernel
theorem dX5_suggestion_5 : decode cX5_suggestion 5 = .ok (.aload_n 0, 1) := by decide +kernel
theorem dX5_suggestion_6 : decode cX5_suggestion 6 = .ok (.iload_n 1, 1) := by decide +kernel
theorem dX5_suggestion_7 : decode cX5_suggestion 7 = .ok (.iconst 3, 1) := by decide +kernel
theorem dX5_suggestion_8 : decode cX5_suggestion 8 = .ok (.invokevirtual 250, 3) := by decide +kernel
theorem dX5_suggestion_11 : decode cX5_suggestion 11 = .ok (.aload_n 0, 1) := by decide +kernel
theorem dX5_suggestion_12 : decode cX5_suggestion 12 = .ok (.getfield 10, 3) := by decide +kernel
theorem dX5_suggestion_15 : decode cX5_suggestion 15 = .ok (.iload_n 1, 1) := by decide +kernel
theorem dX5_suggestion_16 : decode cX5_suggestion 16 = .ok (.invokevirtual 259, 3) := by decide +kernel
theorem dX5_suggestion_19 : decode cX5_suggestion 19 = .ok (.istore_n 2, 1) := by decide +kernel
theorem dX5_suggestion_20 : decode cX5_suggestion 20 = .ok (.iload_n 2, 1) := by decide +kernel
theorem dX5_suggestion_21 : decode cX5_suggestion 21 = .ok (.iconst (-1), 1) := by decide +kernel
theorem dX5_suggestion_22 : decode cX5_suggestion 22 = .ok (.if_icmp .ne 14, 3) := by decide +kernel
theorem dX5_suggestion_25 : decode cX5_suggestion 25 = .ok (.new 220, 3) := by decide +kernel
theorem dX5_suggestion_28 : decode cX5_suggestion 28 = .ok (.dup, 1) := by decide +kernel
theorem dX5_suggestion_29 : decode cX5_suggestion 29 = .ok (.ldc_w 262, 3) := by decide +kernel
theorem dX5_suggestion_32 : decode cX5_suggestion 32 = .ok (.invokespecial 224, 3) := by decide +kernel
theorem dX5_suggestion_35 : decode cX5_suggestion 35 = .ok (.athrow, 1) := by decide +kernel
theorem dX5_suggestion_36 : decode cX5_suggestion 36 = .ok (.iload_n 2, 1) := by decide +kernel
theorem dX5_suggestion_37 : decode cX5_suggestion 37 = .ok (.ireturn, 1) := by decide +kernel
theorem dX5_cover_0 : decode cX5_cover 0 = .ok (.aload_n 0, 1) := by decide +kernel
theorem dX5_cover_1 : decode cX5_cover 1 = .ok (.iload_n 1, 1) := by decide +kernel
theorem dX5_cover_2 : decode cX5_cover 2 = .ok (.invokevirtual 144, 3) := by decide +kernel
theorem dX5_cover_5 : decode cX5_cover 5 = .ok (.aload_n 0, 1) := by decide +kernel
theorem dX5_cover_6 : decode cX5_cover 6 = .ok (.iload_n 2, 1) := by decide +kernel
theorem dX5_cover_7 : decode cX5_cover 7 = .ok (.invokevirtual 92, 3) := by decide +kernel
theorem dX5_cover_10 : decode cX5_cover 10 = .ok (.aload_n 0, 1) := by decide +kernel
theorem dX5_cover_11 : decode cX5_cover 11 = .ok (.iload_n 1, 1) := by decide +kernel
theorem dX5_cover_12 : decode cX5_cover 12 = .ok (.iconst 3, 1) := by decide +kernel
theorem dX5_cover_13 : decode cX5_cover 13 = .ok (.invokevirtual 250, 3) := by decide +kernel
theorem dX5_cover_16 : decode cX5_cover 16 = .ok (.aload_n 0, 1) := by decide +kernel
theorem dX5_cover_17 : decode cX5_cover 17 = .ok (.getfield 10, 3) := by decide +kernel
theorem dX5_cover_20 : decode cX5_cover 20 = .ok (.iload_n 1, 1) := by decide +kernel
theorem dX5_cover_21 : decode cX5_cover 21 = .ok (.iload_n 2, 1) := by decide +kernel
theorem dX5_cover_22 : decode cX5_cover 22 = .ok (.invokevirtual 253, 3) := by decide +kernel
theorem dX5_cover_25 : decode cX5_cover 25 = .ok (.istore_n 3, 1) := by decide +kernel
theorem dX5_cover_26 : decode cX5_cover 26 = .ok (.iload_n 3, 1) := by decide +kernel
theorem dX5_cover_27 : decode cX5_cover 27 = .ok (.ifCond .eq 19, 3) := by decide +kernel
theorem dX5_cover_30 : decode cX5_cover 30 = .ok (.aload_n 0, 1) := by decide +kernel
theorem dX5_cover_31 : decode cX5_cover 31 = .ok (.iload_n 3, 1) := by decide +kernel
theorem dX5_cover_32 : decode cX5_cover 32 = .ok (.putfield 54, 3) := by decide +kernel
theorem dX5_cover_35 : decode cX5_cover 35 = .ok (.new 134, 3) := by decide +kernel
theorem dX5_cover_38 : decode cX5_cover 38 = .ok (.dup, 1) := by decide +kernel
theorem dX5_cover_39 : decode cX5_cover 39 = .ok (.ldc_w 264, 3) := by decide +kernel
theorem dX5_cover_42 : decode cX5_cover 42 = .ok (.invokespecial 138, 3) := by decide +kernel
theorem dX5_cover_45 : decode cX5_cover 45 = .ok (.athrow, 1) := by decide +kernel
theorem dX5_cover_46 : decode cX5_cover 46 = .ok (.aload_n 0, 1) := by decide +kernel
theorem dX5_cover_47 : decode cX5_cover 47 = .ok (.getfield 25, 3) := by decide +kernel
theorem dX5_cover_50 : decode cX5_cover 50 = .ok (.aload_n 0, 1) := by decide +kernel
theorem dX5_cover_51 : decode cX5_cover 51 = .ok (.getfield 10, 3) := by decide +kernel
theorem dX5_cover_54 : decode cX5_cover 54 = .ok (.invokevirtual 84, 3) := by decide +kernel
theorem dX5_cover_57 : decode cX5_cover 57 = .ok (.aload_n 0, 1) := by decide +kernel
theorem dX5_cover_58 : decode cX5_cover 58 = .ok (.getfield 10, 3) := by decide +kernel
theorem dX5_cover_61 : decode cX5_cover 61 = .ok (.iload_n 1, 1) := by decide +kernel
theorem dX5_cover_62 : decode cX5_cover 62 = .ok (.iload_n 2, 1) := by decide +kernel
theorem dX5_cover_63 : decode cX5_cover 63 = .ok (.invokevirtual 266, 3) := by decide +kernel
theorem dX5_cover_66 : decode cX5_cover 66 = .ok (.aload_n 0, 1) := by decide +kernel
theorem dX5_cover_67 : decode cX5_cover 67 = .ok (.getfield 10, 3) := by decide +kernel
theorem dX5_cover_70 : decode cX5_cover 70 = .ok (.iload_n 1, 1) := by decide +kernel
theorem dX5_cover_71 : decode cX5_cover 71 = .ok (.iload_n 2, 1) := by decide +kernel
theorem dX5_cover_72 : decode cX5_cover 72 = .ok (.invokevirtual 256, 3) := by decide +kernel
theorem dX5_cover_75 : decode cX5_cover 75 = .ok (.ireturn, 1) := by decide +kernel
theorem dX5_uncover_0 : decode cX5_uncover 0 = .ok (.aload_n 0, 1) := by decide +kernel
theorem dX5_uncover_1 : decode cX5_uncover 1 = .ok (.iload_n 1, 1) := by decide +kernel
theorem dX5_uncover_2 : decode cX5_uncover 2 = .ok (.invokevirtual 144, 3) := by decide +kernel
theorem dX5_uncover_5 : decode cX5_uncover 5 = .ok (.aload_n 0, 1) := by decide +kernel
theorem dX5_uncover_6 : decode cX5_uncover 6 = .ok (.iload_n 1, 1) := by decide +kernel
theorem dX5_uncover_7 : decode cX5_uncover 7 = .ok (.iconst 1, 1) := by decide +kernel
theorem dX5_uncover_8 : decode cX5_uncover 8 = .ok (.invokevirtual 250, 3) := by decide +kernel
theorem dX5_uncover_11 : decode cX5_uncover 11 = .ok (.aload_n 0, 1) := by decide +kernel
theorem dX5_uncover_12 : decode cX5_uncover 12 = .ok (.getfield 25, 3) := by decide +kernel
theorem dX5_uncover_15 : decode cX5_uncover 15 = .ok (.aload_n 0, 1) := by decide +kernel
theorem dX5_uncover_16 : decode cX5_uncover 16 = .ok (.getfield 10, 3) := by decide +kernel
theorem dX5_uncover_19 : decode cX5_uncover 19 = .ok (.invokevirtual 84, 3) := by decide +kernel
theorem dX5_uncover_22 : decode cX5_uncover 22 = .ok (.aload_n 0, 1) := by decide +kernel
theorem dX5_uncover_23 : decode cX5_uncover 23 = .ok (.getfield 10, 3) := by decide +kernel
theorem dX5_uncover_26 : decode cX5_uncover 26 = .ok (.iload_n 1, 1) := by decide +kernel
theorem dX5_uncover_27 : decode cX5_uncover 27 = .ok (.invokevirtual 189, 3) := by decide +kernel
theorem dX5_uncover_30 : decode cX5_uncover 30 = .ok (.istore_n 2, 1) := by decide +kernel
theorem dX5_uncover_31 : decode cX5_uncover 31 = .ok (.aload_n 0, 1) := by decide +kernel
theorem dX5_uncover_32 : decode cX5_uncover 32 = .ok (.getfield 10, 3) := by decide +kernel
theorem dX5_uncover_35 : decode cX5_uncover 35 = .ok (.iload_n 1, 1) := by decide +kernel
theorem dX5_uncover_36 : decode cX5_uncover 36 = .ok (.invokevirtual 269, 3) := by decide +kernel
theorem dX5_uncover_39 : decode cX5_uncover 39 = .ok (.pop, 1) := by decide +kernel
theorem dX5_uncover_40 : decode cX5_uncover 40 = .ok (.aload_n 0, 1) := by decide +kernel
theorem dX5_uncover_41 : decode cX5_uncover 41 = .ok (.getfield 10, 3) := by decide +kernel
theorem dX5_uncover_44 : decode cX5_uncover 44 = .ok (.iload_n 1, 1) := by decide +kernel
theorem dX5_uncover_45 : decode cX5_uncover 45 = .ok (.invokevirtual 272, 3) := by decide +kernel
theorem dX5_uncover_48 : decode cX5_uncover 48 = .ok (.pop, 1) := by decide +kernel
theorem dX5_uncover_49 : decode cX5_uncover 49 = .ok (.iload_n 2, 1) := by decide +kernel
theorem dX5_uncover_50 : decode cX5_uncover 50 = .ok (.ireturn, 1) := by decide +kernel
theorem dX5_split_0 : decode cX5_split 0 = .ok (.aload_n 0, 1) := by decide +kernel
theorem dX5_split_1 : decode cX5_split 1 = .ok (.iload_n 1, 1) := by decide +kernel
theorem dX5_split_2 : decode cX5_split 2 = .ok (.invokevirtual 144, 3) := by decide +kernel
theorem dX5_split_5 : decode cX5_split 5 = .ok (.aload_n 0, 1) := by decide +kernel
theorem dX5_split_6 : decode cX5_split 6 = .ok (.iload_n 2, 1) := by decide +kernel
theorem dX5_split_7 : decode cX5_split 7 = .ok (.invokevirtual 144, 3) := by decide +kernel
theorem dX5_split_10 : decode cX5_split 10 = .ok (.aload_n 0, 1) := by decide +kernel
theorem dX5_split_11 : decode cX5_split 11 = .ok (.iload_n 3, 1) := by decide +kernel
theorem dX5_split_12 : decode cX5_split 12 = .ok (.invokevirtual 144, 3) := by decide +kernel
theorem dX5_split_15 : decode cX5_split 15 = .ok (.aload_n 0, 1) := by decide +kernel
theorem dX5_split_16 : decode cX5_split 16 = .ok (.iload_n 1, 1) := by decide +kernel
theorem dX5_split_17 : decode cX5_split 17 = .ok (.iconst 3, 1) := by decide +kernel
theorem dX5_split_18 : decode cX5_split 18 = .ok (.invokevirtual 250, 3) := by decide +kernel
theorem dX5_split_21 : decode cX5_split 21 = .ok (.iload_n 2, 1) := by decide +kernel
theorem dX5_split_22 : decode cX5_split 22 = .ok (.iload_n 3, 1) := by decide +kernel
theorem dX5_split_23 : decode cX5_split 23 = .ok (.if_icmp .eq 27, 3) := by decide +kernel
theorem dX5_split_26 : decode cX5_split 26 = .ok (.aload_n 0, 1) := by decide +kernel
theorem dX5_split_27 : decode cX5_split 27 = .ok (.getfield 10, 3) := by decide +kernel
theorem dX5_split_30 : decode cX5_split 30 = .ok (.iload_n 1, 1) := by decide +kernel
theorem dX5_split_31 : decode cX5_split 31 = .ok (.iload_n 2, 1) := by decide +kernel
theorem dX5_split_32 : decode cX5_split 32 = .ok (.invokevirtual 275, 3) := by decide +kernel
theorem dX5_split_35 : decode cX5_split 35 = .ok (.ifCond .eq 15, 3) := by decide +kernel
theorem dX5_split_38 : decode cX5_split 38 = .ok (.aload_n 0, 1) := by decide +kernel
theorem dX5_split_39 : decode cX5_split 39 = .ok (.getfield 10, 3) := by decide +kernel
theorem dX5_split_42 : decode cX5_split 42 = .ok (.iload_n 1, 1) := by decide +kernel
theorem dX5_split_43 : decode cX5_split 43 = .ok (.iload_n 3, 1) := by decide +kernel
theorem dX5_split_44 : decode cX5_split 44 = .ok (.invokevirtual 275, 3) := by decide +kernel
theorem dX5_split_47 : decode cX5_split 47 = .ok (.ifCond .ne 14, 3) := by decide +kernel
theorem dX5_split_50 : decode cX5_split 50 = .ok (.new 129, 3) := by decide +kernel
theorem dX5_split_53 : decode cX5_split 53 = .ok (.dup, 1) := by decide +kernel
theorem dX5_split_54 : decode cX5_split 54 = .ok (.ldc_w 278, 3) := by decide +kernel
theorem dX5_split_57 : decode cX5_split 57 = .ok (.invokespecial 133, 3) := by decide +kernel
theorem dX5_split_60 : decode cX5_split 60 = .ok (.athrow, 1) := by decide +kernel
theorem dX5_split_61 : decode cX5_split 61 = .ok (.aload_n 0, 1) := by decide +kernel
theorem dX5_split_62 : decode cX5_split 62 = .ok (.getfield 10, 3) := by decide +kernel
theorem dX5_split_65 : decode cX5_split 65 = .ok (.iload_n 1, 1) := by decide +kernel
theorem dX5_split_66 : decode cX5_split 66 = .ok (.invokevirtual 280, 3) := by decide +kernel
theorem dX5_split_69 : decode cX5_split 69 = .ok (.istore 4, 2) := by decide +kernel
theorem dX5_split_71 : decode cX5_split 71 = .ok (.aload_n 0, 1) := by decide +kernel
theorem dX5_split_72 : decode cX5_split 72 = .ok (.getfield 10, 3) := by decide +kernel
theorem dX5_split_75 : decode cX5_split 75 = .ok (.iload_n 2, 1) := by decide +kernel
theorem dX5_split_76 : decode cX5_split 76 = .ok (.iload 4, 2) := by decide +kernel
theorem dX5_split_78 : decode cX5_split 78 = .ok (.invokevirtual 283, 3) := by decide +kernel
theorem dX5_split_81 : decode cX5_split 81 = .ok (.ifCond .eq 22, 3) := by decide +kernel
theorem dX5_split_84 : decode cX5_split 84 = .ok (.aload_n 0, 1) := by decide +kernel
theorem dX5_split_85 : decode cX5_split 85 = .ok (.getfield 10, 3) := by decide +kernel
theorem dX5_split_88 : decode cX5_split 88 = .ok (.iload_n 3, 1) := by decide +kernel
theorem dX5_split_89 : decode cX5_split 89 = .ok (.aload_n 0, 1) := by decide +kernel
theorem dX5_split_90 : decode cX5_split 90 = .ok (.getfield 10, 3) := by decide +kernel
theorem dX5_split_93 : decode cX5_split 93 = .ok (.iload_n 1, 1) := by decide +kernel
theorem dX5_split_94 : decode cX5_split 94 = .ok (.invokevirtual 286, 3) := by decide +kernel
theorem dX5_split_97 : decode cX5_split 97 = .ok (.invokevirtual 283, 3) := by decide +kernel
theorem dX5_split_100 : decode cX5_split 100 = .ok (.ifCond .ne 14, 3) := by decide +kernel
theorem dX5_split_103 : decode cX5_split 103 = .ok (.new 134, 3) := by decide +kernel
theorem dX5_split_106 : decode cX5_split 106 = .ok (.dup, 1) := by decide +kernel
theorem dX5_split_107 : decode cX5_split 107 = .ok (.ldc_w 289, 3) := by decide +kernel
theorem dX5_split_110 : decode cX5_split 110 = .ok (.invokespecial 138, 3) := by decide +kernel
theorem dX5_split_113 : decode cX5_split 113 = .ok (.athrow, 1) := by decide +kernel
theorem dX5_split_114 : decode cX5_split 114 = .ok (.aload_n 0, 1) := by decide +kernel
theorem dX5_split_115 : decode cX5_split 115 = .ok (.getfield 25, 3) := by decide +kernel
theorem dX5_split_118 : decode cX5_split 118 = .ok (.aload_n 0, 1) := by decide +kernel
theorem dX5_split_119 : decode cX5_split 119 = .ok (.getfield 10, 3) := by decide +kernel
theorem dX5_split_122 : decode cX5_split 122 = .ok (.invokevirtual 84, 3) := by decide +kernel
theorem dX5_split_125 : decode cX5_split 125 = .ok (.aload_n 0, 1) := by decide +kernel
theorem dX5_split_126 : decode cX5_split 126 = .ok (.getfield 10, 3) := by decide +kernel
theorem dX5_split_129 : decode cX5_split 129 = .ok (.iload_n 1, 1) := by decide +kernel
theorem dX5_split_130 : decode cX5_split 130 = .ok (.iload_n 2, 1) := by decide +kernel
theorem dX5_split_131 : decode cX5_split 131 = .ok (.iload_n 3, 1) := by decide +kernel
theorem dX5_split_132 : decode cX5_split 132 = .ok (.invokevirtual 291, 3) := by decide +kernel
theorem dX5_split_135 : decode cX5_split 135 = .ok (.iload 4, 2) := by decide +kernel
theorem dX5_split_137 : decode cX5_split 137 = .ok (.ireturn, 1) := by decide +kernel
theorem dX5_unsplit_0 : decode cX5_unsplit 0 = .ok (.aload_n 0, 1) := by decide +kernel
theorem dX5_unsplit_1 : decode cX5_unsplit 1 = .ok (.iload_n 1, 1) := by decide +kernel
theorem dX5_unsplit_2 : decode cX5_unsplit 2 = .ok (.invokevirtual 144, 3) := by decide +kernel
theorem dX5_unsplit_5 : decode cX5_unsplit 5 = .ok (.aload_n 0, 1) := by decide +kernel
theorem dX5_unsplit_6 : decode cX5_unsplit 6 = .ok (.iload_n 1, 1) := by decide +kernel
theorem dX5_unsplit_7 : decode cX5_unsplit 7 = .ok (.iconst 2, 1) := by decide +kernel
theorem dX5_unsplit_8 : decode cX5_unsplit 8 = .ok (.invokevirtual 250, 3) := by decide +kernel
theorem dX5_unsplit_11 : decode cX5_unsplit 11 = .ok (.aload_n 0, 1) := by decide +kernel
theorem dX5_unsplit_12 : decode cX5_unsplit 12 = .ok (.getfield 25, 3) := by decide +kernel
theorem dX5_unsplit_15 : decode cX5_unsplit 15 = .ok (.aload_n 0, 1) := by decide +kernel
theorem dX5_unsplit_16 : decode cX5_unsplit 16 = .ok (.getfield 10, 3) := by decide +kernel
theorem dX5_unsplit_19 : decode cX5_unsplit 19 = .ok (.invokevirtual 84, 3) := by decide +kernel
theorem dX5_unsplit_22 : decode cX5_unsplit 22 = .ok (.aload_n 0, 1) := by decide +kernel
theorem dX5_unsplit_23 : decode cX5_unsplit 23 = .ok (.getfield 10, 3) := by decide +kernel
theorem dX5_unsplit_26 : decode cX5_unsplit 26 = .ok (.iload_n 1, 1) := by decide +kernel
theorem dX5_unsplit_27 : decode cX5_unsplit 27 = .ok (.invokevirtual 294, 3) := by decide +kernel
theorem dX5_unsplit_30 : decode cX5_unsplit 30 = .ok (.aload_n 0, 1) := by decide +kernel
theorem dX5_unsplit_31 : decode cX5_unsplit 31 = .ok (.getfield 10, 3) := by decide +kernel
theorem dX5_unsplit_34 : decode cX5_unsplit 34 = .ok (.iload_n 1, 1) := by decide +kernel
theorem dX5_unsplit_35 : decode cX5_unsplit 35 = .ok (.invokevirtual 297, 3) := by decide +kernel
theorem dX5_unsplit_38 : decode cX5_unsplit 38 = .ok (.ireturn, 1) := by decide +kernel
theorem dX5_host_0 : decode cX5_host 0 = .ok (.aload_n 0, 1) := by decide +kernel
theorem dX5_host_1 : decode cX5_host 1 = .ok (.iload_n 1, 1) := by decide +kernel
theorem dX5_host_2 : decode cX5_host 2 = .ok (.invokevirtual 144, 3) := by decide +kernel
theorem dX5_host_5 : decode cX5_host 5 = .ok (.aload_n 0, 1) := by decide +kernel
theorem dX5_host_6 : decode cX5_host 6 = .ok (.iload_n 1, 1) := by decide +kernel
theorem dX5_host_7 : decode cX5_host 7 = .ok (.iconst 2, 1) := by decide +kernel
theorem dX5_host_8 : decode cX5_host 8 = .ok (.invokevirtual 250, 3) := by decide +kernel
theorem dX5_host_11 : decode cX5_host 11 = .ok (.iload_n 2, 1) := by decide +kernel
theorem dX5_host_12 : decode cX5_host 12 = .ok (.ifCond .eq 13, 3) := by decide +kernel
theorem dX5_host_15 : decode cX5_host 15 = .ok (.aload_n 0, 1) := by decide +kernel
theorem dX5_host_16 : decode cX5_host 16 = .ok (.getfield 10, 3) := by decide +kernel
theorem dX5_host_19 : decode cX5_host 19 = .ok (.getfield 300, 3) := by decide +kernel
theorem dX5_host_22 : decode cX5_host 22 = .ok (.goto 10, 3) := by decide +kernel
theorem dX5_host_25 : decode cX5_host 25 = .ok (.aload_n 0, 1) := by decide +kernel
theorem dX5_host_26 : decode cX5_host 26 = .ok (.getfield 10, 3) := by decide +kernel
theorem dX5_host_29 : decode cX5_host 29 = .ok (.getfield 303, 3) := by decide +kernel
theorem dX5_host_32 : decode cX5_host 32 = .ok (.iload_n 1, 1) := by decide +kernel
theorem dX5_host_33 : decode cX5_host 33 = .ok (.invokestatic 173, 3) := by decide +kernel
theorem dX5_host_36 : decode cX5_host 36 = .ok (.ireturn, 1) := by decide +kernel
theorem dX5_refusal_0 : decode cX5_refusal 0 = .ok (.aload_n 0, 1) := by decide +kernel
theorem dX5_refusal_1 : decode cX5_refusal 1 = .ok (.getfield 54, 3) := by decide +kernel
theorem dX5_refusal_4 : decode cX5_refusal 4 = .ok (.iconst (-1), 1) := by decide +kernel
theorem dX5_refusal_5 : decode cX5_refusal 5 = .ok (.if_icmp .ne 14, 3) := by decide +kernel
theorem dX5_refusal_8 : decode cX5_refusal 8 = .ok (.new 220, 3) := by decide +kernel
theorem dX5_refusal_11 : decode cX5_refusal 11 = .ok (.dup, 1) := by decide +kernel
theorem dX5_refusal_12 : decode cX5_refusal 12 = .ok (.ldc_w 306, 3) := by decide +kernel
theorem dX5_refusal_15 : decode cX5_refusal 15 = .ok (.invokespecial 224, 3) := by decide +kernel
theorem dX5_refusal_18 : decode cX5_refusal 18 = .ok (.athrow, 1) := by decide +kernel
theorem dX5_refusal_19 : decode cX5_refusal 19 = .ok (.aload_n 0, 1) := by decide +kernel
theorem dX5_refusal_20 : decode cX5_refusal 20 = .ok (.getfield 54, 3) := by decide +kernel
theorem dX5_refusal_23 : decode cX5_refusal 23 = .ok (.ireturn, 1) := by decide +kernel
theorem dX5_coverDay_0 : decode cX5_coverDay 0 = .ok (.iload_n 1, 1) := by decide +kernel
theorem dX5_coverDay_1 : decode cX5_coverDay 1 = .ok (.iconst 5, 1) := by decide +kernel
theorem dX5_coverDay_2 : decode cX5_coverDay 2 = .ok (.invokestatic 104, 3) := by decide +kernel
theorem dX5_coverDay_5 : decode cX5_coverDay 5 = .ok (.aload_n 0, 1) := by decide +kernel
theorem dX5_coverDay_6 : decode cX5_coverDay 6 = .ok (.getfield 25, 3) := by decide +kernel
theorem dX5_coverDay_9 : decode cX5_coverDay 9 = .ok (.aload_n 0, 1) := by decide +kernel
theorem dX5_coverDay_10 : decode cX5_coverDay 10 = .ok (.getfield 10, 3) := by decide +kernel
theorem dX5_coverDay_13 : decode cX5_coverDay 13 = .ok (.invokevirtual 84, 3) := by decide +kernel
theorem dX5_coverDay_16 : decode cX5_coverDay 16 = .ok (.aload_n 0, 1) := by decide +kernel
theorem dX5_coverDay_17 : decode cX5_coverDay 17 = .ok (.getfield 10, 3) := by decide +kernel
theorem dX5_coverDay_20 : decode cX5_coverDay 20 = .ok (.iload_n 1, 1) := by decide +kernel
theorem dX5_coverDay_21 : decode cX5_coverDay 21 = .ok (.invokevirtual 308, 3) := by decide +kernel
theorem dX5_coverDay_24 : decode cX5_coverDay 24 = .ok (.ireturn, 1) := by decide +kernel
theorem dX5_spread_0 : decode cX5_spread 0 = .ok (.aload_n 0, 1) := by decide +kernel
theorem dX5_spread_1 : decode cX5_spread 1 = .ok (.invokevirtual 311, 3) := by decide +kernel
theorem dX5_spread_4 : decode cX5_spread 4 = .ok (.aload_n 0, 1) := by decide +kernel
theorem dX5_spread_5 : decode cX5_spread 5 = .ok (.getfield 10, 3) := by decide +kernel
theorem dX5_spread_8 : decode cX5_spread 8 = .ok (.aload_n 0, 1) := by decide +kernel
theorem dX5_spread_9 : decode cX5_spread 9 = .ok (.getfield 10, 3) := by decide +kernel
theorem dX5_spread_12 : decode cX5_spread 12 = .ok (.iconst 1, 1) := by decide +kernel
theorem dX5_spread_13 : decode cX5_spread 13 = .ok (.invokevirtual 314, 3) := by decide +kernel
theorem dX5_spread_16 : decode cX5_spread 16 = .ok (.invokevirtual 204, 3) := by decide +kernel
theorem dX5_spread_19 : decode cX5_spread 19 = .ok (.aload_n 0, 1) := by decide +kernel
theorem dX5_spread_20 : decode cX5_spread 20 = .ok (.getfield 10, 3) := by decide +kernel
theorem dX5_spread_23 : decode cX5_spread 23 = .ok (.aload_n 0, 1) := by decide +kernel
theorem dX5_spread_24 : decode cX5_spread 24 = .ok (.getfield 10, 3) := by decide +kernel
theorem dX5_spread_27 : decode cX5_spread 27 = .ok (.iconst 0, 1) := by decide +kernel
theorem dX5_spread_28 : decode cX5_spread 28 = .ok (.invokevirtual 314, 3) := by decide +kernel
theorem dX5_spread_31 : decode cX5_spread 31 = .ok (.invokevirtual 204, 3) := by decide +kernel
theorem dX5_spread_34 : decode cX5_spread 34 = .ok (.isub, 1) := by decide +kernel
theorem dX5_spread_35 : decode cX5_spread 35 = .ok (.ireturn, 1) := by decide +kernel
theorem dX5_extreme_0 : decode cX5_extreme 0 = .ok (.aload_n 0, 1) := by decide +kernel
theorem dX5_extreme_1 : decode cX5_extreme 1 = .ok (.invokevirtual 311, 3) := by decide +kernel
theorem dX5_extreme_4 : decode cX5_extreme 4 = .ok (.aload_n 0, 1) := by decide +kernel
theorem dX5_extreme_5 : decode cX5_extreme 5 = .ok (.getfield 10, 3) := by decide +kernel
theorem dX5_extreme_8 : decode cX5_extreme 8 = .ok (.iload_n 1, 1) := by decide +kernel
theorem dX5_extreme_9 : decode cX5_extreme 9 = .ok (.invokevirtual 314, 3) := by decide +kernel
theorem dX5_extreme_12 : decode cX5_extreme 12 = .ok (.ireturn, 1) := by decide +kernel
theorem dX5_plannedSpread_0 : decode cX5_plannedSpread 0 = .ok (.aload_n 0, 1) := by decide +kernel
theorem dX5_plannedSpread_1 : decode cX5_plannedSpread 1 = .ok (.iload_n 1, 1) := by decide +kernel
theorem dX5_plannedSpread_2 : decode cX5_plannedSpread 2 = .ok (.invokevirtual 318, 3) := by decide +kernel
theorem dX5_plannedSpread_5 : decode cX5_plannedSpread 5 = .ok (.aload_n 0, 1) := by decide +kernel
theorem dX5_plannedSpread_6 : decode cX5_plannedSpread 6 = .ok (.invokevirtual 311, 3) := by decide +kernel
theorem dX5_plannedSpread_9 : decode cX5_plannedSpread 9 = .ok (.aload_n 0, 1) := by decide +kernel
theorem dX5_plannedSpread_10 : decode cX5_plannedSpread 10 = .ok (.invokevirtual 321, 3) := by decide +kernel
theorem dX5_plannedSpread_13 : decode cX5_plannedSpread 13 = .ok (.aload_n 0, 1) := by decide +kernel
theorem dX5_plannedSpread_14 : decode cX5_plannedSpread 14 = .ok (.getfield 32, 3) := by decide +kernel
theorem dX5_plannedSpread_17 : decode cX5_plannedSpread 17 = .ok (.getfield 324, 3) := by decide +kernel
theorem dX5_plannedSpread_20 : decode cX5_plannedSpread 20 = .ok (.ireturn, 1) := by decide +kernel
theorem dX5_planned_0 : decode cX5_planned 0 = .ok (.aload_n 0, 1) := by decide +kernel
theorem dX5_planned_1 : decode cX5_planned 1 = .ok (.iload_n 1, 1) := by decide +kernel
theorem dX5_planned_2 : decode cX5_planned 2 = .ok (.invokevirtual 318, 3) := by decide +kernel
theorem dX5_planned_5 : decode cX5_planned 5 = .ok (.aload_n 0, 1) := by decide +kernel
theorem dX5_planned_6 : decode cX5_planned 6 = .ok (.invokevirtual 321, 3) := by decide +kernel
theorem dX5_planned_9 : decode cX5_planned 9 = .ok (.iload_n 2, 1) := by decide +kernel
theorem dX5_planned_10 : decode cX5_planned 10 = .ok (.iconst 0, 1) := by decide +kernel
theorem dX5_planned_11 : decode cX5_planned 11 = .ok (.aload_n 0, 1) := by decide +kernel
theorem dX5_planned_12 : decode cX5_planned 12 = .ok (.getfield 32, 3) := by decide +kernel
theorem dX5_planned_15 : decode cX5_planned 15 = .ok (.getfield 327, 3) := by decide +kernel
theorem dX5_planned_18 : decode cX5_planned 18 = .ok (.iconst 1, 1) := by decide +kernel
theorem dX5_planned_19 : decode cX5_planned 19 = .ok (.isub, 1) := by decide +kernel
theorem dX5_planned_20 : decode cX5_planned 20 = .ok (.invokestatic 328, 3) := by decide +kernel
theorem dX5_planned_23 : decode cX5_planned 23 = .ok (.ifCond .ne 13, 3) := by decide +kernel
theorem dX5_planned_26 : decode cX5_planned 26 = .ok (.new 220, 3) := by decide +kernel
theorem dX5_planned_29 : decode cX5_planned 29 = .ok (.dup, 1) := by decide +kernel
theorem dX5_planned_30 : decode cX5_planned 30 = .ok (.ldc 248, 2) := by decide +kernel
theorem dX5_planned_32 : decode cX5_planned 32 = .ok (.invokespecial 224, 3) := by decide +kernel
theorem dX5_planned_35 : decode cX5_planned 35 = .ok (.athrow, 1) := by decide +kernel
theorem dX5_planned_36 : decode cX5_planned 36 = .ok (.aload_n 0, 1) := by decide +kernel
theorem dX5_planned_37 : decode cX5_planned 37 = .ok (.getfield 32, 3) := by decide +kernel
theorem dX5_planned_40 : decode cX5_planned 40 = .ok (.getfield 332, 3) := by decide +kernel
theorem dX5_planned_43 : decode cX5_planned 43 = .ok (.iload_n 2, 1) := by decide +kernel
theorem dX5_planned_44 : decode cX5_planned 44 = .ok (.invokestatic 173, 3) := by decide +kernel
theorem dX5_planned_47 : decode cX5_planned 47 = .ok (.ireturn, 1) := by decide +kernel
theorem dX5_carryOut_0 : decode cX5_carryOut 0 = .ok (.aload_n 0, 1) := by decide +kernel
theorem dX5_carryOut_1 : decode cX5_carryOut 1 = .ok (.iload_n 1, 1) := by decide +kernel
theorem dX5_carryOut_2 : decode cX5_carryOut 2 = .ok (.invokevirtual 318, 3) := by decide +kernel
theorem dX5_carryOut_5 : decode cX5_carryOut 5 = .ok (.aload_n 0, 1) := by decide +kernel
theorem dX5_carryOut_6 : decode cX5_carryOut 6 = .ok (.invokevirtual 311, 3) := by decide +kernel
theorem dX5_carryOut_9 : decode cX5_carryOut 9 = .ok (.aload_n 0, 1) := by decide +kernel
theorem dX5_carryOut_10 : decode cX5_carryOut 10 = .ok (.invokevirtual 321, 3) := by decide +kernel
theorem dX5_carryOut_13 : decode cX5_carryOut 13 = .ok (.aload_n 0, 1) := by decide +kernel
theorem dX5_carryOut_14 : decode cX5_carryOut 14 = .ok (.getfield 25, 3) := by decide +kernel
theorem dX5_carryOut_17 : decode cX5_carryOut 17 = .ok (.aload_n 0, 1) := by decide +kernel
theorem dX5_carryOut_18 : decode cX5_carryOut 18 = .ok (.getfield 10, 3) := by decide +kernel
theorem dX5_carryOut_21 : decode cX5_carryOut 21 = .ok (.invokevirtual 84, 3) := by decide +kernel
theorem dX5_carryOut_24 : decode cX5_carryOut 24 = .ok (.iconst 0, 1) := by decide +kernel
theorem dX5_carryOut_25 : decode cX5_carryOut 25 = .ok (.istore_n 2, 1) := by decide +kernel
theorem dX5_carryOut_26 : decode cX5_carryOut 26 = .ok (.iload_n 2, 1) := by decide +kernel
theorem dX5_carryOut_27 : decode cX5_carryOut 27 = .ok (.aload_n 0, 1) := by decide +kernel
theorem dX5_carryOut_28 : decode cX5_carryOut 28 = .ok (.getfield 32, 3) := by decide +kernel
theorem dX5_carryOut_31 : decode cX5_carryOut 31 = .ok (.getfield 327, 3) := by decide +kernel
theorem dX5_carryOut_34 : decode cX5_carryOut 34 = .ok (.if_icmp .ge 38, 3) := by decide +kernel
theorem dX5_carryOut_37 : decode cX5_carryOut 37 = .ok (.aload_n 0, 1) := by decide +kernel
theorem dX5_carryOut_38 : decode cX5_carryOut 38 = .ok (.getfield 10, 3) := by decide +kernel
theorem dX5_carryOut_41 : decode cX5_carryOut 41 = .ok (.aload_n 0, 1) := by decide +kernel
theorem dX5_carryOut_42 : decode cX5_carryOut 42 = .ok (.getfield 32, 3) := by decide +kernel
theorem dX5_carryOut_45 : decode cX5_carryOut 45 = .ok (.getfield 335, 3) := by decide +kernel
theorem dX5_carryOut_48 : decode cX5_carryOut 48 = .ok (.iload_n 2, 1) := by decide +kernel
theorem dX5_carryOut_49 : decode cX5_carryOut 49 = .ok (.invokestatic 173, 3) := by decide +kernel
theorem dX5_carryOut_52 : decode cX5_carryOut 52 = .ok (.aload_n 0, 1) := by decide +kernel
theorem dX5_carryOut_53 : decode cX5_carryOut 53 = .ok (.getfield 32, 3) := by decide +kernel
theorem dX5_carryOut_56 : decode cX5_carryOut 56 = .ok (.getfield 332, 3) := by decide +kernel
theorem dX5_carryOut_59 : decode cX5_carryOut 59 = .ok (.iload_n 2, 1) := by decide +kernel
theorem dX5_carryOut_60 : decode cX5_carryOut 60 = .ok (.invokestatic 173, 3) := by decide +kernel
theorem dX5_carryOut_63 : decode cX5_carryOut 63 = .ok (.invokevirtual 266, 3) := by decide +kernel
theorem dX5_carryOut_66 : decode cX5_carryOut 66 = .ok (.iinc 2 1, 3) := by decide +kernel
theorem dX5_carryOut_69 : decode cX5_carryOut 69 = .ok (.goto (-43), 3) := by decide +kernel
theorem dX5_carryOut_72 : decode cX5_carryOut 72 = .ok (.aload_n 0, 1) := by decide +kernel
theorem dX5_carryOut_73 : decode cX5_carryOut 73 = .ok (.getfield 32, 3) := by decide +kernel
theorem dX5_carryOut_76 : decode cX5_carryOut 76 = .ok (.getfield 327, 3) := by decide +kernel
theorem dX5_carryOut_79 : decode cX5_carryOut 79 = .ok (.ireturn, 1) := by decide +kernel
theorem dX5_plans_0 : decode cX5_plans 0 = .ok (.aload_n 0, 1) := by decide +kernel
theorem dX5_plans_1 : decode cX5_plans 1 = .ok (.iload_n 1, 1) := by decide +kernel
theorem dX5_plans_2 : decode cX5_plans 2 = .ok (.invokevirtual 318, 3) := by decide +kernel
theorem dX5_plans_5 : decode cX5_plans 5 = .ok (.aload_n 0, 1) := by decide +kernel
theorem dX5_plans_6 : decode cX5_plans 6 = .ok (.getfield 32, 3) := by decide +kernel
theorem dX5_plans_9 : decode cX5_plans 9 = .ok (.getfield 338, 3) := by decide +kernel
theorem dX5_plans_12 : decode cX5_plans 12 = .ok (.ireturn, 1) := by decide +kernel
theorem dX5_averagePoints_0 : decode cX5_averagePoints 0 = .ok (.iload_n 1, 1) := by decide +kernel
theorem dX5_averagePoints_1 : decode cX5_averagePoints 1 = .ok (.aload_n 0, 1) := by decide +kernel
theorem dX5_averagePoints_2 : decode cX5_averagePoints 2 = .ok (.getfield 10, 3) := by decide +kernel
theorem dX5_averagePoints_5 : decode cX5_averagePoints 5 = .ok (.getfield 74, 3) := by decide +kernel
theorem dX5_averagePoints_8 : decode cX5_averagePoints 8 = .ok (.iushr, 1) := by decide +kernel
theorem dX5_averagePoints_9 : decode cX5_averagePoints 9 = .ok (.ifCond .eq 14, 3) := by decide +kernel
theorem dX5_averagePoints_12 : decode cX5_averagePoints 12 = .ok (.new 129, 3) := by decide +kernel
theorem dX5_averagePoints_15 : decode cX5_averagePoints 15 = .ok (.dup, 1) := by decide +kernel
theorem dX5_averagePoints_16 : decode cX5_averagePoints 16 = .ok (.ldc_w 341, 3) := by decide +kernel
theorem dX5_averagePoints_19 : decode cX5_averagePoints 19 = .ok (.invokespecial 133, 3) := by decide +kernel
theorem dX5_averagePoints_22 : decode cX5_averagePoints 22 = .ok (.athrow, 1) := by decide +kernel
theorem dX5_averagePoints_23 : decode cX5_averagePoints 23 = .ok (.iload_n 1, 1) := by decide +kernel
theorem dX5_averagePoints_24 : decode cX5_averagePoints 24 = .ok (.invokestatic 343, 3) := by decide +kernel
theorem dX5_averagePoints_27 : decode cX5_averagePoints 27 = .ok (.istore_n 2, 1) := by decide +kernel
theorem dX5_averagePoints_28 : decode cX5_averagePoints 28 = .ok (.iload_n 2, 1) := by decide +kernel
theorem dX5_averagePoints_29 : decode cX5_averagePoints 29 = .ok (.ifCond .ne 14, 3) := by decide +kernel
theorem dX5_averagePoints_32 : decode cX5_averagePoints 32 = .ok (.new 348, 3) := by decide +kernel
theorem dX5_averagePoints_35 : decode cX5_averagePoints 35 = .ok (.dup, 1) := by decide +kernel
theorem dX5_averagePoints_36 : decode cX5_averagePoints 36 = .ok (.ldc_w 350, 3) := by decide +kernel
theorem dX5_averagePoints_39 : decode cX5_averagePoints 39 = .ok (.invokespecial 352, 3) := by decide +kernel
theorem dX5_averagePoints_42 : decode cX5_averagePoints 42 = .ok (.athrow, 1) := by decide +kernel
theorem dX5_averagePoints_43 : decode cX5_averagePoints 43 = .ok (.aload_n 0, 1) := by decide +kernel
theorem dX5_averagePoints_44 : decode cX5_averagePoints 44 = .ok (.getfield 10, 3) := by decide +kernel
theorem dX5_averagePoints_47 : decode cX5_averagePoints 47 = .ok (.iload_n 1, 1) := by decide +kernel
theorem dX5_averagePoints_48 : decode cX5_averagePoints 48 = .ok (.invokevirtual 353, 3) := by decide +kernel
theorem dX5_averagePoints_51 : decode cX5_averagePoints 51 = .ok (.i2d, 1) := by decide +kernel
theorem dX5_averagePoints_52 : decode cX5_averagePoints 52 = .ok (.iload_n 2, 1) := by decide +kernel
theorem dX5_averagePoints_53 : decode cX5_averagePoints 53 = .ok (.i2d, 1) := by decide +kernel
theorem dX5_averagePoints_54 : decode cX5_averagePoints 54 = .ok (.ddiv, 1) := by decide +kernel
theorem dX5_averagePoints_55 : decode cX5_averagePoints 55 = .ok (.dreturn, 1) := by decide +kernel
theorem dX5_audit_0 : decode cX5_audit 0 = .ok (.iconst 0, 1) := by decide +kernel
theorem dX5_audit_1 : decode cX5_audit 1 = .ok (.istore_n 1, 1) := by decide +kernel
theorem dX5_audit_2 : decode cX5_audit 2 = .ok (.iconst 0, 1) := by decide +kernel
theorem dX5_audit_3 : decode cX5_audit 3 = .ok (.istore_n 2, 1) := by decide +kernel
theorem dX5_audit_4 : decode cX5_audit 4 = .ok (.iload_n 2, 1) := by decide +kernel
theorem dX5_audit_5 : decode cX5_audit 5 = .ok (.aload_n 0, 1) := by decide +kernel
theorem dX5_audit_6 : decode cX5_audit 6 = .ok (.getfield 10, 3) := by decide +kernel
theorem dX5_audit_9 : decode cX5_audit 9 = .ok (.getfield 74, 3) := by decide +kernel
theorem dX5_audit_12 : decode cX5_audit 12 = .ok (.if_icmp .ge 34, 3) := by decide +kernel
theorem dX5_audit_15 : decode cX5_audit 15 = .ok (.aload_n 0, 1) := by decide +kernel
theorem dX5_audit_16 : decode cX5_audit 16 = .ok (.getfield 10, 3) := by decide +kernel
theorem dX5_audit_19 : decode cX5_audit 19 = .ok (.getfield 201, 3) := by decide +kernel
theorem dX5_audit_22 : decode cX5_audit 22 = .ok (.iload_n 2, 1) := by decide +kernel
theorem dX5_audit_23 : decode cX5_audit 23 = .ok (.invokestatic 173, 3) := by decide +kernel
theorem dX5_audit_26 : decode cX5_audit 26 = .ok (.aload_n 0, 1) := by decide +kernel
theorem dX5_audit_27 : decode cX5_audit 27 = .ok (.getfield 10, 3) := by decide +kernel
theorem dX5_audit_30 : decode cX5_audit 30 = .ok (.iload_n 2, 1) := by decide +kernel
theorem dX5_audit_31 : decode cX5_audit 31 = .ok (.invokevirtual 356, 3) := by decide +kernel
theorem dX5_audit_34 : decode cX5_audit 34 = .ok (.if_icmp .eq 6, 3) := by decide +kernel
theorem dX5_audit_37 : decode cX5_audit 37 = .ok (.iinc 1 1, 3) := by decide +kernel
theorem dX5_audit_40 : decode cX5_audit 40 = .ok (.iinc 2 1, 3) := by decide +kernel
theorem dX5_audit_43 : decode cX5_audit 43 = .ok (.goto (-39), 3) := by decide +kernel
theorem dX5_audit_46 : decode cX5_audit 46 = .ok (.iload_n 1, 1) := by decide +kernel
theorem dX5_audit_47 : decode cX5_audit 47 = .ok (.ireturn, 1) := by decide +kernel
theorem dX5_lost_0 : decode cX5_lost 0 = .ok (.iload_n 1, 1) := by decide +kernel
theorem dX5_lost_1 : decode cX5_lost 1 = .ok (.bipush 6, 2) := by decide +kernel
theorem dX5_lost_3 : decode cX5_lost 3 = .ok (.invokestatic 104, 3) := by decide +kernel
theorem dX5_lost_6 : decode cX5_lost 6 = .ok (.aload_n 0, 1) := by decide +kernel
theorem dX5_lost_7 : decode cX5_lost 7 = .ok (.getfield 10, 3) := by decide +kernel
theorem dX5_lost_10 : decode cX5_lost 10 = .ok (.iload_n 1, 1) := by decide +kernel
theorem dX5_lost_11 : decode cX5_lost 11 = .ok (.invokevirtual 359, 3) := by decide +kernel
theorem dX5_lost_14 : decode cX5_lost 14 = .ok (.ireturn, 1) := by decide +kernel
theorem dX5_append_0 : decode cX5_append 0 = .ok (.iload_n 1, 1) := by decide +kernel
theorem dX5_append_1 : decode cX5_append 1 = .ok (.bipush 32, 2) := by decide +kernel
theorem dX5_append_3 : decode cX5_append 3 = .ok (.bipush 126, 2) := by decide +kernel
theorem dX5_append_5 : decode cX5_append 5 = .ok (.invokestatic 70, 3) := by decide +kernel
theorem dX5_append_8 : decode cX5_append 8 = .ok (.aload_n 0, 1) := by decide +kernel
theorem dX5_append_9 : decode cX5_append 9 = .ok (.getfield 39, 3) := by decide +kernel
theorem dX5_append_12 : decode cX5_append 12 = .ok (.getfield 362, 3) := by decide +kernel
theorem dX5_append_15 : decode cX5_append 15 = .ok (.bipush 70, 2) := by decide +kernel
theorem dX5_append_17 : decode cX5_append 17 = .ok (.if_icmp .lt 14, 3) := by decide +kernel
theorem dX5_append_20 : decode cX5_append 20 = .ok (.new 77, 3) := by decide +kernel
theorem dX5_append_23 : decode cX5_append 23 = .ok (.dup, 1) := by decide +kernel
theorem dX5_append_24 : decode cX5_append 24 = .ok (.ldc_w 365, 3) := by decide +kernel
theorem dX5_append_27 : decode cX5_append 27 = .ok (.invokespecial 81, 3) := by decide +kernel
theorem dX5_append_30 : decode cX5_append 30 = .ok (.athrow, 1) := by decide +kernel
theorem dX5_append_31 : decode cX5_append 31 = .ok (.aload_n 0, 1) := by decide +kernel
theorem dX5_append_32 : decode cX5_append 32 = .ok (.getfield 39, 3) := by decide +kernel
theorem dX5_append_35 : decode cX5_append 35 = .ok (.iload_n 1, 1) := by decide +kernel
theorem dX5_append_36 : decode cX5_append 36 = .ok (.invokevirtual 367, 3) := by decide +kernel
theorem dX5_append_39 : decode cX5_append 39 = .ok (.aload_n 0, 1) := by decide +kernel
theorem dX5_append_40 : decode cX5_append 40 = .ok (.getfield 39, 3) := by decide +kernel
theorem dX5_append_43 : decode cX5_append 43 = .ok (.getfield 362, 3) := by decide +kernel
theorem dX5_append_46 : decode cX5_append 46 = .ok (.ireturn, 1) := by decide +kernel
theorem dX5_read_0 : decode cX5_read 0 = .ok (.aload_n 0, 1) := by decide +kernel
theorem dX5_read_1 : decode cX5_read 1 = .ok (.getfield 39, 3) := by decide +kernel
theorem dX5_read_4 : decode cX5_read 4 = .ok (.invokevirtual 371, 3) := by decide +kernel
theorem dX5_read_7 : decode cX5_read 7 = .ok (.istore_n 1, 1) := by decide +kernel
theorem dX5_read_8 : decode cX5_read 8 = .ok (.iload_n 1, 1) := by decide +kernel
theorem dX5_read_9 : decode cX5_read 9 = .ok (.iconst (-1), 1) := by decide +kernel
theorem dX5_read_10 : decode cX5_read 10 = .ok (.if_icmp .eq 27, 3) := by decide +kernel
theorem dX5_read_13 : decode cX5_read 13 = .ok (.aload_n 0, 1) := by decide +kernel
theorem dX5_read_14 : decode cX5_read 14 = .ok (.getfield 39, 3) := by decide +kernel
theorem dX5_read_17 : decode cX5_read 17 = .ok (.iconst 0, 1) := by decide +kernel
theorem dX5_read_18 : decode cX5_read 18 = .ok (.putfield 362, 3) := by decide +kernel
theorem dX5_read_21 : decode cX5_read 21 = .ok (.aload_n 0, 1) := by decide +kernel
theorem dX5_read_22 : decode cX5_read 22 = .ok (.iload_n 1, 1) := by decide +kernel
theorem dX5_read_23 : decode cX5_read 23 = .ok (.putfield 58, 3) := by decide +kernel
theorem dX5_read_26 : decode cX5_read 26 = .ok (.new 129, 3) := by decide +kernel
theorem dX5_read_29 : decode cX5_read 29 = .ok (.dup, 1) := by decide +kernel
theorem dX5_read_30 : decode cX5_read 30 = .ok (.ldc_w 375, 3) := by decide +kernel
theorem dX5_read_33 : decode cX5_read 33 = .ok (.invokespecial 133, 3) := by decide +kernel
theorem dX5_read_36 : decode cX5_read 36 = .ok (.athrow, 1) := by decide +kernel
theorem dX5_read_37 : decode cX5_read 37 = .ok (.aload_n 0, 1) := by decide +kernel
theorem dX5_read_38 : decode cX5_read 38 = .ok (.getfield 19, 3) := by decide +kernel
theorem dX5_read_41 : decode cX5_read 41 = .ok (.aload_n 0, 1) := by decide +kernel
theorem dX5_read_42 : decode cX5_read 42 = .ok (.getfield 10, 3) := by decide +kernel
theorem dX5_read_45 : decode cX5_read 45 = .ok (.invokevirtual 377, 3) := by decide +kernel
theorem dX5_read_48 : decode cX5_read 48 = .ok (.aload_n 0, 1) := by decide +kernel
theorem dX5_read_49 : decode cX5_read 49 = .ok (.getfield 39, 3) := by decide +kernel
theorem dX5_read_52 : decode cX5_read 52 = .ok (.aload_n 0, 1) := by decide +kernel
theorem dX5_read_53 : decode cX5_read 53 = .ok (.getfield 10, 3) := by decide +kernel
theorem dX5_read_56 : decode cX5_read 56 = .ok (.invokevirtual 380, 3) := by decide +kernel
theorem dX5_read_59 : decode cX5_read 59 = .ok (.istore_n 2, 1) := by decide +kernel
theorem dX5_read_60 : decode cX5_read 60 = .ok (.aload_n 0, 1) := by decide +kernel
theorem dX5_read_61 : decode cX5_read 61 = .ok (.getfield 39, 3) := by decide +kernel
theorem dX5_read_64 : decode cX5_read 64 = .ok (.iconst 0, 1) := by decide +kernel
theorem dX5_read_65 : decode cX5_read 65 = .ok (.putfield 362, 3) := by decide +kernel
theorem dX5_read_68 : decode cX5_read 68 = .ok (.iload_n 2, 1) := by decide +kernel
theorem dX5_read_69 : decode cX5_read 69 = .ok (.iconst (-1), 1) := by decide +kernel
theorem dX5_read_70 : decode cX5_read 70 = .ok (.if_icmp .ne 25, 3) := by decide +kernel
theorem dX5_read_73 : decode cX5_read 73 = .ok (.aload_n 0, 1) := by decide +kernel
theorem dX5_read_74 : decode cX5_read 74 = .ok (.getfield 10, 3) := by decide +kernel
theorem dX5_read_77 : decode cX5_read 77 = .ok (.aload_n 0, 1) := by decide +kernel
theorem dX5_read_78 : decode cX5_read 78 = .ok (.getfield 19, 3) := by decide +kernel
theorem dX5_read_81 : decode cX5_read 81 = .ok (.invokevirtual 377, 3) := by decide +kernel
theorem dX5_read_84 : decode cX5_read 84 = .ok (.new 77, 3) := by decide +kernel
theorem dX5_read_87 : decode cX5_read 87 = .ok (.dup, 1) := by decide +kernel
theorem dX5_read_88 : decode cX5_read 88 = .ok (.ldc_w 384, 3) := by decide +kernel
theorem dX5_read_91 : decode cX5_read 91 = .ok (.invokespecial 81, 3) := by decide +kernel
theorem dX5_read_94 : decode cX5_read 94 = .ok (.athrow, 1) := by decide +kernel
theorem dX5_read_95 : decode cX5_read 95 = .ok (.aload_n 0, 1) := by decide +kernel
theorem dX5_read_96 : decode cX5_read 96 = .ok (.getfield 25, 3) := by decide +kernel
theorem dX5_read_99 : decode cX5_read 99 = .ok (.aload_n 0, 1) := by decide +kernel
theorem dX5_read_100 : decode cX5_read 100 = .ok (.getfield 19, 3) := by decide +kernel
theorem dX5_read_103 : decode cX5_read 103 = .ok (.invokevirtual 84, 3) := by decide +kernel
theorem dX5_read_106 : decode cX5_read 106 = .ok (.iload_n 2, 1) := by decide +kernel
theorem dX5_read_107 : decode cX5_read 107 = .ok (.ireturn, 1) := by decide +kernel
theorem dX5_errorPosition_0 : decode cX5_errorPosition 0 = .ok (.aload_n 0, 1) := by decide +kernel
theorem dX5_errorPosition_1 : decode cX5_errorPosition 1 = .ok (.getfield 58, 3) := by decide +kernel
theorem dX5_errorPosition_4 : decode cX5_errorPosition 4 = .ok (.iconst (-1), 1) := by decide +kernel
theorem dX5_errorPosition_5 : decode cX5_errorPosition 5 = .ok (.if_icmp .ne 14, 3) := by decide +kernel
theorem dX5_errorPosition_8 : decode cX5_errorPosition 8 = .ok (.new 220, 3) := by decide +kernel
theorem dX5_errorPosition_11 : decode cX5_errorPosition 11 = .ok (.dup, 1) := by decide +kernel
theorem dX5_errorPosition_12 : decode cX5_errorPosition 12 = .ok (.ldc_w 386, 3) := by decide +kernel
theorem dX5_errorPosition_15 : decode cX5_errorPosition 15 = .ok (.invokespecial 224, 3) := by decide +kernel
theorem dX5_errorPosition_18 : decode cX5_errorPosition 18 = .ok (.athrow, 1) := by decide +kernel
theorem dX5_errorPosition_19 : decode cX5_errorPosition 19 = .ok (.aload_n 0, 1) := by decide +kernel
theorem dX5_errorPosition_20 : decode cX5_errorPosition 20 = .ok (.getfield 58, 3) := by decide +kernel
theorem dX5_errorPosition_23 : decode cX5_errorPosition 23 = .ok (.ireturn, 1) := by decide +kernel
theorem dX5_describe_0 : decode cX5_describe 0 = .ok (.aload_n 0, 1) := by decide +kernel
theorem dX5_describe_1 : decode cX5_describe 1 = .ok (.iload_n 1, 1) := by decide +kernel
theorem dX5_describe_2 : decode cX5_describe 2 = .ok (.invokevirtual 144, 3) := by decide +kernel
theorem dX5_describe_5 : decode cX5_describe 5 = .ok (.aload_n 0, 1) := by decide +kernel
theorem dX5_describe_6 : decode cX5_describe 6 = .ok (.getfield 46, 3) := by decide +kernel
theorem dX5_describe_9 : decode cX5_describe 9 = .ok (.aload_n 0, 1) := by decide +kernel
theorem dX5_describe_10 : decode cX5_describe 10 = .ok (.getfield 10, 3) := by decide +kernel
theorem dX5_describe_13 : decode cX5_describe 13 = .ok (.iload_n 1, 1) := by decide +kernel
theorem dX5_describe_14 : decode cX5_describe 14 = .ok (.invokevirtual 388, 3) := by decide +kernel
theorem dX5_describe_17 : decode cX5_describe 17 = .ok (.iload_n 2, 1) := by decide +kernel
theorem dX5_describe_18 : decode cX5_describe 18 = .ok (.iconst (-1), 1) := by decide +kernel
theorem dX5_describe_19 : decode cX5_describe 19 = .ok (.if_icmp .ne 11, 3) := by decide +kernel
theorem dX5_describe_22 : decode cX5_describe 22 = .ok (.aload_n 0, 1) := by decide +kernel
theorem dX5_describe_23 : decode cX5_describe 23 = .ok (.getfield 46, 3) := by decide +kernel
theorem dX5_describe_26 : decode cX5_describe 26 = .ok (.getfield 392, 3) := by decide +kernel
theorem dX5_describe_29 : decode cX5_describe 29 = .ok (.ireturn, 1) := by decide +kernel
theorem dX5_describe_30 : decode cX5_describe 30 = .ok (.iload_n 2, 1) := by decide +kernel
theorem dX5_describe_31 : decode cX5_describe 31 = .ok (.iconst 0, 1) := by decide +kernel
theorem dX5_describe_32 : decode cX5_describe 32 = .ok (.aload_n 0, 1) := by decide +kernel
theorem dX5_describe_33 : decode cX5_describe 33 = .ok (.getfield 46, 3) := by decide +kernel
theorem dX5_describe_36 : decode cX5_describe 36 = .ok (.getfield 392, 3) := by decide +kernel
theorem dX5_describe_39 : decode cX5_describe 39 = .ok (.iconst 1, 1) := by decide +kernel
theorem dX5_describe_40 : decode cX5_describe 40 = .ok (.isub, 1) := by decide +kernel
theorem dX5_describe_41 : decode cX5_describe 41 = .ok (.invokestatic 328, 3) := by decide +kernel
theorem dX5_describe_44 : decode cX5_describe 44 = .ok (.ifCond .ne 14, 3) := by decide +kernel
theorem dX5_describe_47 : decode cX5_describe 47 = .ok (.new 220, 3) := by decide +kernel
theorem dX5_describe_50 : decode cX5_describe 50 = .ok (.dup, 1) := by decide +kernel
theorem dX5_describe_51 : decode cX5_describe 51 = .ok (.ldc_w 393, 3) := by decide +kernel
theorem dX5_describe_54 : decode cX5_describe 54 = .ok (.invokespecial 224, 3) := by decide +kernel
theorem dX5_describe_57 : decode cX5_describe 57 = .ok (.athrow, 1) := by decide +kernel
theorem dX5_describe_58 : decode cX5_describe 58 = .ok (.aload_n 0, 1) := by decide +kernel
theorem dX5_describe_59 : decode cX5_describe 59 = .ok (.getfield 46, 3) := by decide +kernel
theorem dX5_describe_62 : decode cX5_describe 62 = .ok (.getfield 395, 3) := by decide +kernel
theorem dX5_describe_65 : decode cX5_describe 65 = .ok (.iload_n 2, 1) := by decide +kernel
theorem dX5_describe_66 : decode cX5_describe 66 = .ok (.invokestatic 399, 3) := by decide +kernel
theorem dX5_describe_69 : decode cX5_describe 69 = .ok (.ireturn, 1) := by decide +kernel
theorem dX5_undo_0 : decode cX5_undo 0 = .ok (.aload_n 0, 1) := by decide +kernel
theorem dX5_undo_1 : decode cX5_undo 1 = .ok (.getfield 25, 3) := by decide +kernel
theorem dX5_undo_4 : decode cX5_undo 4 = .ok (.getfield 403, 3) := by decide +kernel
theorem dX5_undo_7 : decode cX5_undo 7 = .ok (.ifCond .ne 14, 3) := by decide +kernel
theorem dX5_undo_10 : decode cX5_undo 10 = .ok (.new 220, 3) := by decide +kernel
theorem dX5_undo_13 : decode cX5_undo 13 = .ok (.dup, 1) := by decide +kernel
theorem dX5_undo_14 : decode cX5_undo 14 = .ok (.ldc_w 406, 3) := by decide +kernel
theorem dX5_undo_17 : decode cX5_undo 17 = .ok (.invokespecial 224, 3) := by decide +kernel
theorem dX5_undo_20 : decode cX5_undo 20 = .ok (.athrow, 1) := by decide +kernel
theorem dX5_undo_21 : decode cX5_undo 21 = .ok (.aload_n 0, 1) := by decide +kernel
theorem dX5_undo_22 : decode cX5_undo 22 = .ok (.getfield 25, 3) := by decide +kernel
theorem dX5_undo_25 : decode cX5_undo 25 = .ok (.aload_n 0, 1) := by decide +kernel
theorem dX5_undo_26 : decode cX5_undo 26 = .ok (.getfield 10, 3) := by decide +kernel
theorem dX5_undo_29 : decode cX5_undo 29 = .ok (.invokevirtual 408, 3) := by decide +kernel
theorem dX5_undo_32 : decode cX5_undo 32 = .ok (.aload_n 0, 1) := by decide +kernel
theorem dX5_undo_33 : decode cX5_undo 33 = .ok (.getfield 25, 3) := by decide +kernel
theorem dX5_undo_36 : decode cX5_undo 36 = .ok (.getfield 403, 3) := by decide +kernel
theorem dX5_undo_39 : decode cX5_undo 39 = .ok (.ireturn, 1) := by decide +kernel
theorem dX5_save_0 : decode cX5_save 0 = .ok (.aload_n 0, 1) := by decide +kernel
theorem dX5_save_1 : decode cX5_save 1 = .ok (.getfield 16, 3) := by decide +kernel
theorem dX5_save_4 : decode cX5_save 4 = .ok (.aload_n 0, 1) := by decide +kernel
theorem dX5_save_5 : decode cX5_save 5 = .ok (.getfield 10, 3) := by decide +kernel
theorem dX5_save_8 : decode cX5_save 8 = .ok (.invokevirtual 377, 3) := by decide +kernel
theorem dX5_save_11 : decode cX5_save 11 = .ok (.aload_n 0, 1) := by decide +kernel
theorem dX5_save_12 : decode cX5_save 12 = .ok (.iconst 1, 1) := by decide +kernel
theorem dX5_save_13 : decode cX5_save 13 = .ok (.putfield 50, 3) := by decide +kernel
theorem dX5_save_16 : decode cX5_save 16 = .ok (.aload_n 0, 1) := by decide +kernel
theorem dX5_save_17 : decode cX5_save 17 = .ok (.getfield 10, 3) := by decide +kernel
theorem dX5_save_20 : decode cX5_save 20 = .ok (.getfield 61, 3) := by decide +kernel
theorem dX5_save_23 : decode cX5_save 23 = .ok (.ireturn, 1) := by decide +kernel
theorem dX5_restore_0 : decode cX5_restore 0 = .ok (.aload_n 0, 1) := by decide +kernel
theorem dX5_restore_1 : decode cX5_restore 1 = .ok (.getfield 50, 3) := by decide +kernel
theorem dX5_restore_4 : decode cX5_restore 4 = .ok (.ifCond .ne 14, 3) := by decide +kernel
theorem dX5_restore_7 : decode cX5_restore 7 = .ok (.new 77, 3) := by decide +kernel
theorem dX5_restore_10 : decode cX5_restore 10 = .ok (.dup, 1) := by decide +kernel
theorem dX5_restore_11 : decode cX5_restore 11 = .ok (.ldc_w 411, 3) := by decide +kernel
theorem dX5_restore_14 : decode cX5_restore 14 = .ok (.invokespecial 81, 3) := by decide +kernel
theorem dX5_restore_17 : decode cX5_restore 17 = .ok (.athrow, 1) := by decide +kernel
theorem dX5_restore_18 : decode cX5_restore 18 = .ok (.aload_n 0, 1) := by decide +kernel
theorem dX5_restore_19 : decode cX5_restore 19 = .ok (.getfield 10, 3) := by decide +kernel
theorem dX5_restore_22 : decode cX5_restore 22 = .ok (.aload_n 0, 1) := by decide +kernel
theorem dX5_restore_23 : decode cX5_restore 23 = .ok (.getfield 16, 3) := by decide +kernel
theorem dX5_restore_26 : decode cX5_restore 26 = .ok (.invokevirtual 377, 3) := by decide +kernel
theorem dX5_restore_29 : decode cX5_restore 29 = .ok (.aload_n 0, 1) := by decide +kernel
theorem dX5_restore_30 : decode cX5_restore 30 = .ok (.getfield 25, 3) := by decide +kernel
theorem dX5_restore_33 : decode cX5_restore 33 = .ok (.invokevirtual 67, 3) := by decide +kernel
theorem dX5_restore_36 : decode cX5_restore 36 = .ok (.aload_n 0, 1) := by decide +kernel
theorem dX5_restore_37 : decode cX5_restore 37 = .ok (.getfield 10, 3) := by decide +kernel
theorem dX5_restore_40 : decode cX5_restore 40 = .ok (.getfield 61, 3) := by decide +kernel
theorem dX5_restore_43 : decode cX5_restore 43 = .ok (.ireturn, 1) := by decide +kernel
theorem dX5_needIndex_0 : decode cX5_needIndex 0 = .ok (.iload_n 0, 1) := by decide +kernel
theorem dX5_needIndex_1 : decode cX5_needIndex 1 = .ok (.iconst 0, 1) := by decide +kernel
theorem dX5_needIndex_2 : decode cX5_needIndex 2 = .ok (.iload_n 1, 1) := by decide +kernel
theorem dX5_needIndex_3 : decode cX5_needIndex 3 = .ok (.iconst 1, 1) := by decide +kernel
theorem dX5_needIndex_4 : decode cX5_needIndex 4 = .ok (.isub, 1) := by decide +kernel
theorem dX5_needIndex_5 : decode cX5_needIndex 5 = .ok (.invokestatic 328, 3) := by decide +kernel
theorem dX5_needIndex_8 : decode cX5_needIndex 8 = .ok (.ifCond .ne 14, 3) := by decide +kernel
theorem dX5_needIndex_11 : decode cX5_needIndex 11 = .ok (.new 413, 3) := by decide +kernel
theorem dX5_needIndex_14 : decode cX5_needIndex 14 = .ok (.dup, 1) := by decide +kernel
theorem dX5_needIndex_15 : decode cX5_needIndex 15 = .ok (.ldc_w 415, 3) := by decide +kernel
theorem dX5_needIndex_18 : decode cX5_needIndex 18 = .ok (.invokespecial 417, 3) := by decide +kernel
theorem dX5_needIndex_21 : decode cX5_needIndex 21 = .ok (.athrow, 1) := by decide +kernel
theorem dX5_needIndex_22 : decode cX5_needIndex 22 = .ok (.return_, 1) := by decide +kernel
theorem dX5_needRange_0 : decode cX5_needRange 0 = .ok (.iload_n 0, 1) := by decide +kernel
theorem dX5_needRange_1 : decode cX5_needRange 1 = .ok (.iload_n 1, 1) := by decide +kernel
theorem dX5_needRange_2 : decode cX5_needRange 2 = .ok (.iload_n 2, 1) := by decide +kernel
theorem dX5_needRange_3 : decode cX5_needRange 3 = .ok (.invokestatic 328, 3) := by decide +kernel
theorem dX5_needRange_6 : decode cX5_needRange 6 = .ok (.ifCond .ne 13, 3) := by decide +kernel
theorem dX5_needRange_9 : decode cX5_needRange 9 = .ok (.new 129, 3) := by decide +kernel
theorem dX5_needRange_12 : decode cX5_needRange 12 = .ok (.dup, 1) := by decide +kernel
theorem dX5_needRange_13 : decode cX5_needRange 13 = .ok (.ldc 131, 2) := by decide +kernel
theorem dX5_needRange_15 : decode cX5_needRange 15 = .ok (.invokespecial 133, 3) := by decide +kernel
theorem dX5_needRange_18 : decode cX5_needRange 18 = .ok (.athrow, 1) := by decide +kernel
theorem dX5_needRange_19 : decode cX5_needRange 19 = .ok (.return_, 1) := by decide +kernel
theorem dX5_needTeacher_0 : decode cX5_needTeacher 0 = .ok (.iload_n 1, 1) := by decide +kernel
theorem dX5_needTeacher_1 : decode cX5_needTeacher 1 = .ok (.aload_n 0, 1) := by decide +kernel
theorem dX5_needTeacher_2 : decode cX5_needTeacher 2 = .ok (.getfield 10, 3) := by decide +kernel
theorem dX5_needTeacher_5 : decode cX5_needTeacher 5 = .ok (.getfield 74, 3) := by decide +kernel
theorem dX5_needTeacher_8 : decode cX5_needTeacher 8 = .ok (.invokestatic 104, 3) := by decide +kernel
theorem dX5_needTeacher_11 : decode cX5_needTeacher 11 = .ok (.return_, 1) := by decide +kernel
theorem dX5_needLesson_0 : decode cX5_needLesson 0 = .ok (.iload_n 1, 1) := by decide +kernel
theorem dX5_needLesson_1 : decode cX5_needLesson 1 = .ok (.aload_n 0, 1) := by decide +kernel
theorem dX5_needLesson_2 : decode cX5_needLesson 2 = .ok (.getfield 10, 3) := by decide +kernel
theorem dX5_needLesson_5 : decode cX5_needLesson 5 = .ok (.getfield 61, 3) := by decide +kernel
theorem dX5_needLesson_8 : decode cX5_needLesson 8 = .ok (.invokestatic 104, 3) := by decide +kernel
theorem dX5_needLesson_11 : decode cX5_needLesson 11 = .ok (.return_, 1) := by decide +kernel
theorem dX5_needState_0 : decode cX5_needState 0 = .ok (.aload_n 0, 1) := by decide +kernel
theorem dX5_needState_1 : decode cX5_needState 1 = .ok (.getfield 10, 3) := by decide +kernel
theorem dX5_needState_4 : decode cX5_needState 4 = .ok (.iload_n 1, 1) := by decide +kernel
theorem dX5_needState_5 : decode cX5_needState 5 = .ok (.invokevirtual 186, 3) := by decide +kernel
theorem dX5_needState_8 : decode cX5_needState 8 = .ok (.iload_n 2, 1) := by decide +kernel
theorem dX5_needState_9 : decode cX5_needState 9 = .ok (.if_icmp .eq 14, 3) := by decide +kernel
theorem dX5_needState_12 : decode cX5_needState 12 = .ok (.new 77, 3) := by decide +kernel
theorem dX5_needState_15 : decode cX5_needState 15 = .ok (.dup, 1) := by decide +kernel
theorem dX5_needState_16 : decode cX5_needState 16 = .ok (.ldc_w 418, 3) := by decide +kernel
theorem dX5_needState_19 : decode cX5_needState 19 = .ok (.invokespecial 81, 3) := by decide +kernel
theorem dX5_needState_22 : decode cX5_needState 22 = .ok (.athrow, 1) := by decide +kernel
theorem dX5_needState_23 : decode cX5_needState 23 = .ok (.return_, 1) := by decide +kernel
theorem dX5_needTeachers_0 : decode cX5_needTeachers 0 = .ok (.aload_n 0, 1) := by decide +kernel
theorem dX5_needTeachers_1 : decode cX5_needTeachers 1 = .ok (.getfield 10, 3) := by decide +kernel
theorem dX5_needTeachers_4 : decode cX5_needTeachers 4 = .ok (.getfield 74, 3) := by decide +kernel
theorem dX5_needTeachers_7 : decode cX5_needTeachers 7 = .ok (.ifCond .ne 14, 3) := by decide +kernel
theorem dX5_needTeachers_10 : decode cX5_needTeachers 10 = .ok (.new 220, 3) := by decide +kernel
theorem dX5_needTeachers_13 : decode cX5_needTeachers 13 = .ok (.dup, 1) := by decide +kernel
theorem dX5_needTeachers_14 : decode cX5_needTeachers 14 = .ok (.ldc_w 420, 3) := by decide +kernel
theorem dX5_needTeachers_17 : decode cX5_needTeachers 17 = .ok (.invokespecial 224, 3) := by decide +kernel
theorem dX5_needTeachers_20 : decode cX5_needTeachers 20 = .ok (.athrow, 1) := by decide +kernel
theorem dX5_needTeachers_21 : decode cX5_needTeachers 21 = .ok (.return_, 1) := by decide +kernel
theorem dX5_needPlan_0 : decode cX5_needPlan 0 = .ok (.aload_n 0, 1) := by decide +kernel
theorem dX5_needPlan_1 : decode cX5_needPlan 1 = .ok (.getfield 32, 3) := by decide +kernel
theorem dX5_needPlan_4 : decode cX5_needPlan 4 = .ok (.getfield 338, 3) := by decide +kernel
theorem dX5_needPlan_7 : decode cX5_needPlan 7 = .ok (.ifCond .ne 14, 3) := by decide +kernel
theorem dX5_needPlan_10 : decode cX5_needPlan 10 = .ok (.new 220, 3) := by decide +kernel
theorem dX5_needPlan_13 : decode cX5_needPlan 13 = .ok (.dup, 1) := by decide +kernel
theorem dX5_needPlan_14 : decode cX5_needPlan 14 = .ok (.ldc_w 422, 3) := by decide +kernel
theorem dX5_needPlan_17 : decode cX5_needPlan 17 = .ok (.invokespecial 224, 3) := by decide +kernel
theorem dX5_needPlan_20 : decode cX5_needPlan 20 = .ok (.athrow, 1) := by decide +kernel
theorem dX5_needPlan_21 : decode cX5_needPlan 21 = .ok (.return_, 1) := by decide +kernel
theorem dX5_planDay_0 : decode cX5_planDay 0 = .ok (.iload_n 1, 1) := by decide +kernel
theorem dX5_planDay_1 : decode cX5_planDay 1 = .ok (.iconst 5, 1) := by decide +kernel
theorem dX5_planDay_2 : decode cX5_planDay 2 = .ok (.invokestatic 104, 3) := by decide +kernel
theorem dX5_planDay_5 : decode cX5_planDay 5 = .ok (.aload_n 0, 1) := by decide +kernel
theorem dX5_planDay_6 : decode cX5_planDay 6 = .ok (.getfield 10, 3) := by decide +kernel
theorem dX5_planDay_9 : decode cX5_planDay 9 = .ok (.iload_n 1, 1) := by decide +kernel
theorem dX5_planDay_10 : decode cX5_planDay 10 = .ok (.invokevirtual 242, 3) := by decide +kernel
theorem dX5_planDay_13 : decode cX5_planDay 13 = .ok (.iconst 4, 1) := by decide +kernel
theorem dX5_planDay_14 : decode cX5_planDay 14 = .ok (.if_icmp .le 14, 3) := by decide +kernel
theorem dX5_planDay_17 : decode cX5_planDay 17 = .ok (.new 77, 3) := by decide +kernel
theorem dX5_planDay_20 : decode cX5_planDay 20 = .ok (.dup, 1) := by decide +kernel
theorem dX5_planDay_21 : decode cX5_planDay 21 = .ok (.ldc_w 424, 3) := by decide +kernel
theorem dX5_planDay_24 : decode cX5_planDay 24 = .ok (.invokespecial 81, 3) := by decide +kernel
theorem dX5_planDay_27 : decode cX5_planDay 27 = .ok (.athrow, 1) := by decide +kernel
theorem dX5_planDay_28 : decode cX5_planDay 28 = .ok (.aload_n 0, 1) := by decide +kernel
theorem dX5_planDay_29 : decode cX5_planDay 29 = .ok (.getfield 32, 3) := by decide +kernel
theorem dX5_planDay_32 : decode cX5_planDay 32 = .ok (.aload_n 0, 1) := by decide +kernel
theorem dX5_planDay_33 : decode cX5_planDay 33 = .ok (.getfield 10, 3) := by decide +kernel
theorem dX5_planDay_36 : decode cX5_planDay 36 = .ok (.iload_n 1, 1) := by decide +kernel
theorem dX5_planDay_37 : decode cX5_planDay 37 = .ok (.invokevirtual 426, 3) := by decide +kernel
theorem dX5_planDay_40 : decode cX5_planDay 40 = .ok (.return_, 1) := by decide +kernel
theorem dX5_isWithin_0 : decode cX5_isWithin 0 = .ok (.iload_n 1, 1) := by decide +kernel
theorem dX5_isWithin_1 : decode cX5_isWithin 1 = .ok (.iload_n 0, 1) := by decide +kernel
theorem dX5_isWithin_2 : decode cX5_isWithin 2 = .ok (.if_icmp .gt 12, 3) := by decide +kernel
theorem dX5_isWithin_5 : decode cX5_isWithin 5 = .ok (.iload_n 0, 1) := by decide +kernel
theorem dX5_isWithin_6 : decode cX5_isWithin 6 = .ok (.iload_n 2, 1) := by decide +kernel
theorem dX5_isWithin_7 : decode cX5_isWithin 7 = .ok (.if_icmp .gt 7, 3) := by decide +kernel
theorem dX5_isWithin_10 : decode cX5_isWithin 10 = .ok (.iconst 1, 1) := by decide +kernel
theorem dX5_isWithin_11 : decode cX5_isWithin 11 = .ok (.goto 4, 3) := by decide +kernel
theorem dX5_isWithin_14 : decode cX5_isWithin 14 = .ok (.iconst 0, 1) := by decide +kernel
theorem dX5_isWithin_15 : decode cX5_isWithin 15 = .ok (.ireturn, 1) := by decide +kernel
theorem dX5_at_0 : decode cX5_at 0 = .ok (.iload_n 1, 1) := by decide +kernel
theorem dX5_at_1 : decode cX5_at 1 = .ok (.ifCond .lt 15, 3) := by decide +kernel
theorem dX5_at_4 : decode cX5_at 4 = .ok (.iload_n 1, 1) := by decide +kernel
theorem dX5_at_5 : decode cX5_at 5 = .ok (.aload_n 0, 1) := by decide +kernel
theorem dX5_at_6 : decode cX5_at 6 = .ok (.arraylength, 1) := by decide +kernel
theorem dX5_at_7 : decode cX5_at 7 = .ok (.if_icmp .ge 9, 3) := by decide +kernel
theorem dX5_at_10 : decode cX5_at 10 = .ok (.aload_n 0, 1) := by decide +kernel
theorem dX5_at_11 : decode cX5_at 11 = .ok (.iload_n 1, 1) := by decide +kernel
theorem dX5_at_12 : decode cX5_at 12 = .ok (.iaload, 1) := by decide +kernel
theorem dX5_at_13 : decode cX5_at 13 = .ok (.goto 4, 3) := by decide +kernel
theorem dX5_at_16 : decode cX5_at 16 = .ok (.iconst 0, 1) := by decide +kernel
theorem dX5_at_17 : decode cX5_at 17 = .ok (.ireturn, 1) := by decide +kernel
theorem dX5_put_0 : decode cX5_put 0 = .ok (.iload_n 1, 1) := by decide +kernel
theorem dX5_put_1 : decode cX5_put 1 = .ok (.ifCond .lt 13, 3) := by decide +kernel
theorem dX5_put_4 : decode cX5_put 4 = .ok (.iload_n 1, 1) := by decide +kernel
theorem dX5_put_5 : decode cX5_put 5 = .ok (.aload_n 0, 1) := by decide +kernel
theorem dX5_put_6 : decode cX5_put 6 = .ok (.arraylength, 1) := by decide +kernel
theorem dX5_put_7 : decode cX5_put 7 = .ok (.if_icmp .ge 7, 3) := by decide +kernel
theorem dX5_put_10 : decode cX5_put 10 = .ok (.aload_n 0, 1) := by decide +kernel
theorem dX5_put_11 : decode cX5_put 11 = .ok (.iload_n 1, 1) := by decide +kernel
theorem dX5_put_12 : decode cX5_put 12 = .ok (.iload_n 2, 1) := by decide +kernel
theorem dX5_put_13 : decode cX5_put 13 = .ok (.iastore, 1) := by decide +kernel
theorem dX5_put_14 : decode cX5_put 14 = .ok (.return_, 1) := by decide +kernel
theorem dX5_swap_0 : decode cX5_swap 0 = .ok (.aload_n 0, 1) := by decide +kernel
theorem dX5_swap_1 : decode cX5_swap 1 = .ok (.iload_n 1, 1) := by decide +kernel
theorem dX5_swap_2 : decode cX5_swap 2 = .ok (.invokestatic 173, 3) := by decide +kernel
theorem dX5_swap_5 : decode cX5_swap 5 = .ok (.istore_n 3, 1) := by decide +kernel
theorem dX5_swap_6 : decode cX5_swap 6 = .ok (.aload_n 0, 1) := by decide +kernel
theorem dX5_swap_7 : decode cX5_swap 7 = .ok (.iload_n 1, 1) := by decide +kernel
theorem dX5_swap_8 : decode cX5_swap 8 = .ok (.iload_n 2, 1) := by decide +kernel
theorem dX5_swap_9 : decode cX5_swap 9 = .ok (.invokestatic 429, 3) := by decide +kernel
theorem dX5_swap_12 : decode cX5_swap 12 = .ok (.iload_n 3, 1) := by decide +kernel
theorem dX5_swap_13 : decode cX5_swap 13 = .ok (.ireturn, 1) := by decide +kernel
theorem dX5_signAt_0 : decode cX5_signAt 0 = .ok (.iload_n 1, 1) := by decide +kernel
theorem dX5_signAt_1 : decode cX5_signAt 1 = .ok (.ifCond .lt 15, 3) := by decide +kernel
theorem dX5_signAt_4 : decode cX5_signAt 4 = .ok (.iload_n 1, 1) := by decide +kernel
theorem dX5_signAt_5 : decode cX5_signAt 5 = .ok (.aload_n 0, 1) := by decide +kernel
theorem dX5_signAt_6 : decode cX5_signAt 6 = .ok (.arraylength, 1) := by decide +kernel
theorem dX5_signAt_7 : decode cX5_signAt 7 = .ok (.if_icmp .ge 9, 3) := by decide +kernel
theorem dX5_signAt_10 : decode cX5_signAt 10 = .ok (.aload_n 0, 1) := by decide +kernel
theorem dX5_signAt_11 : decode cX5_signAt 11 = .ok (.iload_n 1, 1) := by decide +kernel
theorem dX5_signAt_12 : decode cX5_signAt 12 = .ok (.caload, 1) := by decide +kernel
theorem dX5_signAt_13 : decode cX5_signAt 13 = .ok (.goto 5, 3) := by decide +kernel
theorem dX5_signAt_16 : decode cX5_signAt 16 = .ok (.bipush 32, 2) := by decide +kernel
theorem dX5_signAt_18 : decode cX5_signAt 18 = .ok (.ireturn, 1) := by decide +kernel
theorem dX5_fill_0 : decode cX5_fill 0 = .ok (.iconst 0, 1) := by decide +kernel
theorem dX5_fill_1 : decode cX5_fill 1 = .ok (.istore_n 2, 1) := by decide +kernel
theorem dX5_fill_2 : decode cX5_fill 2 = .ok (.iload_n 2, 1) := by decide +kernel
theorem dX5_fill_3 : decode cX5_fill 3 = .ok (.aload_n 0, 1) := by decide +kernel
theorem dX5_fill_4 : decode cX5_fill 4 = .ok (.arraylength, 1) := by decide +kernel
theorem dX5_fill_5 : decode cX5_fill 5 = .ok (.if_icmp .ge 13, 3) := by decide +kernel
theorem dX5_fill_8 : decode cX5_fill 8 = .ok (.aload_n 0, 1) := by decide +kernel
theorem dX5_fill_9 : decode cX5_fill 9 = .ok (.iload_n 2, 1) := by decide +kernel
theorem dX5_fill_10 : decode cX5_fill 10 = .ok (.iload_n 1, 1) := by decide +kernel
theorem dX5_fill_11 : decode cX5_fill 11 = .ok (.iastore, 1) := by decide +kernel
theorem dX5_fill_12 : decode cX5_fill 12 = .ok (.iinc 2 1, 3) := by decide +kernel
theorem dX5_fill_15 : decode cX5_fill 15 = .ok (.goto (-13), 3) := by decide +kernel
theorem dX5_fill_18 : decode cX5_fill 18 = .ok (.return_, 1) := by decide +kernel
theorem dX5_copy_0 : decode cX5_copy 0 = .ok (.iconst 0, 1) := by decide +kernel
theorem dX5_copy_1 : decode cX5_copy 1 = .ok (.istore_n 2, 1) := by decide +kernel
theorem dX5_copy_2 : decode cX5_copy 2 = .ok (.iload_n 2, 1) := by decide +kernel
theorem dX5_copy_3 : decode cX5_copy 3 = .ok (.aload_n 0, 1) := by decide +kernel
theorem dX5_copy_4 : decode cX5_copy 4 = .ok (.arraylength, 1) := by decide +kernel
theorem dX5_copy_5 : decode cX5_copy 5 = .ok (.if_icmp .ge 21, 3) := by decide +kernel
theorem dX5_copy_8 : decode cX5_copy 8 = .ok (.iload_n 2, 1) := by decide +kernel
theorem dX5_copy_9 : decode cX5_copy 9 = .ok (.aload_n 1, 1) := by decide +kernel
theorem dX5_copy_10 : decode cX5_copy 10 = .ok (.arraylength, 1) := by decide +kernel
theorem dX5_copy_11 : decode cX5_copy 11 = .ok (.if_icmp .ge 15, 3) := by decide +kernel
theorem dX5_copy_14 : decode cX5_copy 14 = .ok (.aload_n 1, 1) := by decide +kernel
theorem dX5_copy_15 : decode cX5_copy 15 = .ok (.iload_n 2, 1) := by decide +kernel
theorem dX5_copy_16 : decode cX5_copy 16 = .ok (.aload_n 0, 1) := by decide +kernel
theorem dX5_copy_17 : decode cX5_copy 17 = .ok (.iload_n 2, 1) := by decide +kernel
theorem dX5_copy_18 : decode cX5_copy 18 = .ok (.iaload, 1) := by decide +kernel
theorem dX5_copy_19 : decode cX5_copy 19 = .ok (.iastore, 1) := by decide +kernel
theorem dX5_copy_20 : decode cX5_copy 20 = .ok (.iinc 2 1, 3) := by decide +kernel
theorem dX5_copy_23 : decode cX5_copy 23 = .ok (.goto (-21), 3) := by decide +kernel
theorem dX5_copy_26 : decode cX5_copy 26 = .ok (.return_, 1) := by decide +kernel
theorem dX5_dropFrom_0 : decode cX5_dropFrom 0 = .ok (.iload_n 1, 1) := by decide +kernel
theorem dX5_dropFrom_1 : decode cX5_dropFrom 1 = .ok (.iconst 0, 1) := by decide +kernel
theorem dX5_dropFrom_2 : decode cX5_dropFrom 2 = .ok (.invokestatic 433, 3) := by decide +kernel
theorem dX5_dropFrom_5 : decode cX5_dropFrom 5 = .ok (.istore_n 2, 1) := by decide +kernel
theorem dX5_dropFrom_6 : decode cX5_dropFrom 6 = .ok (.iload_n 2, 1) := by decide +kernel
theorem dX5_dropFrom_7 : decode cX5_dropFrom 7 = .ok (.aload_n 0, 1) := by decide +kernel
theorem dX5_dropFrom_8 : decode cX5_dropFrom 8 = .ok (.arraylength, 1) := by decide +kernel
theorem dX5_dropFrom_9 : decode cX5_dropFrom 9 = .ok (.iconst 1, 1) := by decide +kernel
theorem dX5_dropFrom_10 : decode cX5_dropFrom 10 = .ok (.isub, 1) := by decide +kernel
theorem dX5_dropFrom_11 : decode cX5_dropFrom 11 = .ok (.if_icmp .ge 17, 3) := by decide +kernel
theorem dX5_dropFrom_14 : decode cX5_dropFrom 14 = .ok (.aload_n 0, 1) := by decide +kernel
theorem dX5_dropFrom_15 : decode cX5_dropFrom 15 = .ok (.iload_n 2, 1) := by decide +kernel
theorem dX5_dropFrom_16 : decode cX5_dropFrom 16 = .ok (.aload_n 0, 1) := by decide +kernel
theorem dX5_dropFrom_17 : decode cX5_dropFrom 17 = .ok (.iload_n 2, 1) := by decide +kernel
theorem dX5_dropFrom_18 : decode cX5_dropFrom 18 = .ok (.iconst 1, 1) := by decide +kernel
theorem dX5_dropFrom_19 : decode cX5_dropFrom 19 = .ok (.iadd, 1) := by decide +kernel
theorem dX5_dropFrom_20 : decode cX5_dropFrom 20 = .ok (.iaload, 1) := by decide +kernel
theorem dX5_dropFrom_21 : decode cX5_dropFrom 21 = .ok (.iastore, 1) := by decide +kernel
theorem dX5_dropFrom_22 : decode cX5_dropFrom 22 = .ok (.iinc 2 1, 3) := by decide +kernel
theorem dX5_dropFrom_25 : decode cX5_dropFrom 25 = .ok (.goto (-19), 3) := by decide +kernel
theorem dX5_dropFrom_28 : decode cX5_dropFrom 28 = .ok (.return_, 1) := by decide +kernel
theorem dJ6_bitCount_0f7a4_0 : decode cJ6_bitCount_0f7a4 0 = .ok (.iload_n 0, 1) := by decide +kernel
theorem dJ6_bitCount_0f7a4_1 : decode cJ6_bitCount_0f7a4 1 = .ok (.iload_n 0, 1) := by decide +kernel
theorem dJ6_bitCount_0f7a4_2 : decode cJ6_bitCount_0f7a4 2 = .ok (.iconst 1, 1) := by decide +kernel
theorem dJ6_bitCount_0f7a4_3 : decode cJ6_bitCount_0f7a4 3 = .ok (.iushr, 1) := by decide +kernel
theorem dJ6_bitCount_0f7a4_4 : decode cJ6_bitCount_0f7a4 4 = .ok (.ldc_w 265, 3) := by decide +kernel
theorem dJ6_bitCount_0f7a4_7 : decode cJ6_bitCount_0f7a4 7 = .ok (.iand, 1) := by decide +kernel
theorem dJ6_bitCount_0f7a4_8 : decode cJ6_bitCount_0f7a4 8 = .ok (.isub, 1) := by decide +kernel
theorem dJ6_bitCount_0f7a4_9 : decode cJ6_bitCount_0f7a4 9 = .ok (.istore_n 0, 1) := by decide +kernel
theorem dJ6_bitCount_0f7a4_10 : decode cJ6_bitCount_0f7a4 10 = .ok (.iload_n 0, 1) := by decide +kernel
theorem dJ6_bitCount_0f7a4_11 : decode cJ6_bitCount_0f7a4 11 = .ok (.ldc_w 266, 3) := by decide +kernel
theorem dJ6_bitCount_0f7a4_14 : decode cJ6_bitCount_0f7a4 14 = .ok (.iand, 1) := by decide +kernel
theorem dJ6_bitCount_0f7a4_15 : decode cJ6_bitCount_0f7a4 15 = .ok (.iload_n 0, 1) := by decide +kernel
theorem dJ6_bitCount_0f7a4_16 : decode cJ6_bitCount_0f7a4 16 = .ok (.iconst 2, 1) := by decide +kernel
theorem dJ6_bitCount_0f7a4_17 : decode cJ6_bitCount_0f7a4 17 = .ok (.iushr, 1) := by decide +kernel
theorem dJ6_bitCount_0f7a4_18 : decode cJ6_bitCount_0f7a4 18 = .ok (.ldc_w 266, 3) := by decide +kernel
theorem dJ6_bitCount_0f7a4_21 : decode cJ6_bitCount_0f7a4 21 = .ok (.iand, 1) := by decide +kernel
theorem dJ6_bitCount_0f7a4_22 : decode cJ6_bitCount_0f7a4 22 = .ok (.iadd, 1) := by decide +kernel
theorem dJ6_bitCount_0f7a4_23 : decode cJ6_bitCount_0f7a4 23 = .ok (.istore_n 0, 1) := by decide +kernel
theorem dJ6_bitCount_0f7a4_24 : decode cJ6_bitCount_0f7a4 24 = .ok (.iload_n 0, 1) := by decide +kernel
theorem dJ6_bitCount_0f7a4_25 : decode cJ6_bitCount_0f7a4 25 = .ok (.iload_n 0, 1) := by decide +kernel
theorem dJ6_bitCount_0f7a4_26 : decode cJ6_bitCount_0f7a4 26 = .ok (.iconst 4, 1) := by decide +kernel
theorem dJ6_bitCount_0f7a4_27 : decode cJ6_bitCount_0f7a4 27 = .ok (.iushr, 1) := by decide +kernel
theorem dJ6_bitCount_0f7a4_28 : decode cJ6_bitCount_0f7a4 28 = .ok (.iadd, 1) := by decide +kernel
theorem dJ6_bitCount_0f7a4_29 : decode cJ6_bitCount_0f7a4 29 = .ok (.ldc_w 267, 3) := by decide +kernel
theorem dJ6_bitCount_0f7a4_32 : decode cJ6_bitCount_0f7a4 32 = .ok (.iand, 1) := by decide +kernel
theorem dJ6_bitCount_0f7a4_33 : decode cJ6_bitCount_0f7a4 33 = .ok (.istore_n 0, 1) := by decide +kernel
theorem dJ6_bitCount_0f7a4_34 : decode cJ6_bitCount_0f7a4 34 = .ok (.iload_n 0, 1) := by decide +kernel
theorem dJ6_bitCount_0f7a4_35 : decode cJ6_bitCount_0f7a4 35 = .ok (.iload_n 0, 1) := by decide +kernel
theorem dJ6_bitCount_0f7a4_36 : decode cJ6_bitCount_0f7a4 36 = .ok (.bipush 8, 2) := by decide +kernel
theorem dJ6_bitCount_0f7a4_38 : decode cJ6_bitCount_0f7a4 38 = .ok (.iushr, 1) := by decide +kernel
theorem dJ6_bitCount_0f7a4_39 : decode cJ6_bitCount_0f7a4 39 = .ok (.iadd, 1) := by decide +kernel
theorem dJ6_bitCount_0f7a4_40 : decode cJ6_bitCount_0f7a4 40 = .ok (.istore_n 0, 1) := by decide +kernel
theorem dJ6_bitCount_0f7a4_41 : decode cJ6_bitCount_0f7a4 41 = .ok (.iload_n 0, 1) := by decide +kernel
theorem dJ6_bitCount_0f7a4_42 : decode cJ6_bitCount_0f7a4 42 = .ok (.iload_n 0, 1) := by decide +kernel
theorem dJ6_bitCount_0f7a4_43 : decode cJ6_bitCount_0f7a4 43 = .ok (.bipush 16, 2) := by decide +kernel
theorem dJ6_bitCount_0f7a4_45 : decode cJ6_bitCount_0f7a4 45 = .ok (.iushr, 1) := by decide +kernel
theorem dJ6_bitCount_0f7a4_46 : decode cJ6_bitCount_0f7a4 46 = .ok (.iadd, 1) := by decide +kernel
theorem dJ6_bitCount_0f7a4_47 : decode cJ6_bitCount_0f7a4 47 = .ok (.istore_n 0, 1) := by decide +kernel
theorem dJ6_bitCount_0f7a4_48 : decode cJ6_bitCount_0f7a4 48 = .ok (.iload_n 0, 1) := by decide +kernel
theorem dJ6_bitCount_0f7a4_49 : decode cJ6_bitCount_0f7a4 49 = .ok (.bipush 63, 2) := by decide +kernel
theorem dJ6_bitCount_0f7a4_51 : decode cJ6_bitCount_0f7a4 51 = .ok (.iand, 1) := by decide +kernel
theorem dJ6_bitCount_0f7a4_52 : decode cJ6_bitCount_0f7a4 52 = .ok (.ireturn, 1) := by decide +kernel
