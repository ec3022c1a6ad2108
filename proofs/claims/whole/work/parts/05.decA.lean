theorem dX0_init_0 : decode cX0_init 0 = .ok (.aload_n 0, 1) := by decide +kernel
theorem dX0_init_1 : decode cX0_init 1 = .ok (.invokespecial 3, 3) := by decide +kernel
theorem dX0_init_4 : decode cX0_init 4 = .ok (.aload_n 0, 1) := by decide +kernel
theorem dX0_init_5 : decode cX0_init 5 = .ok (.bipush 8, 2) := by decide +kernel
theorem dX0_init_7 : decode cX0_init 7 = .ok (.anewarray 9, 3) := by decide +kernel
theorem dX0_init_10 : decode cX0_init 10 = .ok (.putfield 11, 3) := by decide +kernel
theorem dX0_init_13 : decode cX0_init 13 = .ok (.aload_n 0, 1) := by decide +kernel
theorem dX0_init_14 : decode cX0_init 14 = .ok (.iconst 0, 1) := by decide +kernel
theorem dX0_init_15 : decode cX0_init 15 = .ok (.putfield 17, 3) := by decide +kernel
theorem dX0_init_18 : decode cX0_init 18 = .ok (.aload_n 0, 1) := by decide +kernel
theorem dX0_init_19 : decode cX0_init 19 = .ok (.iconst 0, 1) := by decide +kernel
theorem dX0_init_20 : decode cX0_init 20 = .ok (.putfield 21, 3) := by decide +kernel
theorem dX0_init_23 : decode cX0_init 23 = .ok (.iconst 0, 1) := by decide +kernel
theorem dX0_init_24 : decode cX0_init 24 = .ok (.istore_n 1, 1) := by decide +kernel
theorem dX0_init_25 : decode cX0_init 25 = .ok (.iload_n 1, 1) := by decide +kernel
theorem dX0_init_26 : decode cX0_init 26 = .ok (.aload_n 0, 1) := by decide +kernel
theorem dX0_init_27 : decode cX0_init 27 = .ok (.getfield 11, 3) := by decide +kernel
theorem dX0_init_30 : decode cX0_init 30 = .ok (.arraylength, 1) := by decide +kernel
theorem dX0_init_31 : decode cX0_init 31 = .ok (.if_icmp .ge 22, 3) := by decide +kernel
theorem dX0_init_34 : decode cX0_init 34 = .ok (.aload_n 0, 1) := by decide +kernel
theorem dX0_init_35 : decode cX0_init 35 = .ok (.getfield 11, 3) := by decide +kernel
theorem dX0_init_38 : decode cX0_init 38 = .ok (.iload_n 1, 1) := by decide +kernel
theorem dX0_init_39 : decode cX0_init 39 = .ok (.new 9, 3) := by decide +kernel
theorem dX0_init_42 : decode cX0_init 42 = .ok (.dup, 1) := by decide +kernel
theorem dX0_init_43 : decode cX0_init 43 = .ok (.invokespecial 24, 3) := by decide +kernel
theorem dX0_init_46 : decode cX0_init 46 = .ok (.aastore, 1) := by decide +kernel
theorem dX0_init_47 : decode cX0_init 47 = .ok (.iinc 1 1, 3) := by decide +kernel
theorem dX0_init_50 : decode cX0_init 50 = .ok (.goto (-25), 3) := by decide +kernel
theorem dX0_init_53 : decode cX0_init 53 = .ok (.return_, 1) := by decide +kernel
theorem dX0_forget_0 : decode cX0_forget 0 = .ok (.aload_n 0, 1) := by decide +kernel
theorem dX0_forget_1 : decode cX0_forget 1 = .ok (.iconst 0, 1) := by decide +kernel
theorem dX0_forget_2 : decode cX0_forget 2 = .ok (.putfield 21, 3) := by decide +kernel
theorem dX0_forget_5 : decode cX0_forget 5 = .ok (.return_, 1) := by decide +kernel
theorem dX0_remember_0 : decode cX0_remember 0 = .ok (.aload_n 0, 1) := by decide +kernel
theorem dX0_remember_1 : decode cX0_remember 1 = .ok (.aload_n 0, 1) := by decide +kernel
theorem dX0_remember_2 : decode cX0_remember 2 = .ok (.getfield 17, 3) := by decide +kernel
theorem dX0_remember_5 : decode cX0_remember 5 = .ok (.iconst 1, 1) := by decide +kernel
theorem dX0_remember_6 : decode cX0_remember 6 = .ok (.iadd, 1) := by decide +kernel
theorem dX0_remember_7 : decode cX0_remember 7 = .ok (.bipush 8, 2) := by decide +kernel
theorem dX0_remember_9 : decode cX0_remember 9 = .ok (.if_icmp .ge 12, 3) := by decide +kernel
theorem dX0_remember_12 : decode cX0_remember 12 = .ok (.aload_n 0, 1) := by decide +kernel
theorem dX0_remember_13 : decode cX0_remember 13 = .ok (.getfield 17, 3) := by decide +kernel
theorem dX0_remember_16 : decode cX0_remember 16 = .ok (.iconst 1, 1) := by decide +kernel
theorem dX0_remember_17 : decode cX0_remember 17 = .ok (.iadd, 1) := by decide +kernel
theorem dX0_remember_18 : decode cX0_remember 18 = .ok (.goto 4, 3) := by decide +kernel
theorem dX0_remember_21 : decode cX0_remember 21 = .ok (.iconst 0, 1) := by decide +kernel
theorem dX0_remember_22 : decode cX0_remember 22 = .ok (.putfield 17, 3) := by decide +kernel
theorem dX0_remember_25 : decode cX0_remember 25 = .ok (.aload_n 0, 1) := by decide +kernel
theorem dX0_remember_26 : decode cX0_remember 26 = .ok (.invokevirtual 25, 3) := by decide +kernel
theorem dX0_remember_29 : decode cX0_remember 29 = .ok (.astore_n 2, 1) := by decide +kernel
theorem dX0_remember_30 : decode cX0_remember 30 = .ok (.aload_n 2, 1) := by decide +kernel
theorem dX0_remember_31 : decode cX0_remember 31 = .ok (.ifnull 8, 3) := by decide +kernel
theorem dX0_remember_34 : decode cX0_remember 34 = .ok (.aload_n 2, 1) := by decide +kernel
theorem dX0_remember_35 : decode cX0_remember 35 = .ok (.aload_n 1, 1) := by decide +kernel
theorem dX0_remember_36 : decode cX0_remember 36 = .ok (.invokevirtual 29, 3) := by decide +kernel
theorem dX0_remember_39 : decode cX0_remember 39 = .ok (.aload_n 0, 1) := by decide +kernel
theorem dX0_remember_40 : decode cX0_remember 40 = .ok (.aload_n 0, 1) := by decide +kernel
theorem dX0_remember_41 : decode cX0_remember 41 = .ok (.getfield 21, 3) := by decide +kernel
theorem dX0_remember_44 : decode cX0_remember 44 = .ok (.iconst 1, 1) := by decide +kernel
theorem dX0_remember_45 : decode cX0_remember 45 = .ok (.iadd, 1) := by decide +kernel
theorem dX0_remember_46 : decode cX0_remember 46 = .ok (.bipush 8, 2) := by decide +kernel
theorem dX0_remember_48 : decode cX0_remember 48 = .ok (.invokestatic 33, 3) := by decide +kernel
theorem dX0_remember_51 : decode cX0_remember 51 = .ok (.putfield 21, 3) := by decide +kernel
theorem dX0_remember_54 : decode cX0_remember 54 = .ok (.return_, 1) := by decide +kernel
theorem dX0_goBack_0 : decode cX0_goBack 0 = .ok (.aload_n 0, 1) := by decide +kernel
theorem dX0_goBack_1 : decode cX0_goBack 1 = .ok (.invokevirtual 25, 3) := by decide +kernel
theorem dX0_goBack_4 : decode cX0_goBack 4 = .ok (.astore_n 2, 1) := by decide +kernel
theorem dX0_goBack_5 : decode cX0_goBack 5 = .ok (.aload_n 2, 1) := by decide +kernel
theorem dX0_goBack_6 : decode cX0_goBack 6 = .ok (.ifnull 8, 3) := by decide +kernel
theorem dX0_goBack_9 : decode cX0_goBack 9 = .ok (.aload_n 1, 1) := by decide +kernel
theorem dX0_goBack_10 : decode cX0_goBack 10 = .ok (.aload_n 2, 1) := by decide +kernel
theorem dX0_goBack_11 : decode cX0_goBack 11 = .ok (.invokevirtual 29, 3) := by decide +kernel
theorem dX0_goBack_14 : decode cX0_goBack 14 = .ok (.aload_n 0, 1) := by decide +kernel
theorem dX0_goBack_15 : decode cX0_goBack 15 = .ok (.aload_n 0, 1) := by decide +kernel
theorem dX0_goBack_16 : decode cX0_goBack 16 = .ok (.getfield 17, 3) := by decide +kernel
theorem dX0_goBack_19 : decode cX0_goBack 19 = .ok (.ifCond .le 12, 3) := by decide +kernel
theorem dX0_goBack_22 : decode cX0_goBack 22 = .ok (.aload_n 0, 1) := by decide +kernel
theorem dX0_goBack_23 : decode cX0_goBack 23 = .ok (.getfield 17, 3) := by decide +kernel
theorem dX0_goBack_26 : decode cX0_goBack 26 = .ok (.iconst 1, 1) := by decide +kernel
theorem dX0_goBack_27 : decode cX0_goBack 27 = .ok (.isub, 1) := by decide +kernel
theorem dX0_goBack_28 : decode cX0_goBack 28 = .ok (.goto 5, 3) := by decide +kernel
theorem dX0_goBack_31 : decode cX0_goBack 31 = .ok (.bipush 7, 2) := by decide +kernel
theorem dX0_goBack_33 : decode cX0_goBack 33 = .ok (.putfield 17, 3) := by decide +kernel
theorem dX0_goBack_36 : decode cX0_goBack 36 = .ok (.aload_n 0, 1) := by decide +kernel
theorem dX0_goBack_37 : decode cX0_goBack 37 = .ok (.dup, 1) := by decide +kernel
theorem dX0_goBack_38 : decode cX0_goBack 38 = .ok (.getfield 21, 3) := by decide +kernel
theorem dX0_goBack_41 : decode cX0_goBack 41 = .ok (.iconst 1, 1) := by decide +kernel
theorem dX0_goBack_42 : decode cX0_goBack 42 = .ok (.isub, 1) := by decide +kernel
theorem dX0_goBack_43 : decode cX0_goBack 43 = .ok (.putfield 21, 3) := by decide +kernel
theorem dX0_goBack_46 : decode cX0_goBack 46 = .ok (.return_, 1) := by decide +kernel
theorem dX0_newestPast_0 : decode cX0_newestPast 0 = .ok (.aload_n 0, 1) := by decide +kernel
theorem dX0_newestPast_1 : decode cX0_newestPast 1 = .ok (.getfield 17, 3) := by decide +kernel
theorem dX0_newestPast_4 : decode cX0_newestPast 4 = .ok (.ifCond .lt 27, 3) := by decide +kernel
theorem dX0_newestPast_7 : decode cX0_newestPast 7 = .ok (.aload_n 0, 1) := by decide +kernel
theorem dX0_newestPast_8 : decode cX0_newestPast 8 = .ok (.getfield 17, 3) := by decide +kernel
theorem dX0_newestPast_11 : decode cX0_newestPast 11 = .ok (.aload_n 0, 1) := by decide +kernel
theorem dX0_newestPast_12 : decode cX0_newestPast 12 = .ok (.getfield 11, 3) := by decide +kernel
theorem dX0_newestPast_15 : decode cX0_newestPast 15 = .ok (.arraylength, 1) := by decide +kernel
theorem dX0_newestPast_16 : decode cX0_newestPast 16 = .ok (.if_icmp .ge 15, 3) := by decide +kernel
theorem dX0_newestPast_19 : decode cX0_newestPast 19 = .ok (.aload_n 0, 1) := by decide +kernel
theorem dX0_newestPast_20 : decode cX0_newestPast 20 = .ok (.getfield 11, 3) := by decide +kernel
theorem dX0_newestPast_23 : decode cX0_newestPast 23 = .ok (.aload_n 0, 1) := by decide +kernel
theorem dX0_newestPast_24 : decode cX0_newestPast 24 = .ok (.getfield 17, 3) := by decide +kernel
theorem dX0_newestPast_27 : decode cX0_newestPast 27 = .ok (.aaload, 1) := by decide +kernel
theorem dX0_newestPast_28 : decode cX0_newestPast 28 = .ok (.goto 4, 3) := by decide +kernel
theorem dX0_newestPast_31 : decode cX0_newestPast 31 = .ok (.aconst_null, 1) := by decide +kernel
theorem dX0_newestPast_32 : decode cX0_newestPast 32 = .ok (.areturn, 1) := by decide +kernel
theorem dX1_init_0 : decode cX1_init 0 = .ok (.aload_n 0, 1) := by decide +kernel
theorem dX1_init_1 : decode cX1_init 1 = .ok (.invokespecial 3, 3) := by decide +kernel
theorem dX1_init_4 : decode cX1_init 4 = .ok (.aload_n 0, 1) := by decide +kernel
theorem dX1_init_5 : decode cX1_init 5 = .ok (.bipush 70, 2) := by decide +kernel
theorem dX1_init_7 : decode cX1_init 7 = .ok (.newarray .char, 2) := by decide +kernel
theorem dX1_init_9 : decode cX1_init 9 = .ok (.putfield 9, 3) := by decide +kernel
theorem dX1_init_12 : decode cX1_init 12 = .ok (.aload_n 0, 1) := by decide +kernel
theorem dX1_init_13 : decode cX1_init 13 = .ok (.iconst 0, 1) := by decide +kernel
theorem dX1_init_14 : decode cX1_init 14 = .ok (.putfield 15, 3) := by decide +kernel
theorem dX1_init_17 : decode cX1_init 17 = .ok (.aload_n 0, 1) := by decide +kernel
theorem dX1_init_18 : decode cX1_init 18 = .ok (.iconst 0, 1) := by decide +kernel
theorem dX1_init_19 : decode cX1_init 19 = .ok (.putfield 19, 3) := by decide +kernel
theorem dX1_init_22 : decode cX1_init 22 = .ok (.aload_n 0, 1) := by decide +kernel
theorem dX1_init_23 : decode cX1_init 23 = .ok (.bipush 32, 2) := by decide +kernel
theorem dX1_init_25 : decode cX1_init 25 = .ok (.putfield 22, 3) := by decide +kernel
theorem dX1_init_28 : decode cX1_init 28 = .ok (.aload_n 0, 1) := by decide +kernel
theorem dX1_init_29 : decode cX1_init 29 = .ok (.iconst 0, 1) := by decide +kernel
theorem dX1_init_30 : decode cX1_init 30 = .ok (.putfield 26, 3) := by decide +kernel
theorem dX1_init_33 : decode cX1_init 33 = .ok (.aload_n 0, 1) := by decide +kernel
theorem dX1_init_34 : decode cX1_init 34 = .ok (.iconst 0, 1) := by decide +kernel
theorem dX1_init_35 : decode cX1_init 35 = .ok (.putfield 29, 3) := by decide +kernel
theorem dX1_init_38 : decode cX1_init 38 = .ok (.aload_n 0, 1) := by decide +kernel
theorem dX1_init_39 : decode cX1_init 39 = .ok (.iconst 0, 1) := by decide +kernel
theorem dX1_init_40 : decode cX1_init 40 = .ok (.putfield 32, 3) := by decide +kernel
theorem dX1_init_43 : decode cX1_init 43 = .ok (.aload_n 0, 1) := by decide +kernel
theorem dX1_init_44 : decode cX1_init 44 = .ok (.iconst 0, 1) := by decide +kernel
theorem dX1_init_45 : decode cX1_init 45 = .ok (.putfield 35, 3) := by decide +kernel
theorem dX1_init_48 : decode cX1_init 48 = .ok (.aload_n 0, 1) := by decide +kernel
theorem dX1_init_49 : decode cX1_init 49 = .ok (.iconst 0, 1) := by decide +kernel
theorem dX1_init_50 : decode cX1_init 50 = .ok (.putfield 38, 3) := by decide +kernel
theorem dX1_init_53 : decode cX1_init 53 = .ok (.aload_n 0, 1) := by decide +kernel
theorem dX1_init_54 : decode cX1_init 54 = .ok (.iconst 0, 1) := by decide +kernel
theorem dX1_init_55 : decode cX1_init 55 = .ok (.putfield 41, 3) := by decide +kernel
theorem dX1_init_58 : decode cX1_init 58 = .ok (.aload_n 0, 1) := by decide +kernel
theorem dX1_init_59 : decode cX1_init 59 = .ok (.iconst 0, 1) := by decide +kernel
theorem dX1_init_60 : decode cX1_init 60 = .ok (.putfield 44, 3) := by decide +kernel
theorem dX1_init_63 : decode cX1_init 63 = .ok (.return_, 1) := by decide +kernel
theorem dX1_add_0 : decode cX1_add 0 = .ok (.aload_n 0, 1) := by decide +kernel
theorem dX1_add_1 : decode cX1_add 1 = .ok (.getfield 15, 3) := by decide +kernel
theorem dX1_add_4 : decode cX1_add 4 = .ok (.ifCond .lt 35, 3) := by decide +kernel
theorem dX1_add_7 : decode cX1_add 7 = .ok (.aload_n 0, 1) := by decide +kernel
theorem dX1_add_8 : decode cX1_add 8 = .ok (.getfield 15, 3) := by decide +kernel
theorem dX1_add_11 : decode cX1_add 11 = .ok (.aload_n 0, 1) := by decide +kernel
theorem dX1_add_12 : decode cX1_add 12 = .ok (.getfield 9, 3) := by decide +kernel
theorem dX1_add_15 : decode cX1_add 15 = .ok (.arraylength, 1) := by decide +kernel
theorem dX1_add_16 : decode cX1_add 16 = .ok (.if_icmp .ge 23, 3) := by decide +kernel
theorem dX1_add_19 : decode cX1_add 19 = .ok (.aload_n 0, 1) := by decide +kernel
theorem dX1_add_20 : decode cX1_add 20 = .ok (.getfield 9, 3) := by decide +kernel
theorem dX1_add_23 : decode cX1_add 23 = .ok (.aload_n 0, 1) := by decide +kernel
theorem dX1_add_24 : decode cX1_add 24 = .ok (.getfield 15, 3) := by decide +kernel
theorem dX1_add_27 : decode cX1_add 27 = .ok (.iload_n 1, 1) := by decide +kernel
theorem dX1_add_28 : decode cX1_add 28 = .ok (.castore, 1) := by decide +kernel
theorem dX1_add_29 : decode cX1_add 29 = .ok (.aload_n 0, 1) := by decide +kernel
theorem dX1_add_30 : decode cX1_add 30 = .ok (.dup, 1) := by decide +kernel
theorem dX1_add_31 : decode cX1_add 31 = .ok (.getfield 15, 3) := by decide +kernel
theorem dX1_add_34 : decode cX1_add 34 = .ok (.iconst 1, 1) := by decide +kernel
theorem dX1_add_35 : decode cX1_add 35 = .ok (.iadd, 1) := by decide +kernel
theorem dX1_add_36 : decode cX1_add 36 = .ok (.putfield 15, 3) := by decide +kernel
theorem dX1_add_39 : decode cX1_add 39 = .ok (.return_, 1) := by decide +kernel
theorem dX1_firstError_0 : decode cX1_firstError 0 = .ok (.aload_n 0, 1) := by decide +kernel
theorem dX1_firstError_1 : decode cX1_firstError 1 = .ok (.iconst 0, 1) := by decide +kernel
theorem dX1_firstError_2 : decode cX1_firstError 2 = .ok (.putfield 19, 3) := by decide +kernel
theorem dX1_firstError_5 : decode cX1_firstError 5 = .ok (.iconst 0, 1) := by decide +kernel
theorem dX1_firstError_6 : decode cX1_firstError 6 = .ok (.istore_n 1, 1) := by decide +kernel
theorem dX1_firstError_7 : decode cX1_firstError 7 = .ok (.iload_n 1, 1) := by decide +kernel
theorem dX1_firstError_8 : decode cX1_firstError 8 = .ok (.bipush 70, 2) := by decide +kernel
theorem dX1_firstError_10 : decode cX1_firstError 10 = .ok (.if_icmp .ge 32, 3) := by decide +kernel
theorem dX1_firstError_13 : decode cX1_firstError 13 = .ok (.aload_n 0, 1) := by decide +kernel
theorem dX1_firstError_14 : decode cX1_firstError 14 = .ok (.getfield 19, 3) := by decide +kernel
theorem dX1_firstError_17 : decode cX1_firstError 17 = .ok (.aload_n 0, 1) := by decide +kernel
theorem dX1_firstError_18 : decode cX1_firstError 18 = .ok (.getfield 15, 3) := by decide +kernel
theorem dX1_firstError_21 : decode cX1_firstError 21 = .ok (.if_icmp .ge 21, 3) := by decide +kernel
theorem dX1_firstError_24 : decode cX1_firstError 24 = .ok (.aload_n 0, 1) := by decide +kernel
theorem dX1_firstError_25 : decode cX1_firstError 25 = .ok (.invokevirtual 47, 3) := by decide +kernel
theorem dX1_firstError_28 : decode cX1_firstError 28 = .ok (.ifCond .ne 8, 3) := by decide +kernel
theorem dX1_firstError_31 : decode cX1_firstError 31 = .ok (.aload_n 0, 1) := by decide +kernel
theorem dX1_firstError_32 : decode cX1_firstError 32 = .ok (.getfield 19, 3) := by decide +kernel
theorem dX1_firstError_35 : decode cX1_firstError 35 = .ok (.ireturn, 1) := by decide +kernel
theorem dX1_firstError_36 : decode cX1_firstError 36 = .ok (.iinc 1 1, 3) := by decide +kernel
theorem dX1_firstError_39 : decode cX1_firstError 39 = .ok (.goto (-32), 3) := by decide +kernel
theorem dX1_firstError_42 : decode cX1_firstError 42 = .ok (.aload_n 0, 1) := by decide +kernel
theorem dX1_firstError_43 : decode cX1_firstError 43 = .ok (.getfield 15, 3) := by decide +kernel
theorem dX1_firstError_46 : decode cX1_firstError 46 = .ok (.ifCond .ne 7, 3) := by decide +kernel
theorem dX1_firstError_49 : decode cX1_firstError 49 = .ok (.iconst 0, 1) := by decide +kernel
theorem dX1_firstError_50 : decode cX1_firstError 50 = .ok (.goto 4, 3) := by decide +kernel
theorem dX1_firstError_53 : decode cX1_firstError 53 = .ok (.iconst (-1), 1) := by decide +kernel
theorem dX1_firstError_54 : decode cX1_firstError 54 = .ok (.ireturn, 1) := by decide +kernel
theorem dX1_tellTo_0 : decode cX1_tellTo 0 = .ok (.iconst 0, 1) := by decide +kernel
theorem dX1_tellTo_1 : decode cX1_tellTo 1 = .ok (.istore_n 2, 1) := by decide +kernel
theorem dX1_tellTo_2 : decode cX1_tellTo 2 = .ok (.aload_n 0, 1) := by decide +kernel
theorem dX1_tellTo_3 : decode cX1_tellTo 3 = .ok (.iconst 0, 1) := by decide +kernel
theorem dX1_tellTo_4 : decode cX1_tellTo 4 = .ok (.putfield 19, 3) := by decide +kernel
theorem dX1_tellTo_7 : decode cX1_tellTo 7 = .ok (.iconst 0, 1) := by decide +kernel
theorem dX1_tellTo_8 : decode cX1_tellTo 8 = .ok (.istore_n 3, 1) := by decide +kernel
theorem dX1_tellTo_9 : decode cX1_tellTo 9 = .ok (.iload_n 3, 1) := by decide +kernel
theorem dX1_tellTo_10 : decode cX1_tellTo 10 = .ok (.bipush 70, 2) := by decide +kernel
theorem dX1_tellTo_12 : decode cX1_tellTo 12 = .ok (.if_icmp .ge 115, 3) := by decide +kernel
theorem dX1_tellTo_15 : decode cX1_tellTo 15 = .ok (.aload_n 0, 1) := by decide +kernel
theorem dX1_tellTo_16 : decode cX1_tellTo 16 = .ok (.getfield 19, 3) := by decide +kernel
theorem dX1_tellTo_19 : decode cX1_tellTo 19 = .ok (.aload_n 0, 1) := by decide +kernel
theorem dX1_tellTo_20 : decode cX1_tellTo 20 = .ok (.getfield 15, 3) := by decide +kernel
theorem dX1_tellTo_23 : decode cX1_tellTo 23 = .ok (.if_icmp .ge 104, 3) := by decide +kernel
theorem dX1_tellTo_26 : decode cX1_tellTo 26 = .ok (.aload_n 0, 1) := by decide +kernel
theorem dX1_tellTo_27 : decode cX1_tellTo 27 = .ok (.invokevirtual 47, 3) := by decide +kernel
theorem dX1_tellTo_30 : decode cX1_tellTo 30 = .ok (.ifCond .eq 11, 3) := by decide +kernel
theorem dX1_tellTo_33 : decode cX1_tellTo 33 = .ok (.aload_n 0, 1) := by decide +kernel
theorem dX1_tellTo_34 : decode cX1_tellTo 34 = .ok (.aload_n 1, 1) := by decide +kernel
theorem dX1_tellTo_35 : decode cX1_tellTo 35 = .ok (.invokevirtual 51, 3) := by decide +kernel
theorem dX1_tellTo_38 : decode cX1_tellTo 38 = .ok (.ifCond .eq 5, 3) := by decide +kernel
theorem dX1_tellTo_41 : decode cX1_tellTo 41 = .ok (.iconst (-1), 1) := by decide +kernel
theorem dX1_tellTo_42 : decode cX1_tellTo 42 = .ok (.ireturn, 1) := by decide +kernel
theorem dX1_tellTo_43 : decode cX1_tellTo 43 = .ok (.aload_n 0, 1) := by decide +kernel
theorem dX1_tellTo_44 : decode cX1_tellTo 44 = .ok (.getfield 22, 3) := by decide +kernel
theorem dX1_tellTo_47 : decode cX1_tellTo 47 = .ok (.bipush 116, 2) := by decide +kernel
theorem dX1_tellTo_49 : decode cX1_tellTo 49 = .ok (.if_icmp .ne 19, 3) := by decide +kernel
theorem dX1_tellTo_52 : decode cX1_tellTo 52 = .ok (.aload_n 1, 1) := by decide +kernel
theorem dX1_tellTo_53 : decode cX1_tellTo 53 = .ok (.aload_n 0, 1) := by decide +kernel
theorem dX1_tellTo_54 : decode cX1_tellTo 54 = .ok (.getfield 26, 3) := by decide +kernel
theorem dX1_tellTo_57 : decode cX1_tellTo 57 = .ok (.aload_n 0, 1) := by decide +kernel
theorem dX1_tellTo_58 : decode cX1_tellTo 58 = .ok (.getfield 29, 3) := by decide +kernel
theorem dX1_tellTo_61 : decode cX1_tellTo 61 = .ok (.invokevirtual 55, 3) := by decide +kernel
theorem dX1_tellTo_64 : decode cX1_tellTo 64 = .ok (.pop, 1) := by decide +kernel
theorem dX1_tellTo_65 : decode cX1_tellTo 65 = .ok (.goto 53, 3) := by decide +kernel
theorem dX1_tellTo_68 : decode cX1_tellTo 68 = .ok (.aload_n 0, 1) := by decide +kernel
theorem dX1_tellTo_69 : decode cX1_tellTo 69 = .ok (.getfield 22, 3) := by decide +kernel
theorem dX1_tellTo_72 : decode cX1_tellTo 72 = .ok (.bipush 108, 2) := by decide +kernel
theorem dX1_tellTo_74 : decode cX1_tellTo 74 = .ok (.if_icmp .ne 31, 3) := by decide +kernel
theorem dX1_tellTo_77 : decode cX1_tellTo 77 = .ok (.aload_n 1, 1) := by decide +kernel
theorem dX1_tellTo_78 : decode cX1_tellTo 78 = .ok (.aload_n 0, 1) := by decide +kernel
theorem dX1_tellTo_79 : decode cX1_tellTo 79 = .ok (.getfield 32, 3) := by decide +kernel
theorem dX1_tellTo_82 : decode cX1_tellTo 82 = .ok (.aload_n 0, 1) := by decide +kernel
theorem dX1_tellTo_83 : decode cX1_tellTo 83 = .ok (.getfield 35, 3) := by decide +kernel
theorem dX1_tellTo_86 : decode cX1_tellTo 86 = .ok (.aload_n 0, 1) := by decide +kernel
theorem dX1_tellTo_87 : decode cX1_tellTo 87 = .ok (.getfield 38, 3) := by decide +kernel
theorem dX1_tellTo_90 : decode cX1_tellTo 90 = .ok (.aload_n 0, 1) := by decide +kernel
theorem dX1_tellTo_91 : decode cX1_tellTo 91 = .ok (.getfield 41, 3) := by decide +kernel
theorem dX1_tellTo_94 : decode cX1_tellTo 94 = .ok (.aload_n 0, 1) := by decide +kernel
theorem dX1_tellTo_95 : decode cX1_tellTo 95 = .ok (.getfield 44, 3) := by decide +kernel
theorem dX1_tellTo_98 : decode cX1_tellTo 98 = .ok (.invokevirtual 61, 3) := by decide +kernel
theorem dX1_tellTo_101 : decode cX1_tellTo 101 = .ok (.pop, 1) := by decide +kernel
theorem dX1_tellTo_102 : decode cX1_tellTo 102 = .ok (.goto 16, 3) := by decide +kernel
theorem dX1_tellTo_105 : decode cX1_tellTo 105 = .ok (.aload_n 1, 1) := by decide +kernel
theorem dX1_tellTo_106 : decode cX1_tellTo 106 = .ok (.aload_n 0, 1) := by decide +kernel
theorem dX1_tellTo_107 : decode cX1_tellTo 107 = .ok (.getfield 41, 3) := by decide +kernel
theorem dX1_tellTo_110 : decode cX1_tellTo 110 = .ok (.aload_n 0, 1) := by decide +kernel
theorem dX1_tellTo_111 : decode cX1_tellTo 111 = .ok (.getfield 32, 3) := by decide +kernel
theorem dX1_tellTo_114 : decode cX1_tellTo 114 = .ok (.invokevirtual 65, 3) := by decide +kernel
theorem dX1_tellTo_117 : decode cX1_tellTo 117 = .ok (.pop, 1) := by decide +kernel
theorem dX1_tellTo_118 : decode cX1_tellTo 118 = .ok (.iinc 2 1, 3) := by decide +kernel
theorem dX1_tellTo_121 : decode cX1_tellTo 121 = .ok (.iinc 3 1, 3) := by decide +kernel
theorem dX1_tellTo_124 : decode cX1_tellTo 124 = .ok (.goto (-115), 3) := by decide +kernel
theorem dX1_tellTo_127 : decode cX1_tellTo 127 = .ok (.iload_n 2, 1) := by decide +kernel
theorem dX1_tellTo_128 : decode cX1_tellTo 128 = .ok (.ireturn, 1) := by decide +kernel
theorem dX1_isRefusedBy_0 : decode cX1_isRefusedBy 0 = .ok (.aload_n 0, 1) := by decide +kernel
theorem dX1_isRefusedBy_1 : decode cX1_isRefusedBy 1 = .ok (.getfield 22, 3) := by decide +kernel
theorem dX1_isRefusedBy_4 : decode cX1_isRefusedBy 4 = .ok (.bipush 116, 2) := by decide +kernel
theorem dX1_isRefusedBy_6 : decode cX1_isRefusedBy 6 = .ok (.if_icmp .ne 18, 3) := by decide +kernel
theorem dX1_isRefusedBy_9 : decode cX1_isRefusedBy 9 = .ok (.aload_n 1, 1) := by decide +kernel
theorem dX1_isRefusedBy_10 : decode cX1_isRefusedBy 10 = .ok (.getfield 68, 3) := by decide +kernel
theorem dX1_isRefusedBy_13 : decode cX1_isRefusedBy 13 = .ok (.bipush 8, 2) := by decide +kernel
theorem dX1_isRefusedBy_15 : decode cX1_isRefusedBy 15 = .ok (.if_icmp .lt 7, 3) := by decide +kernel
theorem dX1_isRefusedBy_18 : decode cX1_isRefusedBy 18 = .ok (.iconst 1, 1) := by decide +kernel
theorem dX1_isRefusedBy_19 : decode cX1_isRefusedBy 19 = .ok (.goto 4, 3) := by decide +kernel
theorem dX1_isRefusedBy_22 : decode cX1_isRefusedBy 22 = .ok (.iconst 0, 1) := by decide +kernel
theorem dX1_isRefusedBy_23 : decode cX1_isRefusedBy 23 = .ok (.ireturn, 1) := by decide +kernel
theorem dX1_isRefusedBy_24 : decode cX1_isRefusedBy 24 = .ok (.aload_n 0, 1) := by decide +kernel
theorem dX1_isRefusedBy_25 : decode cX1_isRefusedBy 25 = .ok (.getfield 22, 3) := by decide +kernel
theorem dX1_isRefusedBy_28 : decode cX1_isRefusedBy 28 = .ok (.bipush 108, 2) := by decide +kernel
theorem dX1_isRefusedBy_30 : decode cX1_isRefusedBy 30 = .ok (.if_icmp .ne 36, 3) := by decide +kernel
theorem dX1_isRefusedBy_33 : decode cX1_isRefusedBy 33 = .ok (.aload_n 1, 1) := by decide +kernel
theorem dX1_isRefusedBy_34 : decode cX1_isRefusedBy 34 = .ok (.aload_n 0, 1) := by decide +kernel
theorem dX1_isRefusedBy_35 : decode cX1_isRefusedBy 35 = .ok (.getfield 32, 3) := by decide +kernel
theorem dX1_isRefusedBy_38 : decode cX1_isRefusedBy 38 = .ok (.aload_n 0, 1) := by decide +kernel
theorem dX1_isRefusedBy_39 : decode cX1_isRefusedBy 39 = .ok (.getfield 35, 3) := by decide +kernel
theorem dX1_isRefusedBy_42 : decode cX1_isRefusedBy 42 = .ok (.aload_n 0, 1) := by decide +kernel
theorem dX1_isRefusedBy_43 : decode cX1_isRefusedBy 43 = .ok (.getfield 38, 3) := by decide +kernel
theorem dX1_isRefusedBy_46 : decode cX1_isRefusedBy 46 = .ok (.aload_n 0, 1) := by decide +kernel
theorem dX1_isRefusedBy_47 : decode cX1_isRefusedBy 47 = .ok (.getfield 41, 3) := by decide +kernel
theorem dX1_isRefusedBy_50 : decode cX1_isRefusedBy 50 = .ok (.aload_n 0, 1) := by decide +kernel
theorem dX1_isRefusedBy_51 : decode cX1_isRefusedBy 51 = .ok (.getfield 44, 3) := by decide +kernel
theorem dX1_isRefusedBy_54 : decode cX1_isRefusedBy 54 = .ok (.invokevirtual 71, 3) := by decide +kernel
theorem dX1_isRefusedBy_57 : decode cX1_isRefusedBy 57 = .ok (.ifCond .eq 7, 3) := by decide +kernel
theorem dX1_isRefusedBy_60 : decode cX1_isRefusedBy 60 = .ok (.iconst 1, 1) := by decide +kernel
theorem dX1_isRefusedBy_61 : decode cX1_isRefusedBy 61 = .ok (.goto 4, 3) := by decide +kernel
theorem dX1_isRefusedBy_64 : decode cX1_isRefusedBy 64 = .ok (.iconst 0, 1) := by decide +kernel
theorem dX1_isRefusedBy_65 : decode cX1_isRefusedBy 65 = .ok (.ireturn, 1) := by decide +kernel
theorem dX1_isRefusedBy_66 : decode cX1_isRefusedBy 66 = .ok (.aload_n 0, 1) := by decide +kernel
theorem dX1_isRefusedBy_67 : decode cX1_isRefusedBy 67 = .ok (.getfield 41, 3) := by decide +kernel
theorem dX1_isRefusedBy_70 : decode cX1_isRefusedBy 70 = .ok (.aload_n 1, 1) := by decide +kernel
theorem dX1_isRefusedBy_71 : decode cX1_isRefusedBy 71 = .ok (.getfield 68, 3) := by decide +kernel
theorem dX1_isRefusedBy_74 : decode cX1_isRefusedBy 74 = .ok (.if_icmp .ge 27, 3) := by decide +kernel
theorem dX1_isRefusedBy_77 : decode cX1_isRefusedBy 77 = .ok (.aload_n 0, 1) := by decide +kernel
theorem dX1_isRefusedBy_78 : decode cX1_isRefusedBy 78 = .ok (.getfield 32, 3) := by decide +kernel
theorem dX1_isRefusedBy_81 : decode cX1_isRefusedBy 81 = .ok (.bipush 30, 2) := by decide +kernel
theorem dX1_isRefusedBy_83 : decode cX1_isRefusedBy 83 = .ok (.if_icmp .ge 18, 3) := by decide +kernel
theorem dX1_isRefusedBy_86 : decode cX1_isRefusedBy 86 = .ok (.aload_n 1, 1) := by decide +kernel
theorem dX1_isRefusedBy_87 : decode cX1_isRefusedBy 87 = .ok (.aload_n 0, 1) := by decide +kernel
theorem dX1_isRefusedBy_88 : decode cX1_isRefusedBy 88 = .ok (.getfield 41, 3) := by decide +kernel
theorem dX1_isRefusedBy_91 : decode cX1_isRefusedBy 91 = .ok (.aload_n 0, 1) := by decide +kernel
theorem dX1_isRefusedBy_92 : decode cX1_isRefusedBy 92 = .ok (.getfield 32, 3) := by decide +kernel
theorem dX1_isRefusedBy_95 : decode cX1_isRefusedBy 95 = .ok (.invokevirtual 74, 3) := by decide +kernel
theorem dX1_isRefusedBy_98 : decode cX1_isRefusedBy 98 = .ok (.ifCond .eq 7, 3) := by decide +kernel
theorem dX1_isRefusedBy_101 : decode cX1_isRefusedBy 101 = .ok (.iconst 1, 1) := by decide +kernel
theorem dX1_isRefusedBy_102 : decode cX1_isRefusedBy 102 = .ok (.goto 4, 3) := by decide +kernel
theorem dX1_isRefusedBy_105 : decode cX1_isRefusedBy 105 = .ok (.iconst 0, 1) := by decide +kernel
theorem dX1_isRefusedBy_106 : decode cX1_isRefusedBy 106 = .ok (.ireturn, 1) := by decide +kernel
theorem dX1_takeEntry_0 : decode cX1_takeEntry 0 = .ok (.aload_n 0, 1) := by decide +kernel
theorem dX1_takeEntry_1 : decode cX1_takeEntry 1 = .ok (.aload_n 0, 1) := by decide +kernel
theorem dX1_takeEntry_2 : decode cX1_takeEntry 2 = .ok (.getfield 9, 3) := by decide +kernel
theorem dX1_takeEntry_5 : decode cX1_takeEntry 5 = .ok (.aload_n 0, 1) := by decide +kernel
theorem dX1_takeEntry_6 : decode cX1_takeEntry 6 = .ok (.getfield 19, 3) := by decide +kernel
theorem dX1_takeEntry_9 : decode cX1_takeEntry 9 = .ok (.invokestatic 78, 3) := by decide +kernel
theorem dX1_takeEntry_12 : decode cX1_takeEntry 12 = .ok (.putfield 22, 3) := by decide +kernel
theorem dX1_takeEntry_15 : decode cX1_takeEntry 15 = .ok (.aload_n 0, 1) := by decide +kernel
theorem dX1_takeEntry_16 : decode cX1_takeEntry 16 = .ok (.bipush 116, 2) := by decide +kernel
theorem dX1_takeEntry_18 : decode cX1_takeEntry 18 = .ok (.invokevirtual 82, 3) := by decide +kernel
theorem dX1_takeEntry_21 : decode cX1_takeEntry 21 = .ok (.ifCond .eq 25, 3) := by decide +kernel
theorem dX1_takeEntry_24 : decode cX1_takeEntry 24 = .ok (.aload_n 0, 1) := by decide +kernel
theorem dX1_takeEntry_25 : decode cX1_takeEntry 25 = .ok (.invokevirtual 86, 3) := by decide +kernel
theorem dX1_takeEntry_28 : decode cX1_takeEntry 28 = .ok (.ifCond .eq 16, 3) := by decide +kernel
theorem dX1_takeEntry_31 : decode cX1_takeEntry 31 = .ok (.aload_n 0, 1) := by decide +kernel
theorem dX1_takeEntry_32 : decode cX1_takeEntry 32 = .ok (.bipush 59, 2) := by decide +kernel
theorem dX1_takeEntry_34 : decode cX1_takeEntry 34 = .ok (.invokevirtual 82, 3) := by decide +kernel
theorem dX1_takeEntry_37 : decode cX1_takeEntry 37 = .ok (.ifCond .eq 7, 3) := by decide +kernel
theorem dX1_takeEntry_40 : decode cX1_takeEntry 40 = .ok (.iconst 1, 1) := by decide +kernel
theorem dX1_takeEntry_41 : decode cX1_takeEntry 41 = .ok (.goto 4, 3) := by decide +kernel
theorem dX1_takeEntry_44 : decode cX1_takeEntry 44 = .ok (.iconst 0, 1) := by decide +kernel
theorem dX1_takeEntry_45 : decode cX1_takeEntry 45 = .ok (.ireturn, 1) := by decide +kernel
theorem dX1_takeEntry_46 : decode cX1_takeEntry 46 = .ok (.aload_n 0, 1) := by decide +kernel
theorem dX1_takeEntry_47 : decode cX1_takeEntry 47 = .ok (.bipush 108, 2) := by decide +kernel
theorem dX1_takeEntry_49 : decode cX1_takeEntry 49 = .ok (.invokevirtual 82, 3) := by decide +kernel
theorem dX1_takeEntry_52 : decode cX1_takeEntry 52 = .ok (.ifCond .eq 25, 3) := by decide +kernel
theorem dX1_takeEntry_55 : decode cX1_takeEntry 55 = .ok (.aload_n 0, 1) := by decide +kernel
theorem dX1_takeEntry_56 : decode cX1_takeEntry 56 = .ok (.invokevirtual 89, 3) := by decide +kernel
theorem dX1_takeEntry_59 : decode cX1_takeEntry 59 = .ok (.ifCond .eq 16, 3) := by decide +kernel
theorem dX1_takeEntry_62 : decode cX1_takeEntry 62 = .ok (.aload_n 0, 1) := by decide +kernel
theorem dX1_takeEntry_63 : decode cX1_takeEntry 63 = .ok (.bipush 59, 2) := by decide +kernel
theorem dX1_takeEntry_65 : decode cX1_takeEntry 65 = .ok (.invokevirtual 82, 3) := by decide +kernel
theorem dX1_takeEntry_68 : decode cX1_takeEntry 68 = .ok (.ifCond .eq 7, 3) := by decide +kernel
theorem dX1_takeEntry_71 : decode cX1_takeEntry 71 = .ok (.iconst 1, 1) := by decide +kernel
theorem dX1_takeEntry_72 : decode cX1_takeEntry 72 = .ok (.goto 4, 3) := by decide +kernel
theorem dX1_takeEntry_75 : decode cX1_takeEntry 75 = .ok (.iconst 0, 1) := by decide +kernel
theorem dX1_takeEntry_76 : decode cX1_takeEntry 76 = .ok (.ireturn, 1) := by decide +kernel
theorem dX1_takeEntry_77 : decode cX1_takeEntry 77 = .ok (.aload_n 0, 1) := by decide +kernel
theorem dX1_takeEntry_78 : decode cX1_takeEntry 78 = .ok (.bipush 97, 2) := by decide +kernel
theorem dX1_takeEntry_80 : decode cX1_takeEntry 80 = .ok (.invokevirtual 82, 3) := by decide +kernel
theorem dX1_takeEntry_83 : decode cX1_takeEntry 83 = .ok (.ifCond .eq 23, 3) := by decide +kernel
theorem dX1_takeEntry_86 : decode cX1_takeEntry 86 = .ok (.aload_n 0, 1) := by decide +kernel
theorem dX1_takeEntry_87 : decode cX1_takeEntry 87 = .ok (.invokevirtual 92, 3) := by decide +kernel
theorem dX1_takeEntry_90 : decode cX1_takeEntry 90 = .ok (.ifCond .eq 16, 3) := by decide +kernel
theorem dX1_takeEntry_93 : decode cX1_takeEntry 93 = .ok (.aload_n 0, 1) := by decide +kernel
theorem dX1_takeEntry_94 : decode cX1_takeEntry 94 = .ok (.bipush 59, 2) := by decide +kernel
theorem dX1_takeEntry_96 : decode cX1_takeEntry 96 = .ok (.invokevirtual 82, 3) := by decide +kernel
theorem dX1_takeEntry_99 : decode cX1_takeEntry 99 = .ok (.ifCond .eq 7, 3) := by decide +kernel
theorem dX1_takeEntry_102 : decode cX1_takeEntry 102 = .ok (.iconst 1, 1) := by decide +kernel
theorem dX1_takeEntry_103 : decode cX1_takeEntry 103 = .ok (.goto 4, 3) := by decide +kernel
theorem dX1_takeEntry_106 : decode cX1_takeEntry 106 = .ok (.iconst 0, 1) := by decide +kernel
theorem dX1_takeEntry_107 : decode cX1_takeEntry 107 = .ok (.ireturn, 1) := by decide +kernel
theorem dX1_takeTeacher_0 : decode cX1_takeTeacher 0 = .ok (.aload_n 0, 1) := by decide +kernel
theorem dX1_takeTeacher_1 : decode cX1_takeTeacher 1 = .ok (.iconst 0, 1) := by decide +kernel
theorem dX1_takeTeacher_2 : decode cX1_takeTeacher 2 = .ok (.putfield 26, 3) := by decide +kernel
theorem dX1_takeTeacher_5 : decode cX1_takeTeacher 5 = .ok (.aload_n 0, 1) := by decide +kernel
theorem dX1_takeTeacher_6 : decode cX1_takeTeacher 6 = .ok (.iconst 0, 1) := by decide +kernel
theorem dX1_takeTeacher_7 : decode cX1_takeTeacher 7 = .ok (.iconst 5, 1) := by decide +kernel
theorem dX1_takeTeacher_8 : decode cX1_takeTeacher 8 = .ok (.invokevirtual 95, 3) := by decide +kernel
theorem dX1_takeTeacher_11 : decode cX1_takeTeacher 11 = .ok (.istore_n 1, 1) := by decide +kernel
theorem dX1_takeTeacher_12 : decode cX1_takeTeacher 12 = .ok (.iconst 0, 1) := by decide +kernel
theorem dX1_takeTeacher_13 : decode cX1_takeTeacher 13 = .ok (.istore_n 2, 1) := by decide +kernel
theorem dX1_takeTeacher_14 : decode cX1_takeTeacher 14 = .ok (.iload_n 2, 1) := by decide +kernel
theorem dX1_takeTeacher_15 : decode cX1_takeTeacher 15 = .ok (.bipush 6, 2) := by decide +kernel
theorem dX1_takeTeacher_17 : decode cX1_takeTeacher 17 = .ok (.if_icmp .ge 35, 3) := by decide +kernel
theorem dX1_takeTeacher_20 : decode cX1_takeTeacher 20 = .ok (.iload_n 1, 1) := by decide +kernel
theorem dX1_takeTeacher_21 : decode cX1_takeTeacher 21 = .ok (.iconst (-1), 1) := by decide +kernel
theorem dX1_takeTeacher_22 : decode cX1_takeTeacher 22 = .ok (.if_icmp .eq 30, 3) := by decide +kernel
theorem dX1_takeTeacher_25 : decode cX1_takeTeacher 25 = .ok (.aload_n 0, 1) := by decide +kernel
theorem dX1_takeTeacher_26 : decode cX1_takeTeacher 26 = .ok (.dup, 1) := by decide +kernel
theorem dX1_takeTeacher_27 : decode cX1_takeTeacher 27 = .ok (.getfield 26, 3) := by decide +kernel
theorem dX1_takeTeacher_30 : decode cX1_takeTeacher 30 = .ok (.iconst 1, 1) := by decide +kernel
theorem dX1_takeTeacher_31 : decode cX1_takeTeacher 31 = .ok (.iload_n 1, 1) := by decide +kernel
theorem dX1_takeTeacher_32 : decode cX1_takeTeacher 32 = .ok (.ishl, 1) := by decide +kernel
theorem dX1_takeTeacher_33 : decode cX1_takeTeacher 33 = .ok (.ior, 1) := by decide +kernel
theorem dX1_takeTeacher_34 : decode cX1_takeTeacher 34 = .ok (.putfield 26, 3) := by decide +kernel
theorem dX1_takeTeacher_37 : decode cX1_takeTeacher 37 = .ok (.aload_n 0, 1) := by decide +kernel
theorem dX1_takeTeacher_38 : decode cX1_takeTeacher 38 = .ok (.iload_n 1, 1) := by decide +kernel
theorem dX1_takeTeacher_39 : decode cX1_takeTeacher 39 = .ok (.iconst 1, 1) := by decide +kernel
theorem dX1_takeTeacher_40 : decode cX1_takeTeacher 40 = .ok (.iadd, 1) := by decide +kernel
theorem dX1_takeTeacher_41 : decode cX1_takeTeacher 41 = .ok (.iconst 5, 1) := by decide +kernel
theorem dX1_takeTeacher_42 : decode cX1_takeTeacher 42 = .ok (.invokevirtual 95, 3) := by decide +kernel
theorem dX1_takeTeacher_45 : decode cX1_takeTeacher 45 = .ok (.istore_n 1, 1) := by decide +kernel
theorem dX1_takeTeacher_46 : decode cX1_takeTeacher 46 = .ok (.iinc 2 1, 3) := by decide +kernel
theorem dX1_takeTeacher_49 : decode cX1_takeTeacher 49 = .ok (.goto (-35), 3) := by decide +kernel
theorem dX1_takeTeacher_52 : decode cX1_takeTeacher 52 = .ok (.aload_n 0, 1) := by decide +kernel
theorem dX1_takeTeacher_53 : decode cX1_takeTeacher 53 = .ok (.getfield 26, 3) := by decide +kernel
theorem dX1_takeTeacher_56 : decode cX1_takeTeacher 56 = .ok (.ifCond .eq 12, 3) := by decide +kernel
theorem dX1_takeTeacher_59 : decode cX1_takeTeacher 59 = .ok (.aload_n 0, 1) := by decide +kernel
theorem dX1_takeTeacher_60 : decode cX1_takeTeacher 60 = .ok (.bipush 42, 2) := by decide +kernel
theorem dX1_takeTeacher_62 : decode cX1_takeTeacher 62 = .ok (.invokevirtual 82, 3) := by decide +kernel
theorem dX1_takeTeacher_65 : decode cX1_takeTeacher 65 = .ok (.ifCond .ne 5, 3) := by decide +kernel
theorem dX1_takeTeacher_68 : decode cX1_takeTeacher 68 = .ok (.iconst 0, 1) := by decide +kernel
theorem dX1_takeTeacher_69 : decode cX1_takeTeacher 69 = .ok (.ireturn, 1) := by decide +kernel
theorem dX1_takeTeacher_70 : decode cX1_takeTeacher 70 = .ok (.aload_n 0, 1) := by decide +kernel
theorem dX1_takeTeacher_71 : decode cX1_takeTeacher 71 = .ok (.aload_n 0, 1) := by decide +kernel
theorem dX1_takeTeacher_72 : decode cX1_takeTeacher 72 = .ok (.iconst 1, 1) := by decide +kernel
theorem dX1_takeTeacher_73 : decode cX1_takeTeacher 73 = .ok (.iconst 4, 1) := by decide +kernel
theorem dX1_takeTeacher_74 : decode cX1_takeTeacher 74 = .ok (.invokevirtual 95, 3) := by decide +kernel
theorem dX1_takeTeacher_77 : decode cX1_takeTeacher 77 = .ok (.putfield 29, 3) := by decide +kernel
theorem dX1_takeTeacher_80 : decode cX1_takeTeacher 80 = .ok (.aload_n 0, 1) := by decide +kernel
theorem dX1_takeTeacher_81 : decode cX1_takeTeacher 81 = .ok (.getfield 29, 3) := by decide +kernel
theorem dX1_takeTeacher_84 : decode cX1_takeTeacher 84 = .ok (.iconst (-1), 1) := by decide +kernel
theorem dX1_takeTeacher_85 : decode cX1_takeTeacher 85 = .ok (.if_icmp .eq 7, 3) := by decide +kernel
theorem dX1_takeTeacher_88 : decode cX1_takeTeacher 88 = .ok (.iconst 1, 1) := by decide +kernel
theorem dX1_takeTeacher_89 : decode cX1_takeTeacher 89 = .ok (.goto 4, 3) := by decide +kernel
theorem dX1_takeTeacher_92 : decode cX1_takeTeacher 92 = .ok (.iconst 0, 1) := by decide +kernel
theorem dX1_takeTeacher_93 : decode cX1_takeTeacher 93 = .ok (.ireturn, 1) := by decide +kernel
theorem dX1_takeLesson_0 : decode cX1_takeLesson 0 = .ok (.aload_n 0, 1) := by decide +kernel
theorem dX1_takeLesson_1 : decode cX1_takeLesson 1 = .ok (.aload_n 0, 1) := by decide +kernel
theorem dX1_takeLesson_2 : decode cX1_takeLesson 2 = .ok (.invokevirtual 98, 3) := by decide +kernel
theorem dX1_takeLesson_5 : decode cX1_takeLesson 5 = .ok (.putfield 32, 3) := by decide +kernel
theorem dX1_takeLesson_8 : decode cX1_takeLesson 8 = .ok (.aload_n 0, 1) := by decide +kernel
theorem dX1_takeLesson_9 : decode cX1_takeLesson 9 = .ok (.getfield 32, 3) := by decide +kernel
theorem dX1_takeLesson_12 : decode cX1_takeLesson 12 = .ok (.iconst (-1), 1) := by decide +kernel
theorem dX1_takeLesson_13 : decode cX1_takeLesson 13 = .ok (.if_icmp .eq 12, 3) := by decide +kernel
theorem dX1_takeLesson_16 : decode cX1_takeLesson 16 = .ok (.aload_n 0, 1) := by decide +kernel
theorem dX1_takeLesson_17 : decode cX1_takeLesson 17 = .ok (.bipush 99, 2) := by decide +kernel
theorem dX1_takeLesson_19 : decode cX1_takeLesson 19 = .ok (.invokevirtual 82, 3) := by decide +kernel
theorem dX1_takeLesson_22 : decode cX1_takeLesson 22 = .ok (.ifCond .ne 5, 3) := by decide +kernel
theorem dX1_takeLesson_25 : decode cX1_takeLesson 25 = .ok (.iconst 0, 1) := by decide +kernel
theorem dX1_takeLesson_26 : decode cX1_takeLesson 26 = .ok (.ireturn, 1) := by decide +kernel
theorem dX1_takeLesson_27 : decode cX1_takeLesson 27 = .ok (.aload_n 0, 1) := by decide +kernel
theorem dX1_takeLesson_28 : decode cX1_takeLesson 28 = .ok (.aload_n 0, 1) := by decide +kernel
theorem dX1_takeLesson_29 : decode cX1_takeLesson 29 = .ok (.iconst 0, 1) := by decide +kernel
theorem dX1_takeLesson_30 : decode cX1_takeLesson 30 = .ok (.iconst 5, 1) := by decide +kernel
theorem dX1_takeLesson_31 : decode cX1_takeLesson 31 = .ok (.invokevirtual 95, 3) := by decide +kernel
theorem dX1_takeLesson_34 : decode cX1_takeLesson 34 = .ok (.putfield 35, 3) := by decide +kernel
theorem dX1_takeLesson_37 : decode cX1_takeLesson 37 = .ok (.aload_n 0, 1) := by decide +kernel
theorem dX1_takeLesson_38 : decode cX1_takeLesson 38 = .ok (.getfield 35, 3) := by decide +kernel
theorem dX1_takeLesson_41 : decode cX1_takeLesson 41 = .ok (.iconst (-1), 1) := by decide +kernel
theorem dX1_takeLesson_42 : decode cX1_takeLesson 42 = .ok (.if_icmp .eq 12, 3) := by decide +kernel
theorem dX1_takeLesson_45 : decode cX1_takeLesson 45 = .ok (.aload_n 0, 1) := by decide +kernel
theorem dX1_takeLesson_46 : decode cX1_takeLesson 46 = .ok (.bipush 115, 2) := by decide +kernel
theorem dX1_takeLesson_48 : decode cX1_takeLesson 48 = .ok (.invokevirtual 82, 3) := by decide +kernel
theorem dX1_takeLesson_51 : decode cX1_takeLesson 51 = .ok (.ifCond .ne 5, 3) := by decide +kernel
theorem dX1_takeLesson_54 : decode cX1_takeLesson 54 = .ok (.iconst 0, 1) := by decide +kernel
theorem dX1_takeLesson_55 : decode cX1_takeLesson 55 = .ok (.ireturn, 1) := by decide +kernel
theorem dX1_takeLesson_56 : decode cX1_takeLesson 56 = .ok (.aload_n 0, 1) := by decide +kernel
theorem dX1_takeLesson_57 : decode cX1_takeLesson 57 = .ok (.aload_n 0, 1) := by decide +kernel
theorem dX1_takeLesson_58 : decode cX1_takeLesson 58 = .ok (.iconst 0, 1) := by decide +kernel
theorem dX1_takeLesson_59 : decode cX1_takeLesson 59 = .ok (.iconst 5, 1) := by decide +kernel
theorem dX1_takeLesson_60 : decode cX1_takeLesson 60 = .ok (.invokevirtual 95, 3) := by decide +kernel
theorem dX1_takeLesson_63 : decode cX1_takeLesson 63 = .ok (.putfield 38, 3) := by decide +kernel
theorem dX1_takeLesson_66 : decode cX1_takeLesson 66 = .ok (.aload_n 0, 1) := by decide +kernel
theorem dX1_takeLesson_67 : decode cX1_takeLesson 67 = .ok (.getfield 38, 3) := by decide +kernel
theorem dX1_takeLesson_70 : decode cX1_takeLesson 70 = .ok (.iconst (-1), 1) := by decide +kernel
theorem dX1_takeLesson_71 : decode cX1_takeLesson 71 = .ok (.if_icmp .eq 12, 3) := by decide +kernel
theorem dX1_takeLesson_74 : decode cX1_takeLesson 74 = .ok (.aload_n 0, 1) := by decide +kernel
theorem dX1_takeLesson_75 : decode cX1_takeLesson 75 = .ok (.bipush 112, 2) := by decide +kernel
theorem dX1_takeLesson_77 : decode cX1_takeLesson 77 = .ok (.invokevirtual 82, 3) := by decide +kernel
theorem dX1_takeLesson_80 : decode cX1_takeLesson 80 = .ok (.ifCond .ne 5, 3) := by decide +kernel
theorem dX1_takeLesson_83 : decode cX1_takeLesson 83 = .ok (.iconst 0, 1) := by decide +kernel
theorem dX1_takeLesson_84 : decode cX1_takeLesson 84 = .ok (.ireturn, 1) := by decide +kernel
theorem dX1_takeLesson_85 : decode cX1_takeLesson 85 = .ok (.aload_n 0, 1) := by decide +kernel
theorem dX1_takeLesson_86 : decode cX1_takeLesson 86 = .ok (.aload_n 0, 1) := by decide +kernel
theorem dX1_takeLesson_87 : decode cX1_takeLesson 87 = .ok (.iconst 0, 1) := by decide +kernel
theorem dX1_takeLesson_88 : decode cX1_takeLesson 88 = .ok (.bipush 7, 2) := by decide +kernel
theorem dX1_takeLesson_90 : decode cX1_takeLesson 90 = .ok (.invokevirtual 95, 3) := by decide +kernel
theorem dX1_takeLesson_93 : decode cX1_takeLesson 93 = .ok (.putfield 41, 3) := by decide +kernel
theorem dX1_takeLesson_96 : decode cX1_takeLesson 96 = .ok (.aload_n 0, 1) := by decide +kernel
theorem dX1_takeLesson_97 : decode cX1_takeLesson 97 = .ok (.getfield 41, 3) := by decide +kernel
theorem dX1_takeLesson_100 : decode cX1_takeLesson 100 = .ok (.iconst (-1), 1) := by decide +kernel
theorem dX1_takeLesson_101 : decode cX1_takeLesson 101 = .ok (.if_icmp .eq 12, 3) := by decide +kernel
theorem dX1_takeLesson_104 : decode cX1_takeLesson 104 = .ok (.aload_n 0, 1) := by decide +kernel
theorem dX1_takeLesson_105 : decode cX1_takeLesson 105 = .ok (.bipush 114, 2) := by decide +kernel
theorem dX1_takeLesson_107 : decode cX1_takeLesson 107 = .ok (.invokevirtual 82, 3) := by decide +kernel
theorem dX1_takeLesson_110 : decode cX1_takeLesson 110 = .ok (.ifCond .ne 5, 3) := by decide +kernel
theorem dX1_takeLesson_113 : decode cX1_takeLesson 113 = .ok (.iconst 0, 1) := by decide +kernel
theorem dX1_takeLesson_114 : decode cX1_takeLesson 114 = .ok (.ireturn, 1) := by decide +kernel
theorem dX1_takeLesson_115 : decode cX1_takeLesson 115 = .ok (.aload_n 0, 1) := by decide +kernel
theorem dX1_takeLesson_116 : decode cX1_takeLesson 116 = .ok (.aload_n 0, 1) := by decide +kernel
theorem dX1_takeLesson_117 : decode cX1_takeLesson 117 = .ok (.iconst 0, 1) := by decide +kernel
theorem dX1_takeLesson_118 : decode cX1_takeLesson 118 = .ok (.iconst 5, 1) := by decide +kernel
theorem dX1_takeLesson_119 : decode cX1_takeLesson 119 = .ok (.invokevirtual 95, 3) := by decide +kernel
theorem dX1_takeLesson_122 : decode cX1_takeLesson 122 = .ok (.putfield 44, 3) := by decide +kernel
theorem dX1_takeLesson_125 : decode cX1_takeLesson 125 = .ok (.aload_n 0, 1) := by decide +kernel
theorem dX1_takeLesson_126 : decode cX1_takeLesson 126 = .ok (.getfield 44, 3) := by decide +kernel
theorem dX1_takeLesson_129 : decode cX1_takeLesson 129 = .ok (.iconst (-1), 1) := by decide +kernel
theorem dX1_takeLesson_130 : decode cX1_takeLesson 130 = .ok (.if_icmp .eq 7, 3) := by decide +kernel
theorem dX1_takeLesson_133 : decode cX1_takeLesson 133 = .ok (.iconst 1, 1) := by decide +kernel
theorem dX1_takeLesson_134 : decode cX1_takeLesson 134 = .ok (.goto 4, 3) := by decide +kernel
theorem dX1_takeLesson_137 : decode cX1_takeLesson 137 = .ok (.iconst 0, 1) := by decide +kernel
theorem dX1_takeLesson_138 : decode cX1_takeLesson 138 = .ok (.ireturn, 1) := by decide +kernel
theorem dX1_takeAbsence_0 : decode cX1_takeAbsence 0 = .ok (.aload_n 0, 1) := by decide +kernel
theorem dX1_takeAbsence_1 : decode cX1_takeAbsence 1 = .ok (.aload_n 0, 1) := by decide +kernel
theorem dX1_takeAbsence_2 : decode cX1_takeAbsence 2 = .ok (.iconst 0, 1) := by decide +kernel
theorem dX1_takeAbsence_3 : decode cX1_takeAbsence 3 = .ok (.bipush 7, 2) := by decide +kernel
theorem dX1_takeAbsence_5 : decode cX1_takeAbsence 5 = .ok (.invokevirtual 95, 3) := by decide +kernel
theorem dX1_takeAbsence_8 : decode cX1_takeAbsence 8 = .ok (.putfield 41, 3) := by decide +kernel
theorem dX1_takeAbsence_11 : decode cX1_takeAbsence 11 = .ok (.aload_n 0, 1) := by decide +kernel
theorem dX1_takeAbsence_12 : decode cX1_takeAbsence 12 = .ok (.getfield 41, 3) := by decide +kernel
theorem dX1_takeAbsence_15 : decode cX1_takeAbsence 15 = .ok (.iconst (-1), 1) := by decide +kernel
theorem dX1_takeAbsence_16 : decode cX1_takeAbsence 16 = .ok (.if_icmp .eq 12, 3) := by decide +kernel
theorem dX1_takeAbsence_19 : decode cX1_takeAbsence 19 = .ok (.aload_n 0, 1) := by decide +kernel
theorem dX1_takeAbsence_20 : decode cX1_takeAbsence 20 = .ok (.bipush 64, 2) := by decide +kernel
theorem dX1_takeAbsence_22 : decode cX1_takeAbsence 22 = .ok (.invokevirtual 82, 3) := by decide +kernel
theorem dX1_takeAbsence_25 : decode cX1_takeAbsence 25 = .ok (.ifCond .ne 5, 3) := by decide +kernel
theorem dX1_takeAbsence_28 : decode cX1_takeAbsence 28 = .ok (.iconst 0, 1) := by decide +kernel
theorem dX1_takeAbsence_29 : decode cX1_takeAbsence 29 = .ok (.ireturn, 1) := by decide +kernel
theorem dX1_takeAbsence_30 : decode cX1_takeAbsence 30 = .ok (.aload_n 0, 1) := by decide +kernel
theorem dX1_takeAbsence_31 : decode cX1_takeAbsence 31 = .ok (.aload_n 0, 1) := by decide +kernel
theorem dX1_takeAbsence_32 : decode cX1_takeAbsence 32 = .ok (.invokevirtual 98, 3) := by decide +kernel
theorem dX1_takeAbsence_35 : decode cX1_takeAbsence 35 = .ok (.putfield 32, 3) := by decide +kernel
theorem dX1_takeAbsence_38 : decode cX1_takeAbsence 38 = .ok (.aload_n 0, 1) := by decide +kernel
theorem dX1_takeAbsence_39 : decode cX1_takeAbsence 39 = .ok (.getfield 32, 3) := by decide +kernel
theorem dX1_takeAbsence_42 : decode cX1_takeAbsence 42 = .ok (.iconst (-1), 1) := by decide +kernel
theorem dX1_takeAbsence_43 : decode cX1_takeAbsence 43 = .ok (.if_icmp .eq 7, 3) := by decide +kernel
theorem dX1_takeAbsence_46 : decode cX1_takeAbsence 46 = .ok (.iconst 1, 1) := by decide +kernel
theorem dX1_takeAbsence_47 : decode cX1_takeAbsence 47 = .ok (.goto 4, 3) := by decide +kernel
theorem dX1_takeAbsence_50 : decode cX1_takeAbsence 50 = .ok (.iconst 0, 1) := by decide +kernel
theorem dX1_takeAbsence_51 : decode cX1_takeAbsence 51 = .ok (.ireturn, 1) := by decide +kernel
theorem dX1_takeNumber_0 : decode cX1_takeNumber 0 = .ok (.aload_n 0, 1) := by decide +kernel
theorem dX1_takeNumber_1 : decode cX1_takeNumber 1 = .ok (.iconst 0, 1) := by decide +kernel
theorem dX1_takeNumber_2 : decode cX1_takeNumber 2 = .ok (.bipush 9, 2) := by decide +kernel
theorem dX1_takeNumber_4 : decode cX1_takeNumber 4 = .ok (.invokevirtual 95, 3) := by decide +kernel
theorem dX1_takeNumber_7 : decode cX1_takeNumber 7 = .ok (.istore_n 1, 1) := by decide +kernel
theorem dX1_takeNumber_8 : decode cX1_takeNumber 8 = .ok (.iload_n 1, 1) := by decide +kernel
theorem dX1_takeNumber_9 : decode cX1_takeNumber 9 = .ok (.ifCond .gt 5, 3) := by decide +kernel
theorem dX1_takeNumber_12 : decode cX1_takeNumber 12 = .ok (.iload_n 1, 1) := by decide +kernel
theorem dX1_takeNumber_13 : decode cX1_takeNumber 13 = .ok (.ireturn, 1) := by decide +kernel
theorem dX1_takeNumber_14 : decode cX1_takeNumber 14 = .ok (.aload_n 0, 1) := by decide +kernel
theorem dX1_takeNumber_15 : decode cX1_takeNumber 15 = .ok (.iconst 0, 1) := by decide +kernel
theorem dX1_takeNumber_16 : decode cX1_takeNumber 16 = .ok (.bipush 9, 2) := by decide +kernel
theorem dX1_takeNumber_18 : decode cX1_takeNumber 18 = .ok (.invokevirtual 95, 3) := by decide +kernel
theorem dX1_takeNumber_21 : decode cX1_takeNumber 21 = .ok (.istore_n 2, 1) := by decide +kernel
theorem dX1_takeNumber_22 : decode cX1_takeNumber 22 = .ok (.iload_n 2, 1) := by decide +kernel
theorem dX1_takeNumber_23 : decode cX1_takeNumber 23 = .ok (.iconst (-1), 1) := by decide +kernel
theorem dX1_takeNumber_24 : decode cX1_takeNumber 24 = .ok (.if_icmp .ne 7, 3) := by decide +kernel
theorem dX1_takeNumber_27 : decode cX1_takeNumber 27 = .ok (.iload_n 1, 1) := by decide +kernel
theorem dX1_takeNumber_28 : decode cX1_takeNumber 28 = .ok (.goto 9, 3) := by decide +kernel
theorem dX1_takeNumber_31 : decode cX1_takeNumber 31 = .ok (.bipush 10, 2) := by decide +kernel
theorem dX1_takeNumber_33 : decode cX1_takeNumber 33 = .ok (.iload_n 1, 1) := by decide +kernel
theorem dX1_takeNumber_34 : decode cX1_takeNumber 34 = .ok (.imul, 1) := by decide +kernel
theorem dX1_takeNumber_35 : decode cX1_takeNumber 35 = .ok (.iload_n 2, 1) := by decide +kernel
theorem dX1_takeNumber_36 : decode cX1_takeNumber 36 = .ok (.iadd, 1) := by decide +kernel
theorem dX1_takeNumber_37 : decode cX1_takeNumber 37 = .ok (.ireturn, 1) := by decide +kernel
theorem dX1_takeDigit_0 : decode cX1_takeDigit 0 = .ok (.aload_n 0, 1) := by decide +kernel
theorem dX1_takeDigit_1 : decode cX1_takeDigit 1 = .ok (.getfield 19, 3) := by decide +kernel
theorem dX1_takeDigit_4 : decode cX1_takeDigit 4 = .ok (.aload_n 0, 1) := by decide +kernel
theorem dX1_takeDigit_5 : decode cX1_takeDigit 5 = .ok (.getfield 15, 3) := by decide +kernel
theorem dX1_takeDigit_8 : decode cX1_takeDigit 8 = .ok (.if_icmp .ge 20, 3) := by decide +kernel
theorem dX1_takeDigit_11 : decode cX1_takeDigit 11 = .ok (.aload_n 0, 1) := by decide +kernel
theorem dX1_takeDigit_12 : decode cX1_takeDigit 12 = .ok (.getfield 9, 3) := by decide +kernel
theorem dX1_takeDigit_15 : decode cX1_takeDigit 15 = .ok (.aload_n 0, 1) := by decide +kernel
theorem dX1_takeDigit_16 : decode cX1_takeDigit 16 = .ok (.getfield 19, 3) := by decide +kernel
theorem dX1_takeDigit_19 : decode cX1_takeDigit 19 = .ok (.invokestatic 78, 3) := by decide +kernel
theorem dX1_takeDigit_22 : decode cX1_takeDigit 22 = .ok (.bipush 48, 2) := by decide +kernel
theorem dX1_takeDigit_24 : decode cX1_takeDigit 24 = .ok (.isub, 1) := by decide +kernel
theorem dX1_takeDigit_25 : decode cX1_takeDigit 25 = .ok (.goto 4, 3) := by decide +kernel
theorem dX1_takeDigit_28 : decode cX1_takeDigit 28 = .ok (.iconst (-1), 1) := by decide +kernel
theorem dX1_takeDigit_29 : decode cX1_takeDigit 29 = .ok (.istore_n 3, 1) := by decide +kernel
theorem dX1_takeDigit_30 : decode cX1_takeDigit 30 = .ok (.iload_n 3, 1) := by decide +kernel
theorem dX1_takeDigit_31 : decode cX1_takeDigit 31 = .ok (.iload_n 1, 1) := by decide +kernel
theorem dX1_takeDigit_32 : decode cX1_takeDigit 32 = .ok (.iload_n 2, 1) := by decide +kernel
theorem dX1_takeDigit_33 : decode cX1_takeDigit 33 = .ok (.invokestatic 102, 3) := by decide +kernel
theorem dX1_takeDigit_36 : decode cX1_takeDigit 36 = .ok (.ifCond .ne 5, 3) := by decide +kernel
theorem dX1_takeDigit_39 : decode cX1_takeDigit 39 = .ok (.iconst (-1), 1) := by decide +kernel
theorem dX1_takeDigit_40 : decode cX1_takeDigit 40 = .ok (.ireturn, 1) := by decide +kernel
theorem dX1_takeDigit_41 : decode cX1_takeDigit 41 = .ok (.aload_n 0, 1) := by decide +kernel
theorem dX1_takeDigit_42 : decode cX1_takeDigit 42 = .ok (.dup, 1) := by decide +kernel
theorem dX1_takeDigit_43 : decode cX1_takeDigit 43 = .ok (.getfield 19, 3) := by decide +kernel
theorem dX1_takeDigit_46 : decode cX1_takeDigit 46 = .ok (.iconst 1, 1) := by decide +kernel
theorem dX1_takeDigit_47 : decode cX1_takeDigit 47 = .ok (.iadd, 1) := by decide +kernel
theorem dX1_takeDigit_48 : decode cX1_takeDigit 48 = .ok (.putfield 19, 3) := by decide +kernel
theorem dX1_takeDigit_51 : decode cX1_takeDigit 51 = .ok (.iload_n 3, 1) := by decide +kernel
theorem dX1_takeDigit_52 : decode cX1_takeDigit 52 = .ok (.ireturn, 1) := by decide +kernel
theorem dX1_takeSign_0 : decode cX1_takeSign 0 = .ok (.aload_n 0, 1) := by decide +kernel
theorem dX1_takeSign_1 : decode cX1_takeSign 1 = .ok (.getfield 19, 3) := by decide +kernel
theorem dX1_takeSign_4 : decode cX1_takeSign 4 = .ok (.aload_n 0, 1) := by decide +kernel
theorem dX1_takeSign_5 : decode cX1_takeSign 5 = .ok (.getfield 15, 3) := by decide +kernel
theorem dX1_takeSign_8 : decode cX1_takeSign 8 = .ok (.if_icmp .ge 18, 3) := by decide +kernel
theorem dX1_takeSign_11 : decode cX1_takeSign 11 = .ok (.aload_n 0, 1) := by decide +kernel
theorem dX1_takeSign_12 : decode cX1_takeSign 12 = .ok (.getfield 9, 3) := by decide +kernel
theorem dX1_takeSign_15 : decode cX1_takeSign 15 = .ok (.aload_n 0, 1) := by decide +kernel
theorem dX1_takeSign_16 : decode cX1_takeSign 16 = .ok (.getfield 19, 3) := by decide +kernel
theorem dX1_takeSign_19 : decode cX1_takeSign 19 = .ok (.invokestatic 78, 3) := by decide +kernel
theorem dX1_takeSign_22 : decode cX1_takeSign 22 = .ok (.iload_n 1, 1) := by decide +kernel
theorem dX1_takeSign_23 : decode cX1_takeSign 23 = .ok (.if_icmp .eq 5, 3) := by decide +kernel
theorem dX1_takeSign_26 : decode cX1_takeSign 26 = .ok (.iconst 0, 1) := by decide +kernel
theorem dX1_takeSign_27 : decode cX1_takeSign 27 = .ok (.ireturn, 1) := by decide +kernel
theorem dX1_takeSign_28 : decode cX1_takeSign 28 = .ok (.aload_n 0, 1) := by decide +kernel
theorem dX1_takeSign_29 : decode cX1_takeSign 29 = .ok (.dup, 1) := by decide +kernel
theorem dX1_takeSign_30 : decode cX1_takeSign 30 = .ok (.getfield 19, 3) := by decide +kernel
theorem dX1_takeSign_33 : decode cX1_takeSign 33 = .ok (.iconst 1, 1) := by decide +kernel
theorem dX1_takeSign_34 : decode cX1_takeSign 34 = .ok (.iadd, 1) := by decide +kernel
theorem dX1_takeSign_35 : decode cX1_takeSign 35 = .ok (.putfield 19, 3) := by decide +kernel
theorem dX1_takeSign_38 : decode cX1_takeSign 38 = .ok (.iconst 1, 1) := by decide +kernel
theorem dX1_takeSign_39 : decode cX1_takeSign 39 = .ok (.ireturn, 1) := by decide +kernel
theorem dX2_init_0 : decode cX2_init 0 = .ok (.aload_n 0, 1) := by decide +kernel
theorem dX2_init_1 : decode cX2_init 1 = .ok (.invokespecial 3, 3) := by decide +kernel
theorem dX2_init_4 : decode cX2_init 4 = .ok (.aload_n 0, 1) := by decide +kernel
theorem dX2_init_5 : decode cX2_init 5 = .ok (.bipush 12, 2) := by decide +kernel
theorem dX2_init_7 : decode cX2_init 7 = .ok (.newarray .char, 2) := by decide +kernel
theorem dX2_init_9 : decode cX2_init 9 = .ok (.putfield 9, 3) := by decide +kernel
theorem dX2_init_12 : decode cX2_init 12 = .ok (.aload_n 0, 1) := by decide +kernel
theorem dX2_init_13 : decode cX2_init 13 = .ok (.iconst 0, 1) := by decide +kernel
theorem dX2_init_14 : decode cX2_init 14 = .ok (.putfield 15, 3) := by decide +kernel
theorem dX2_init_17 : decode cX2_init 17 = .ok (.return_, 1) := by decide +kernel
theorem dX2_writeLesson_0 : decode cX2_writeLesson 0 = .ok (.aload_n 1, 1) := by decide +kernel
theorem dX2_writeLesson_1 : decode cX2_writeLesson 1 = .ok (.getfield 19, 3) := by decide +kernel
theorem dX2_writeLesson_4 : decode cX2_writeLesson 4 = .ok (.iload_n 2, 1) := by decide +kernel
theorem dX2_writeLesson_5 : decode cX2_writeLesson 5 = .ok (.invokestatic 25, 3) := by decide +kernel
theorem dX2_writeLesson_8 : decode cX2_writeLesson 8 = .ok (.istore_n 3, 1) := by decide +kernel
theorem dX2_writeLesson_9 : decode cX2_writeLesson 9 = .ok (.aload_n 0, 1) := by decide +kernel
theorem dX2_writeLesson_10 : decode cX2_writeLesson 10 = .ok (.iconst 0, 1) := by decide +kernel
theorem dX2_writeLesson_11 : decode cX2_writeLesson 11 = .ok (.putfield 15, 3) := by decide +kernel
theorem dX2_writeLesson_14 : decode cX2_writeLesson 14 = .ok (.aload_n 0, 1) := by decide +kernel
theorem dX2_writeLesson_15 : decode cX2_writeLesson 15 = .ok (.bipush 108, 2) := by decide +kernel
theorem dX2_writeLesson_17 : decode cX2_writeLesson 17 = .ok (.invokevirtual 29, 3) := by decide +kernel
theorem dX2_writeLesson_20 : decode cX2_writeLesson 20 = .ok (.iload_n 3, 1) := by decide +kernel
theorem dX2_writeLesson_21 : decode cX2_writeLesson 21 = .ok (.bipush 10, 2) := by decide +kernel
theorem dX2_writeLesson_23 : decode cX2_writeLesson 23 = .ok (.if_icmp .lt 11, 3) := by decide +kernel
theorem dX2_writeLesson_26 : decode cX2_writeLesson 26 = .ok (.aload_n 0, 1) := by decide +kernel
theorem dX2_writeLesson_27 : decode cX2_writeLesson 27 = .ok (.iload_n 3, 1) := by decide +kernel
theorem dX2_writeLesson_28 : decode cX2_writeLesson 28 = .ok (.bipush 10, 2) := by decide +kernel
theorem dX2_writeLesson_30 : decode cX2_writeLesson 30 = .ok (.idiv, 1) := by decide +kernel
theorem dX2_writeLesson_31 : decode cX2_writeLesson 31 = .ok (.invokevirtual 33, 3) := by decide +kernel
theorem dX2_writeLesson_34 : decode cX2_writeLesson 34 = .ok (.aload_n 0, 1) := by decide +kernel
theorem dX2_writeLesson_35 : decode cX2_writeLesson 35 = .ok (.iload_n 3, 1) := by decide +kernel
theorem dX2_writeLesson_36 : decode cX2_writeLesson 36 = .ok (.bipush 10, 2) := by decide +kernel
theorem dX2_writeLesson_38 : decode cX2_writeLesson 38 = .ok (.irem, 1) := by decide +kernel
theorem dX2_writeLesson_39 : decode cX2_writeLesson 39 = .ok (.invokevirtual 33, 3) := by decide +kernel
theorem dX2_writeLesson_42 : decode cX2_writeLesson 42 = .ok (.aload_n 0, 1) := by decide +kernel
theorem dX2_writeLesson_43 : decode cX2_writeLesson 43 = .ok (.bipush 99, 2) := by decide +kernel
theorem dX2_writeLesson_45 : decode cX2_writeLesson 45 = .ok (.invokevirtual 29, 3) := by decide +kernel
theorem dX2_writeLesson_48 : decode cX2_writeLesson 48 = .ok (.aload_n 0, 1) := by decide +kernel
theorem dX2_writeLesson_49 : decode cX2_writeLesson 49 = .ok (.aload_n 1, 1) := by decide +kernel
theorem dX2_writeLesson_50 : decode cX2_writeLesson 50 = .ok (.getfield 37, 3) := by decide +kernel
theorem dX2_writeLesson_53 : decode cX2_writeLesson 53 = .ok (.iload_n 2, 1) := by decide +kernel
theorem dX2_writeLesson_54 : decode cX2_writeLesson 54 = .ok (.invokestatic 25, 3) := by decide +kernel
theorem dX2_writeLesson_57 : decode cX2_writeLesson 57 = .ok (.invokevirtual 33, 3) := by decide +kernel
theorem dX2_writeLesson_60 : decode cX2_writeLesson 60 = .ok (.aload_n 0, 1) := by decide +kernel
theorem dX2_writeLesson_61 : decode cX2_writeLesson 61 = .ok (.bipush 115, 2) := by decide +kernel
theorem dX2_writeLesson_63 : decode cX2_writeLesson 63 = .ok (.invokevirtual 29, 3) := by decide +kernel
theorem dX2_writeLesson_66 : decode cX2_writeLesson 66 = .ok (.aload_n 0, 1) := by decide +kernel
theorem dX2_writeLesson_67 : decode cX2_writeLesson 67 = .ok (.aload_n 1, 1) := by decide +kernel
theorem dX2_writeLesson_68 : decode cX2_writeLesson 68 = .ok (.getfield 40, 3) := by decide +kernel
theorem dX2_writeLesson_71 : decode cX2_writeLesson 71 = .ok (.iload_n 2, 1) := by decide +kernel
theorem dX2_writeLesson_72 : decode cX2_writeLesson 72 = .ok (.invokestatic 25, 3) := by decide +kernel
theorem dX2_writeLesson_75 : decode cX2_writeLesson 75 = .ok (.invokevirtual 33, 3) := by decide +kernel
theorem dX2_writeLesson_78 : decode cX2_writeLesson 78 = .ok (.aload_n 0, 1) := by decide +kernel
theorem dX2_writeLesson_79 : decode cX2_writeLesson 79 = .ok (.bipush 112, 2) := by decide +kernel
theorem dX2_writeLesson_81 : decode cX2_writeLesson 81 = .ok (.invokevirtual 29, 3) := by decide +kernel
theorem dX2_writeLesson_84 : decode cX2_writeLesson 84 = .ok (.aload_n 0, 1) := by decide +kernel
theorem dX2_writeLesson_85 : decode cX2_writeLesson 85 = .ok (.aload_n 1, 1) := by decide +kernel
theorem dX2_writeLesson_86 : decode cX2_writeLesson 86 = .ok (.getfield 43, 3) := by decide +kernel
theorem dX2_writeLesson_89 : decode cX2_writeLesson 89 = .ok (.iload_n 2, 1) := by decide +kernel
theorem dX2_writeLesson_90 : decode cX2_writeLesson 90 = .ok (.invokestatic 25, 3) := by decide +kernel
theorem dX2_writeLesson_93 : decode cX2_writeLesson 93 = .ok (.invokevirtual 33, 3) := by decide +kernel
theorem dX2_writeLesson_96 : decode cX2_writeLesson 96 = .ok (.aload_n 0, 1) := by decide +kernel
theorem dX2_writeLesson_97 : decode cX2_writeLesson 97 = .ok (.bipush 114, 2) := by decide +kernel
theorem dX2_writeLesson_99 : decode cX2_writeLesson 99 = .ok (.invokevirtual 29, 3) := by decide +kernel
theorem dX2_writeLesson_102 : decode cX2_writeLesson 102 = .ok (.aload_n 0, 1) := by decide +kernel
theorem dX2_writeLesson_103 : decode cX2_writeLesson 103 = .ok (.aload_n 1, 1) := by decide +kernel
theorem dX2_writeLesson_104 : decode cX2_writeLesson 104 = .ok (.getfield 46, 3) := by decide +kernel
theorem dX2_writeLesson_107 : decode cX2_writeLesson 107 = .ok (.iload_n 2, 1) := by decide +kernel
theorem dX2_writeLesson_108 : decode cX2_writeLesson 108 = .ok (.invokestatic 25, 3) := by decide +kernel
theorem dX2_writeLesson_111 : decode cX2_writeLesson 111 = .ok (.invokevirtual 33, 3) := by decide +kernel
theorem dX2_writeLesson_114 : decode cX2_writeLesson 114 = .ok (.aload_n 0, 1) := by decide +kernel
theorem dX2_writeLesson_115 : decode cX2_writeLesson 115 = .ok (.bipush 59, 2) := by decide +kernel
theorem dX2_writeLesson_117 : decode cX2_writeLesson 117 = .ok (.invokevirtual 29, 3) := by decide +kernel
theorem dX2_writeLesson_120 : decode cX2_writeLesson 120 = .ok (.return_, 1) := by decide +kernel
theorem dX2_addDigit_0 : decode cX2_addDigit 0 = .ok (.aload_n 0, 1) := by decide +kernel
theorem dX2_addDigit_1 : decode cX2_addDigit 1 = .ok (.bipush 48, 2) := by decide +kernel
theorem dX2_addDigit_3 : decode cX2_addDigit 3 = .ok (.iload_n 1, 1) := by decide +kernel
theorem dX2_addDigit_4 : decode cX2_addDigit 4 = .ok (.iadd, 1) := by decide +kernel
theorem dX2_addDigit_5 : decode cX2_addDigit 5 = .ok (.i2c, 1) := by decide +kernel
theorem dX2_addDigit_6 : decode cX2_addDigit 6 = .ok (.invokevirtual 29, 3) := by decide +kernel
theorem dX2_addDigit_9 : decode cX2_addDigit 9 = .ok (.return_, 1) := by decide +kernel
theorem dX2_add_0 : decode cX2_add 0 = .ok (.aload_n 0, 1) := by decide +kernel
theorem dX2_add_1 : decode cX2_add 1 = .ok (.getfield 15, 3) := by decide +kernel
theorem dX2_add_4 : decode cX2_add 4 = .ok (.ifCond .lt 35, 3) := by decide +kernel
theorem dX2_add_7 : decode cX2_add 7 = .ok (.aload_n 0, 1) := by decide +kernel
theorem dX2_add_8 : decode cX2_add 8 = .ok (.getfield 15, 3) := by decide +kernel
theorem dX2_add_11 : decode cX2_add 11 = .ok (.aload_n 0, 1) := by decide +kernel
theorem dX2_add_12 : decode cX2_add 12 = .ok (.getfield 9, 3) := by decide +kernel
theorem dX2_add_15 : decode cX2_add 15 = .ok (.arraylength, 1) := by decide +kernel
theorem dX2_add_16 : decode cX2_add 16 = .ok (.if_icmp .ge 23, 3) := by decide +kernel
theorem dX2_add_19 : decode cX2_add 19 = .ok (.aload_n 0, 1) := by decide +kernel
theorem dX2_add_20 : decode cX2_add 20 = .ok (.getfield 9, 3) := by decide +kernel
theorem dX2_add_23 : decode cX2_add 23 = .ok (.aload_n 0, 1) := by decide +kernel
theorem dX2_add_24 : decode cX2_add 24 = .ok (.getfield 15, 3) := by decide +kernel
theorem dX2_add_27 : decode cX2_add 27 = .ok (.iload_n 1, 1) := by decide +kernel
theorem dX2_add_28 : decode cX2_add 28 = .ok (.castore, 1) := by decide +kernel
theorem dX2_add_29 : decode cX2_add 29 = .ok (.aload_n 0, 1) := by decide +kernel
theorem dX2_add_30 : decode cX2_add 30 = .ok (.dup, 1) := by decide +kernel
theorem dX2_add_31 : decode cX2_add 31 = .ok (.getfield 15, 3) := by decide +kernel
theorem dX2_add_34 : decode cX2_add 34 = .ok (.iconst 1, 1) := by decide +kernel
theorem dX2_add_35 : decode cX2_add 35 = .ok (.iadd, 1) := by decide +kernel
theorem dX2_add_36 : decode cX2_add 36 = .ok (.putfield 15, 3) := by decide +kernel
theorem dX2_add_39 : decode cX2_add 39 = .ok (.return_, 1) := by decide +kernel
theorem dX3_init_0 : decode cX3_init 0 = .ok (.aload_n 0, 1) := by decide +kernel
theorem dX3_init_1 : decode cX3_init 1 = .ok (.invokespecial 3, 3) := by decide +kernel
theorem dX3_init_4 : decode cX3_init 4 = .ok (.aload_n 0, 1) := by decide +kernel
theorem dX3_init_5 : decode cX3_init 5 = .ok (.iconst 4, 1) := by decide +kernel
theorem dX3_init_6 : decode cX3_init 6 = .ok (.newarray .int, 2) := by decide +kernel
theorem dX3_init_8 : decode cX3_init 8 = .ok (.putfield 9, 3) := by decide +kernel
theorem dX3_init_11 : decode cX3_init 11 = .ok (.aload_n 0, 1) := by decide +kernel
theorem dX3_init_12 : decode cX3_init 12 = .ok (.iconst 4, 1) := by decide +kernel
theorem dX3_init_13 : decode cX3_init 13 = .ok (.newarray .int, 2) := by decide +kernel
theorem dX3_init_15 : decode cX3_init 15 = .ok (.putfield 15, 3) := by decide +kernel
theorem dX3_init_18 : decode cX3_init 18 = .ok (.aload_n 0, 1) := by decide +kernel
theorem dX3_init_19 : decode cX3_init 19 = .ok (.iconst 4, 1) := by decide +kernel
theorem dX3_init_20 : decode cX3_init 20 = .ok (.newarray .int, 2) := by decide +kernel
theorem dX3_init_22 : decode cX3_init 22 = .ok (.putfield 18, 3) := by decide +kernel
theorem dX3_init_25 : decode cX3_init 25 = .ok (.aload_n 0, 1) := by decide +kernel
theorem dX3_init_26 : decode cX3_init 26 = .ok (.iconst 4, 1) := by decide +kernel
theorem dX3_init_27 : decode cX3_init 27 = .ok (.newarray .int, 2) := by decide +kernel
theorem dX3_init_29 : decode cX3_init 29 = .ok (.putfield 21, 3) := by decide +kernel
theorem dX3_init_32 : decode cX3_init 32 = .ok (.aload_n 0, 1) := by decide +kernel
theorem dX3_init_33 : decode cX3_init 33 = .ok (.iconst 4, 1) := by decide +kernel
theorem dX3_init_34 : decode cX3_init 34 = .ok (.newarray .int, 2) := by decide +kernel
theorem dX3_init_36 : decode cX3_init 36 = .ok (.putfield 24, 3) := by decide +kernel
theorem dX3_init_39 : decode cX3_init 39 = .ok (.aload_n 0, 1) := by decide +kernel
theorem dX3_init_40 : decode cX3_init 40 = .ok (.bipush 8, 2) := by decide +kernel
theorem dX3_init_42 : decode cX3_init 42 = .ok (.newarray .int, 2) := by decide +kernel
theorem dX3_init_44 : decode cX3_init 44 = .ok (.putfield 27, 3) := by decide +kernel
theorem dX3_init_47 : decode cX3_init 47 = .ok (.aload_n 0, 1) := by decide +kernel
theorem dX3_init_48 : decode cX3_init 48 = .ok (.bipush 8, 2) := by decide +kernel
theorem dX3_init_50 : decode cX3_init 50 = .ok (.newarray .int, 2) := by decide +kernel
theorem dX3_init_52 : decode cX3_init 52 = .ok (.putfield 30, 3) := by decide +kernel
theorem dX3_init_55 : decode cX3_init 55 = .ok (.aload_n 0, 1) := by decide +kernel
theorem dX3_init_56 : decode cX3_init 56 = .ok (.bipush 32, 2) := by decide +kernel
theorem dX3_init_58 : decode cX3_init 58 = .ok (.newarray .int, 2) := by decide +kernel
theorem dX3_init_60 : decode cX3_init 60 = .ok (.putfield 33, 3) := by decide +kernel
theorem dX3_init_63 : decode cX3_init 63 = .ok (.aload_n 0, 1) := by decide +kernel
theorem dX3_init_64 : decode cX3_init 64 = .ok (.iconst 0, 1) := by decide +kernel
theorem dX3_init_65 : decode cX3_init 65 = .ok (.putfield 36, 3) := by decide +kernel
theorem dX3_init_68 : decode cX3_init 68 = .ok (.aload_n 0, 1) := by decide +kernel
theorem dX3_init_69 : decode cX3_init 69 = .ok (.iconst 0, 1) := by decide +kernel
theorem dX3_init_70 : decode cX3_init 70 = .ok (.putfield 40, 3) := by decide +kernel
theorem dX3_init_73 : decode cX3_init 73 = .ok (.aload_n 0, 1) := by decide +kernel
theorem dX3_init_74 : decode cX3_init 74 = .ok (.iconst 0, 1) := by decide +kernel
theorem dX3_init_75 : decode cX3_init 75 = .ok (.putfield 43, 3) := by decide +kernel
theorem dX3_init_78 : decode cX3_init 78 = .ok (.aload_n 0, 1) := by decide +kernel
theorem dX3_init_79 : decode cX3_init 79 = .ok (.iconst 0, 1) := by decide +kernel
theorem dX3_init_80 : decode cX3_init 80 = .ok (.putfield 46, 3) := by decide +kernel
theorem dX3_init_83 : decode cX3_init 83 = .ok (.return_, 1) := by decide +kernel
theorem dX3_findPlans_0 : decode cX3_findPlans 0 = .ok (.aload_n 0, 1) := by decide +kernel
theorem dX3_findPlans_1 : decode cX3_findPlans 1 = .ok (.aload_n 1, 1) := by decide +kernel
theorem dX3_findPlans_2 : decode cX3_findPlans 2 = .ok (.getfield 49, 3) := by decide +kernel
theorem dX3_findPlans_5 : decode cX3_findPlans 5 = .ok (.putfield 36, 3) := by decide +kernel
theorem dX3_findPlans_8 : decode cX3_findPlans 8 = .ok (.aload_n 0, 1) := by decide +kernel
theorem dX3_findPlans_9 : decode cX3_findPlans 9 = .ok (.aload_n 1, 1) := by decide +kernel
theorem dX3_findPlans_10 : decode cX3_findPlans 10 = .ok (.iload_n 2, 1) := by decide +kernel
theorem dX3_findPlans_11 : decode cX3_findPlans 11 = .ok (.invokevirtual 52, 3) := by decide +kernel
theorem dX3_findPlans_14 : decode cX3_findPlans 14 = .ok (.iconst 4, 1) := by decide +kernel
theorem dX3_findPlans_15 : decode cX3_findPlans 15 = .ok (.invokestatic 56, 3) := by decide +kernel
theorem dX3_findPlans_18 : decode cX3_findPlans 18 = .ok (.putfield 40, 3) := by decide +kernel
theorem dX3_findPlans_21 : decode cX3_findPlans 21 = .ok (.aload_n 0, 1) := by decide +kernel
theorem dX3_findPlans_22 : decode cX3_findPlans 22 = .ok (.iconst 0, 1) := by decide +kernel
theorem dX3_findPlans_23 : decode cX3_findPlans 23 = .ok (.putfield 43, 3) := by decide +kernel
theorem dX3_findPlans_26 : decode cX3_findPlans 26 = .ok (.aload_n 0, 1) := by decide +kernel
theorem dX3_findPlans_27 : decode cX3_findPlans 27 = .ok (.iconst 0, 1) := by decide +kernel
theorem dX3_findPlans_28 : decode cX3_findPlans 28 = .ok (.putfield 46, 3) := by decide +kernel
theorem dX3_findPlans_31 : decode cX3_findPlans 31 = .ok (.iconst 0, 1) := by decide +kernel
theorem dX3_findPlans_32 : decode cX3_findPlans 32 = .ok (.istore_n 3, 1) := by decide +kernel
theorem dX3_findPlans_33 : decode cX3_findPlans 33 = .ok (.iload_n 3, 1) := by decide +kernel
theorem dX3_findPlans_34 : decode cX3_findPlans 34 = .ok (.aload_n 0, 1) := by decide +kernel
theorem dX3_findPlans_35 : decode cX3_findPlans 35 = .ok (.getfield 36, 3) := by decide +kernel
theorem dX3_findPlans_38 : decode cX3_findPlans 38 = .ok (.if_icmp .ge 45, 3) := by decide +kernel
theorem dX3_findPlans_41 : decode cX3_findPlans 41 = .ok (.aload_n 0, 1) := by decide +kernel
theorem dX3_findPlans_42 : decode cX3_findPlans 42 = .ok (.getfield 27, 3) := by decide +kernel
theorem dX3_findPlans_45 : decode cX3_findPlans 45 = .ok (.iload_n 3, 1) := by decide +kernel
theorem dX3_findPlans_46 : decode cX3_findPlans 46 = .ok (.aload_n 1, 1) := by decide +kernel
theorem dX3_findPlans_47 : decode cX3_findPlans 47 = .ok (.iload_n 3, 1) := by decide +kernel
theorem dX3_findPlans_48 : decode cX3_findPlans 48 = .ok (.invokevirtual 62, 3) := by decide +kernel
theorem dX3_findPlans_51 : decode cX3_findPlans 51 = .ok (.invokestatic 65, 3) := by decide +kernel
theorem dX3_findPlans_54 : decode cX3_findPlans 54 = .ok (.aload_n 0, 1) := by decide +kernel
theorem dX3_findPlans_55 : decode cX3_findPlans 55 = .ok (.getfield 30, 3) := by decide +kernel
theorem dX3_findPlans_58 : decode cX3_findPlans 58 = .ok (.iload_n 3, 1) := by decide +kernel
theorem dX3_findPlans_59 : decode cX3_findPlans 59 = .ok (.aload_n 1, 1) := by decide +kernel
theorem dX3_findPlans_60 : decode cX3_findPlans 60 = .ok (.getfield 69, 3) := by decide +kernel
theorem dX3_findPlans_63 : decode cX3_findPlans 63 = .ok (.iload_n 3, 1) := by decide +kernel
theorem dX3_findPlans_64 : decode cX3_findPlans 64 = .ok (.invokestatic 72, 3) := by decide +kernel
theorem dX3_findPlans_67 : decode cX3_findPlans 67 = .ok (.aload_n 1, 1) := by decide +kernel
theorem dX3_findPlans_68 : decode cX3_findPlans 68 = .ok (.iload_n 3, 1) := by decide +kernel
theorem dX3_findPlans_69 : decode cX3_findPlans 69 = .ok (.iload_n 2, 1) := by decide +kernel
theorem dX3_findPlans_70 : decode cX3_findPlans 70 = .ok (.invokevirtual 76, 3) := by decide +kernel
theorem dX3_findPlans_73 : decode cX3_findPlans 73 = .ok (.isub, 1) := by decide +kernel
theorem dX3_findPlans_74 : decode cX3_findPlans 74 = .ok (.invokestatic 65, 3) := by decide +kernel
theorem dX3_findPlans_77 : decode cX3_findPlans 77 = .ok (.iinc 3 1, 3) := by decide +kernel
theorem dX3_findPlans_80 : decode cX3_findPlans 80 = .ok (.goto (-47), 3) := by decide +kernel
theorem dX3_findPlans_83 : decode cX3_findPlans 83 = .ok (.iconst 0, 1) := by decide +kernel
theorem dX3_findPlans_84 : decode cX3_findPlans 84 = .ok (.istore_n 3, 1) := by decide +kernel
theorem dX3_findPlans_85 : decode cX3_findPlans 85 = .ok (.iload_n 3, 1) := by decide +kernel
theorem dX3_findPlans_86 : decode cX3_findPlans 86 = .ok (.aload_n 0, 1) := by decide +kernel
theorem dX3_findPlans_87 : decode cX3_findPlans 87 = .ok (.getfield 40, 3) := by decide +kernel
theorem dX3_findPlans_90 : decode cX3_findPlans 90 = .ok (.if_icmp .ge 21, 3) := by decide +kernel
theorem dX3_findPlans_93 : decode cX3_findPlans 93 = .ok (.aload_n 0, 1) := by decide +kernel
theorem dX3_findPlans_94 : decode cX3_findPlans 94 = .ok (.aload_n 1, 1) := by decide +kernel
theorem dX3_findPlans_95 : decode cX3_findPlans 95 = .ok (.iload_n 3, 1) := by decide +kernel
theorem dX3_findPlans_96 : decode cX3_findPlans 96 = .ok (.aload_n 1, 1) := by decide +kernel
theorem dX3_findPlans_97 : decode cX3_findPlans 97 = .ok (.iload_n 2, 1) := by decide +kernel
theorem dX3_findPlans_98 : decode cX3_findPlans 98 = .ok (.iload_n 3, 1) := by decide +kernel
theorem dX3_findPlans_99 : decode cX3_findPlans 99 = .ok (.invokevirtual 79, 3) := by decide +kernel
theorem dX3_findPlans_102 : decode cX3_findPlans 102 = .ok (.invokevirtual 82, 3) := by decide +kernel
theorem dX3_findPlans_105 : decode cX3_findPlans 105 = .ok (.iinc 3 1, 3) := by decide +kernel
theorem dX3_findPlans_108 : decode cX3_findPlans 108 = .ok (.goto (-23), 3) := by decide +kernel
theorem dX3_findPlans_111 : decode cX3_findPlans 111 = .ok (.aload_n 0, 1) := by decide +kernel
theorem dX3_findPlans_112 : decode cX3_findPlans 112 = .ok (.iconst 0, 1) := by decide +kernel
theorem dX3_findPlans_113 : decode cX3_findPlans 113 = .ok (.invokestatic 86, 3) := by decide +kernel
theorem dX3_findPlans_116 : decode cX3_findPlans 116 = .ok (.return_, 1) := by decide +kernel
theorem dX3_takeLesson_0 : decode cX3_takeLesson 0 = .ok (.iconst 0, 1) := by decide +kernel
theorem dX3_takeLesson_1 : decode cX3_takeLesson 1 = .ok (.istore 4, 2) := by decide +kernel
theorem dX3_takeLesson_3 : decode cX3_takeLesson 3 = .ok (.iconst 0, 1) := by decide +kernel
theorem dX3_takeLesson_4 : decode cX3_takeLesson 4 = .ok (.istore 5, 2) := by decide +kernel
theorem dX3_takeLesson_6 : decode cX3_takeLesson 6 = .ok (.iload 5, 2) := by decide +kernel
theorem dX3_takeLesson_8 : decode cX3_takeLesson 8 = .ok (.aload_n 0, 1) := by decide +kernel
theorem dX3_takeLesson_9 : decode cX3_takeLesson 9 = .ok (.getfield 36, 3) := by decide +kernel
theorem dX3_takeLesson_12 : decode cX3_takeLesson 12 = .ok (.if_icmp .ge 59, 3) := by decide +kernel
theorem dX3_takeLesson_15 : decode cX3_takeLesson 15 = .ok (.aload_n 1, 1) := by decide +kernel
theorem dX3_takeLesson_16 : decode cX3_takeLesson 16 = .ok (.iload_n 3, 1) := by decide +kernel
theorem dX3_takeLesson_17 : decode cX3_takeLesson 17 = .ok (.iload 5, 2) := by decide +kernel
theorem dX3_takeLesson_19 : decode cX3_takeLesson 19 = .ok (.invokevirtual 90, 3) := by decide +kernel
theorem dX3_takeLesson_22 : decode cX3_takeLesson 22 = .ok (.ifCond .ne 12, 3) := by decide +kernel
theorem dX3_takeLesson_25 : decode cX3_takeLesson 25 = .ok (.iload 4, 2) := by decide +kernel
theorem dX3_takeLesson_27 : decode cX3_takeLesson 27 = .ok (.iconst 1, 1) := by decide +kernel
theorem dX3_takeLesson_28 : decode cX3_takeLesson 28 = .ok (.iload 5, 2) := by decide +kernel
theorem dX3_takeLesson_30 : decode cX3_takeLesson 30 = .ok (.ishl, 1) := by decide +kernel
theorem dX3_takeLesson_31 : decode cX3_takeLesson 31 = .ok (.ior, 1) := by decide +kernel
theorem dX3_takeLesson_32 : decode cX3_takeLesson 32 = .ok (.istore 4, 2) := by decide +kernel
theorem dX3_takeLesson_34 : decode cX3_takeLesson 34 = .ok (.aload_n 1, 1) := by decide +kernel
theorem dX3_takeLesson_35 : decode cX3_takeLesson 35 = .ok (.iload 5, 2) := by decide +kernel
theorem dX3_takeLesson_37 : decode cX3_takeLesson 37 = .ok (.aload_n 1, 1) := by decide +kernel
theorem dX3_takeLesson_38 : decode cX3_takeLesson 38 = .ok (.iload_n 3, 1) := by decide +kernel
theorem dX3_takeLesson_39 : decode cX3_takeLesson 39 = .ok (.iload 5, 2) := by decide +kernel
theorem dX3_takeLesson_41 : decode cX3_takeLesson 41 = .ok (.invokevirtual 93, 3) := by decide +kernel
theorem dX3_takeLesson_44 : decode cX3_takeLesson 44 = .ok (.invokevirtual 96, 3) := by decide +kernel
theorem dX3_takeLesson_47 : decode cX3_takeLesson 47 = .ok (.istore 6, 2) := by decide +kernel
theorem dX3_takeLesson_49 : decode cX3_takeLesson 49 = .ok (.aload_n 0, 1) := by decide +kernel
theorem dX3_takeLesson_50 : decode cX3_takeLesson 50 = .ok (.getfield 33, 3) := by decide +kernel
theorem dX3_takeLesson_53 : decode cX3_takeLesson 53 = .ok (.iload_n 2, 1) := by decide +kernel
theorem dX3_takeLesson_54 : decode cX3_takeLesson 54 = .ok (.bipush 8, 2) := by decide +kernel
theorem dX3_takeLesson_56 : decode cX3_takeLesson 56 = .ok (.imul, 1) := by decide +kernel
theorem dX3_takeLesson_57 : decode cX3_takeLesson 57 = .ok (.iload 5, 2) := by decide +kernel
theorem dX3_takeLesson_59 : decode cX3_takeLesson 59 = .ok (.iadd, 1) := by decide +kernel
theorem dX3_takeLesson_60 : decode cX3_takeLesson 60 = .ok (.iload 6, 2) := by decide +kernel
theorem dX3_takeLesson_62 : decode cX3_takeLesson 62 = .ok (.invokestatic 65, 3) := by decide +kernel
theorem dX3_takeLesson_65 : decode cX3_takeLesson 65 = .ok (.iinc 5 1, 3) := by decide +kernel
theorem dX3_takeLesson_68 : decode cX3_takeLesson 68 = .ok (.goto (-62), 3) := by decide +kernel
theorem dX3_takeLesson_71 : decode cX3_takeLesson 71 = .ok (.aload_n 0, 1) := by decide +kernel
theorem dX3_takeLesson_72 : decode cX3_takeLesson 72 = .ok (.getfield 18, 3) := by decide +kernel
theorem dX3_takeLesson_75 : decode cX3_takeLesson 75 = .ok (.iload_n 2, 1) := by decide +kernel
theorem dX3_takeLesson_76 : decode cX3_takeLesson 76 = .ok (.iload 4, 2) := by decide +kernel
theorem dX3_takeLesson_78 : decode cX3_takeLesson 78 = .ok (.invokestatic 65, 3) := by decide +kernel
theorem dX3_takeLesson_81 : decode cX3_takeLesson 81 = .ok (.aload_n 0, 1) := by decide +kernel
theorem dX3_takeLesson_82 : decode cX3_takeLesson 82 = .ok (.getfield 9, 3) := by decide +kernel
theorem dX3_takeLesson_85 : decode cX3_takeLesson 85 = .ok (.iload_n 2, 1) := by decide +kernel
theorem dX3_takeLesson_86 : decode cX3_takeLesson 86 = .ok (.iload_n 3, 1) := by decide +kernel
theorem dX3_takeLesson_87 : decode cX3_takeLesson 87 = .ok (.invokestatic 65, 3) := by decide +kernel
theorem dX3_takeLesson_90 : decode cX3_takeLesson 90 = .ok (.aload_n 0, 1) := by decide +kernel
theorem dX3_takeLesson_91 : decode cX3_takeLesson 91 = .ok (.getfield 15, 3) := by decide +kernel
theorem dX3_takeLesson_94 : decode cX3_takeLesson 94 = .ok (.iload_n 2, 1) := by decide +kernel
theorem dX3_takeLesson_95 : decode cX3_takeLesson 95 = .ok (.aload_n 1, 1) := by decide +kernel
theorem dX3_takeLesson_96 : decode cX3_takeLesson 96 = .ok (.getfield 99, 3) := by decide +kernel
theorem dX3_takeLesson_99 : decode cX3_takeLesson 99 = .ok (.iload_n 3, 1) := by decide +kernel
theorem dX3_takeLesson_100 : decode cX3_takeLesson 100 = .ok (.invokestatic 72, 3) := by decide +kernel
theorem dX3_takeLesson_103 : decode cX3_takeLesson 103 = .ok (.invokestatic 65, 3) := by decide +kernel
theorem dX3_takeLesson_106 : decode cX3_takeLesson 106 = .ok (.return_, 1) := by decide +kernel
theorem dX3_extend_0 : decode cX3_extend 0 = .ok (.iload_n 1, 1) := by decide +kernel
theorem dX3_extend_1 : decode cX3_extend 1 = .ok (.aload_n 0, 1) := by decide +kernel
theorem dX3_extend_2 : decode cX3_extend 2 = .ok (.getfield 40, 3) := by decide +kernel
theorem dX3_extend_5 : decode cX3_extend 5 = .ok (.if_icmp .ge 8, 3) := by decide +kernel
theorem dX3_extend_8 : decode cX3_extend 8 = .ok (.iload_n 1, 1) := by decide +kernel
theorem dX3_extend_9 : decode cX3_extend 9 = .ok (.iconst 4, 1) := by decide +kernel
theorem dX3_extend_10 : decode cX3_extend 10 = .ok (.if_icmp .lt 8, 3) := by decide +kernel
theorem dX3_extend_13 : decode cX3_extend 13 = .ok (.aload_n 0, 1) := by decide +kernel
theorem dX3_extend_14 : decode cX3_extend 14 = .ok (.invokevirtual 100, 3) := by decide +kernel
theorem dX3_extend_17 : decode cX3_extend 17 = .ok (.return_, 1) := by decide +kernel
theorem dX3_extend_18 : decode cX3_extend 18 = .ok (.iconst 0, 1) := by decide +kernel
theorem dX3_extend_19 : decode cX3_extend 19 = .ok (.istore_n 2, 1) := by decide +kernel
theorem dX3_extend_20 : decode cX3_extend 20 = .ok (.iload_n 2, 1) := by decide +kernel
theorem dX3_extend_21 : decode cX3_extend 21 = .ok (.aload_n 0, 1) := by decide +kernel
theorem dX3_extend_22 : decode cX3_extend 22 = .ok (.getfield 36, 3) := by decide +kernel
theorem dX3_extend_25 : decode cX3_extend 25 = .ok (.if_icmp .ge 39, 3) := by decide +kernel
theorem dX3_extend_28 : decode cX3_extend 28 = .ok (.aload_n 0, 1) := by decide +kernel
theorem dX3_extend_29 : decode cX3_extend 29 = .ok (.iload_n 1, 1) := by decide +kernel
theorem dX3_extend_30 : decode cX3_extend 30 = .ok (.iload_n 2, 1) := by decide +kernel
theorem dX3_extend_31 : decode cX3_extend 31 = .ok (.invokevirtual 103, 3) := by decide +kernel
theorem dX3_extend_34 : decode cX3_extend 34 = .ok (.ifCond .eq 24, 3) := by decide +kernel
theorem dX3_extend_37 : decode cX3_extend 37 = .ok (.aload_n 0, 1) := by decide +kernel
theorem dX3_extend_38 : decode cX3_extend 38 = .ok (.iload_n 1, 1) := by decide +kernel
theorem dX3_extend_39 : decode cX3_extend 39 = .ok (.iload_n 2, 1) := by decide +kernel
theorem dX3_extend_40 : decode cX3_extend 40 = .ok (.iconst 1, 1) := by decide +kernel
theorem dX3_extend_41 : decode cX3_extend 41 = .ok (.invokevirtual 107, 3) := by decide +kernel
theorem dX3_extend_44 : decode cX3_extend 44 = .ok (.aload_n 0, 1) := by decide +kernel
theorem dX3_extend_45 : decode cX3_extend 45 = .ok (.iload_n 1, 1) := by decide +kernel
theorem dX3_extend_46 : decode cX3_extend 46 = .ok (.iconst 1, 1) := by decide +kernel
theorem dX3_extend_47 : decode cX3_extend 47 = .ok (.iadd, 1) := by decide +kernel
theorem dX3_extend_48 : decode cX3_extend 48 = .ok (.invokestatic 86, 3) := by decide +kernel
theorem dX3_extend_51 : decode cX3_extend 51 = .ok (.aload_n 0, 1) := by decide +kernel
theorem dX3_extend_52 : decode cX3_extend 52 = .ok (.iload_n 1, 1) := by decide +kernel
theorem dX3_extend_53 : decode cX3_extend 53 = .ok (.iload_n 2, 1) := by decide +kernel
theorem dX3_extend_54 : decode cX3_extend 54 = .ok (.iconst (-1), 1) := by decide +kernel
theorem dX3_extend_55 : decode cX3_extend 55 = .ok (.invokevirtual 107, 3) := by decide +kernel
theorem dX3_extend_58 : decode cX3_extend 58 = .ok (.iinc 2 1, 3) := by decide +kernel
theorem dX3_extend_61 : decode cX3_extend 61 = .ok (.goto (-41), 3) := by decide +kernel
theorem dX3_extend_64 : decode cX3_extend 64 = .ok (.return_, 1) := by decide +kernel
theorem dX3_canTake_0 : decode cX3_canTake 0 = .ok (.aload_n 0, 1) := by decide +kernel
theorem dX3_canTake_1 : decode cX3_canTake 1 = .ok (.getfield 18, 3) := by decide +kernel
theorem dX3_canTake_4 : decode cX3_canTake 4 = .ok (.iload_n 1, 1) := by decide +kernel
theorem dX3_canTake_5 : decode cX3_canTake 5 = .ok (.invokestatic 72, 3) := by decide +kernel
theorem dX3_canTake_8 : decode cX3_canTake 8 = .ok (.iload_n 2, 1) := by decide +kernel
theorem dX3_canTake_9 : decode cX3_canTake 9 = .ok (.ishr, 1) := by decide +kernel
theorem dX3_canTake_10 : decode cX3_canTake 10 = .ok (.iconst 1, 1) := by decide +kernel
theorem dX3_canTake_11 : decode cX3_canTake 11 = .ok (.iand, 1) := by decide +kernel
theorem dX3_canTake_12 : decode cX3_canTake 12 = .ok (.ifCond .eq 14, 3) := by decide +kernel
theorem dX3_canTake_15 : decode cX3_canTake 15 = .ok (.aload_n 0, 1) := by decide +kernel
theorem dX3_canTake_16 : decode cX3_canTake 16 = .ok (.getfield 30, 3) := by decide +kernel
theorem dX3_canTake_19 : decode cX3_canTake 19 = .ok (.iload_n 2, 1) := by decide +kernel
theorem dX3_canTake_20 : decode cX3_canTake 20 = .ok (.invokestatic 72, 3) := by decide +kernel
theorem dX3_canTake_23 : decode cX3_canTake 23 = .ok (.ifCond .gt 5, 3) := by decide +kernel
theorem dX3_canTake_26 : decode cX3_canTake 26 = .ok (.iconst 0, 1) := by decide +kernel
theorem dX3_canTake_27 : decode cX3_canTake 27 = .ok (.ireturn, 1) := by decide +kernel
theorem dX3_canTake_28 : decode cX3_canTake 28 = .ok (.iconst 0, 1) := by decide +kernel
theorem dX3_canTake_29 : decode cX3_canTake 29 = .ok (.istore_n 3, 1) := by decide +kernel
theorem dX3_canTake_30 : decode cX3_canTake 30 = .ok (.iload_n 3, 1) := by decide +kernel
theorem dX3_canTake_31 : decode cX3_canTake 31 = .ok (.iload_n 1, 1) := by decide +kernel
theorem dX3_canTake_32 : decode cX3_canTake 32 = .ok (.if_icmp .ge 42, 3) := by decide +kernel
theorem dX3_canTake_35 : decode cX3_canTake 35 = .ok (.aload_n 0, 1) := by decide +kernel
theorem dX3_canTake_36 : decode cX3_canTake 36 = .ok (.getfield 21, 3) := by decide +kernel
theorem dX3_canTake_39 : decode cX3_canTake 39 = .ok (.iload_n 3, 1) := by decide +kernel
theorem dX3_canTake_40 : decode cX3_canTake 40 = .ok (.invokestatic 72, 3) := by decide +kernel
theorem dX3_canTake_43 : decode cX3_canTake 43 = .ok (.iload_n 2, 1) := by decide +kernel
theorem dX3_canTake_44 : decode cX3_canTake 44 = .ok (.if_icmp .ne 24, 3) := by decide +kernel
theorem dX3_canTake_47 : decode cX3_canTake 47 = .ok (.aload_n 0, 1) := by decide +kernel
theorem dX3_canTake_48 : decode cX3_canTake 48 = .ok (.getfield 15, 3) := by decide +kernel
theorem dX3_canTake_51 : decode cX3_canTake 51 = .ok (.iload_n 3, 1) := by decide +kernel
theorem dX3_canTake_52 : decode cX3_canTake 52 = .ok (.invokestatic 72, 3) := by decide +kernel
theorem dX3_canTake_55 : decode cX3_canTake 55 = .ok (.aload_n 0, 1) := by decide +kernel
theorem dX3_canTake_56 : decode cX3_canTake 56 = .ok (.getfield 15, 3) := by decide +kernel
theorem dX3_canTake_59 : decode cX3_canTake 59 = .ok (.iload_n 1, 1) := by decide +kernel
theorem dX3_canTake_60 : decode cX3_canTake 60 = .ok (.invokestatic 72, 3) := by decide +kernel
theorem dX3_canTake_63 : decode cX3_canTake 63 = .ok (.if_icmp .ne 5, 3) := by decide +kernel
theorem dX3_canTake_66 : decode cX3_canTake 66 = .ok (.iconst 0, 1) := by decide +kernel
theorem dX3_canTake_67 : decode cX3_canTake 67 = .ok (.ireturn, 1) := by decide +kernel
theorem dX3_canTake_68 : decode cX3_canTake 68 = .ok (.iinc 3 1, 3) := by decide +kernel
theorem dX3_canTake_71 : decode cX3_canTake 71 = .ok (.goto (-41), 3) := by decide +kernel
theorem dX3_canTake_74 : decode cX3_canTake 74 = .ok (.iconst 1, 1) := by decide +kernel
theorem dX3_canTake_75 : decode cX3_canTake 75 = .ok (.ireturn, 1) := by decide +kernel
theorem dX3_give_0 : decode cX3_give 0 = .ok (.aload_n 0, 1) := by decide +kernel
theorem dX3_give_1 : decode cX3_give 1 = .ok (.getfield 21, 3) := by decide +kernel
theorem dX3_give_4 : decode cX3_give 4 = .ok (.iload_n 1, 1) := by decide +kernel
theorem dX3_give_5 : decode cX3_give 5 = .ok (.iload_n 2, 1) := by decide +kernel
theorem dX3_give_6 : decode cX3_give 6 = .ok (.invokestatic 65, 3) := by decide +kernel
theorem dX3_give_9 : decode cX3_give 9 = .ok (.aload_n 0, 1) := by decide +kernel
theorem dX3_give_10 : decode cX3_give 10 = .ok (.getfield 30, 3) := by decide +kernel
theorem dX3_give_13 : decode cX3_give 13 = .ok (.iload_n 2, 1) := by decide +kernel
theorem dX3_give_14 : decode cX3_give 14 = .ok (.aload_n 0, 1) := by decide +kernel
theorem dX3_give_15 : decode cX3_give 15 = .ok (.getfield 30, 3) := by decide +kernel
theorem dX3_give_18 : decode cX3_give 18 = .ok (.iload_n 2, 1) := by decide +kernel
theorem dX3_give_19 : decode cX3_give 19 = .ok (.invokestatic 72, 3) := by decide +kernel
theorem dX3_give_22 : decode cX3_give 22 = .ok (.iload_n 3, 1) := by decide +kernel
theorem dX3_give_23 : decode cX3_give 23 = .ok (.isub, 1) := by decide +kernel
theorem dX3_give_24 : decode cX3_give 24 = .ok (.invokestatic 65, 3) := by decide +kernel
theorem dX3_give_27 : decode cX3_give 27 = .ok (.aload_n 0, 1) := by decide +kernel
theorem dX3_give_28 : decode cX3_give 28 = .ok (.getfield 27, 3) := by decide +kernel
theorem dX3_give_31 : decode cX3_give 31 = .ok (.iload_n 2, 1) := by decide +kernel
theorem dX3_give_32 : decode cX3_give 32 = .ok (.aload_n 0, 1) := by decide +kernel
theorem dX3_give_33 : decode cX3_give 33 = .ok (.getfield 27, 3) := by decide +kernel
theorem dX3_give_36 : decode cX3_give 36 = .ok (.iload_n 2, 1) := by decide +kernel
theorem dX3_give_37 : decode cX3_give 37 = .ok (.invokestatic 72, 3) := by decide +kernel
theorem dX3_give_40 : decode cX3_give 40 = .ok (.iload_n 3, 1) := by decide +kernel
theorem dX3_give_41 : decode cX3_give 41 = .ok (.aload_n 0, 1) := by decide +kernel
theorem dX3_give_42 : decode cX3_give 42 = .ok (.getfield 33, 3) := by decide +kernel
theorem dX3_give_45 : decode cX3_give 45 = .ok (.iload_n 1, 1) := by decide +kernel
theorem dX3_give_46 : decode cX3_give 46 = .ok (.bipush 8, 2) := by decide +kernel
theorem dX3_give_48 : decode cX3_give 48 = .ok (.imul, 1) := by decide +kernel
theorem dX3_give_49 : decode cX3_give 49 = .ok (.iload_n 2, 1) := by decide +kernel
theorem dX3_give_50 : decode cX3_give 50 = .ok (.iadd, 1) := by decide +kernel
theorem dX3_give_51 : decode cX3_give 51 = .ok (.invokestatic 72, 3) := by decide +kernel
theorem dX3_give_54 : decode cX3_give 54 = .ok (.imul, 1) := by decide +kernel
theorem dX3_give_55 : decode cX3_give 55 = .ok (.iadd, 1) := by decide +kernel
theorem dX3_give_56 : decode cX3_give 56 = .ok (.invokestatic 65, 3) := by decide +kernel
theorem dX3_give_59 : decode cX3_give 59 = .ok (.return_, 1) := by decide +kernel
theorem dX3_judge_0 : decode cX3_judge 0 = .ok (.aload_n 0, 1) := by decide +kernel
theorem dX3_judge_1 : decode cX3_judge 1 = .ok (.invokevirtual 111, 3) := by decide +kernel
theorem dX3_judge_4 : decode cX3_judge 4 = .ok (.istore_n 1, 1) := by decide +kernel
theorem dX3_judge_5 : decode cX3_judge 5 = .ok (.aload_n 0, 1) := by decide +kernel
theorem dX3_judge_6 : decode cX3_judge 6 = .ok (.getfield 43, 3) := by decide +kernel
theorem dX3_judge_9 : decode cX3_judge 9 = .ok (.ifCond .eq 11, 3) := by decide +kernel
theorem dX3_judge_12 : decode cX3_judge 12 = .ok (.iload_n 1, 1) := by decide +kernel
theorem dX3_judge_13 : decode cX3_judge 13 = .ok (.aload_n 0, 1) := by decide +kernel
theorem dX3_judge_14 : decode cX3_judge 14 = .ok (.getfield 46, 3) := by decide +kernel
theorem dX3_judge_17 : decode cX3_judge 17 = .ok (.if_icmp .ge 19, 3) := by decide +kernel
theorem dX3_judge_20 : decode cX3_judge 20 = .ok (.aload_n 0, 1) := by decide +kernel
theorem dX3_judge_21 : decode cX3_judge 21 = .ok (.iload_n 1, 1) := by decide +kernel
theorem dX3_judge_22 : decode cX3_judge 22 = .ok (.putfield 46, 3) := by decide +kernel
theorem dX3_judge_25 : decode cX3_judge 25 = .ok (.aload_n 0, 1) := by decide +kernel
theorem dX3_judge_26 : decode cX3_judge 26 = .ok (.getfield 21, 3) := by decide +kernel
theorem dX3_judge_29 : decode cX3_judge 29 = .ok (.aload_n 0, 1) := by decide +kernel
theorem dX3_judge_30 : decode cX3_judge 30 = .ok (.getfield 24, 3) := by decide +kernel
theorem dX3_judge_33 : decode cX3_judge 33 = .ok (.invokestatic 115, 3) := by decide +kernel
theorem dX3_judge_36 : decode cX3_judge 36 = .ok (.aload_n 0, 1) := by decide +kernel
theorem dX3_judge_37 : decode cX3_judge 37 = .ok (.dup, 1) := by decide +kernel
theorem dX3_judge_38 : decode cX3_judge 38 = .ok (.getfield 43, 3) := by decide +kernel
theorem dX3_judge_41 : decode cX3_judge 41 = .ok (.iconst 1, 1) := by decide +kernel
theorem dX3_judge_42 : decode cX3_judge 42 = .ok (.iadd, 1) := by decide +kernel
theorem dX3_judge_43 : decode cX3_judge 43 = .ok (.putfield 43, 3) := by decide +kernel
theorem dX3_judge_46 : decode cX3_judge 46 = .ok (.return_, 1) := by decide +kernel
theorem dX3_spreadNow_0 : decode cX3_spreadNow 0 = .ok (.aload_n 0, 1) := by decide +kernel
theorem dX3_spreadNow_1 : decode cX3_spreadNow 1 = .ok (.getfield 27, 3) := by decide +kernel
theorem dX3_spreadNow_4 : decode cX3_spreadNow 4 = .ok (.iconst 0, 1) := by decide +kernel
theorem dX3_spreadNow_5 : decode cX3_spreadNow 5 = .ok (.invokestatic 72, 3) := by decide +kernel
theorem dX3_spreadNow_8 : decode cX3_spreadNow 8 = .ok (.istore_n 1, 1) := by decide +kernel
theorem dX3_spreadNow_9 : decode cX3_spreadNow 9 = .ok (.iload_n 1, 1) := by decide +kernel
theorem dX3_spreadNow_10 : decode cX3_spreadNow 10 = .ok (.istore_n 2, 1) := by decide +kernel
theorem dX3_spreadNow_11 : decode cX3_spreadNow 11 = .ok (.iconst 1, 1) := by decide +kernel
theorem dX3_spreadNow_12 : decode cX3_spreadNow 12 = .ok (.istore_n 3, 1) := by decide +kernel
theorem dX3_spreadNow_13 : decode cX3_spreadNow 13 = .ok (.iload_n 3, 1) := by decide +kernel
theorem dX3_spreadNow_14 : decode cX3_spreadNow 14 = .ok (.aload_n 0, 1) := by decide +kernel
theorem dX3_spreadNow_15 : decode cX3_spreadNow 15 = .ok (.getfield 36, 3) := by decide +kernel
theorem dX3_spreadNow_18 : decode cX3_spreadNow 18 = .ok (.if_icmp .ge 35, 3) := by decide +kernel
theorem dX3_spreadNow_21 : decode cX3_spreadNow 21 = .ok (.iload_n 1, 1) := by decide +kernel
theorem dX3_spreadNow_22 : decode cX3_spreadNow 22 = .ok (.aload_n 0, 1) := by decide +kernel
theorem dX3_spreadNow_23 : decode cX3_spreadNow 23 = .ok (.getfield 27, 3) := by decide +kernel
theorem dX3_spreadNow_26 : decode cX3_spreadNow 26 = .ok (.iload_n 3, 1) := by decide +kernel
theorem dX3_spreadNow_27 : decode cX3_spreadNow 27 = .ok (.invokestatic 72, 3) := by decide +kernel
theorem dX3_spreadNow_30 : decode cX3_spreadNow 30 = .ok (.invokestatic 56, 3) := by decide +kernel
theorem dX3_spreadNow_33 : decode cX3_spreadNow 33 = .ok (.istore_n 1, 1) := by decide +kernel
theorem dX3_spreadNow_34 : decode cX3_spreadNow 34 = .ok (.iload_n 2, 1) := by decide +kernel
theorem dX3_spreadNow_35 : decode cX3_spreadNow 35 = .ok (.aload_n 0, 1) := by decide +kernel
theorem dX3_spreadNow_36 : decode cX3_spreadNow 36 = .ok (.getfield 27, 3) := by decide +kernel
theorem dX3_spreadNow_39 : decode cX3_spreadNow 39 = .ok (.iload_n 3, 1) := by decide +kernel
theorem dX3_spreadNow_40 : decode cX3_spreadNow 40 = .ok (.invokestatic 72, 3) := by decide +kernel
theorem dX3_spreadNow_43 : decode cX3_spreadNow 43 = .ok (.invokestatic 119, 3) := by decide +kernel
theorem dX3_spreadNow_46 : decode cX3_spreadNow 46 = .ok (.istore_n 2, 1) := by decide +kernel
theorem dX3_spreadNow_47 : decode cX3_spreadNow 47 = .ok (.iinc 3 1, 3) := by decide +kernel
theorem dX3_spreadNow_50 : decode cX3_spreadNow 50 = .ok (.goto (-37), 3) := by decide +kernel
theorem dX3_spreadNow_53 : decode cX3_spreadNow 53 = .ok (.iload_n 2, 1) := by decide +kernel
theorem dX3_spreadNow_54 : decode cX3_spreadNow 54 = .ok (.iload_n 1, 1) := by decide +kernel
theorem dX3_spreadNow_55 : decode cX3_spreadNow 55 = .ok (.isub, 1) := by decide +kernel
theorem dX3_spreadNow_56 : decode cX3_spreadNow 56 = .ok (.ireturn, 1) := by decide +kernel
