theorem d_J_goesOn_0 : decode b_J_goesOn 0 = .ok (.aload_n 0, 1) := by decide +kernel
theorem d_J_goesOn_1 : decode b_J_goesOn 1 = .ok (.getfield 34, 3) := by decide +kernel
theorem d_J_goesOn_4 : decode b_J_goesOn 4 = .ok (.aload_n 0, 1) := by decide +kernel
theorem d_J_goesOn_5 : decode b_J_goesOn 5 = .ok (.getfield 37, 3) := by decide +kernel
theorem d_J_goesOn_8 : decode b_J_goesOn 8 = .ok (.isub, 1) := by decide +kernel
theorem d_J_goesOn_9 : decode b_J_goesOn 9 = .ok (.iconst 5, 1) := by decide +kernel
theorem d_J_goesOn_10 : decode b_J_goesOn 10 = .ok (.if_icmp .le 5, 3) := by decide +kernel
theorem d_J_goesOn_13 : decode b_J_goesOn 13 = .ok (.iconst 0, 1) := by decide +kernel
theorem d_J_goesOn_14 : decode b_J_goesOn 14 = .ok (.ireturn, 1) := by decide +kernel
theorem d_J_goesOn_15 : decode b_J_goesOn 15 = .ok (.aload_n 0, 1) := by decide +kernel
theorem d_J_goesOn_16 : decode b_J_goesOn 16 = .ok (.getfield 37, 3) := by decide +kernel
theorem d_J_goesOn_19 : decode b_J_goesOn 19 = .ok (.iconst 1, 1) := by decide +kernel
theorem d_J_goesOn_20 : decode b_J_goesOn 20 = .ok (.iadd, 1) := by decide +kernel
theorem d_J_goesOn_21 : decode b_J_goesOn 21 = .ok (.istore_n 1, 1) := by decide +kernel
theorem d_J_goesOn_22 : decode b_J_goesOn 22 = .ok (.iload_n 1, 1) := by decide +kernel
theorem d_J_goesOn_23 : decode b_J_goesOn 23 = .ok (.aload_n 0, 1) := by decide +kernel
theorem d_J_goesOn_24 : decode b_J_goesOn 24 = .ok (.getfield 34, 3) := by decide +kernel
theorem d_J_goesOn_27 : decode b_J_goesOn 27 = .ok (.if_icmp .gt 23, 3) := by decide +kernel
theorem d_J_goesOn_30 : decode b_J_goesOn 30 = .ok (.aload_n 0, 1) := by decide +kernel
theorem d_J_goesOn_31 : decode b_J_goesOn 31 = .ok (.getfield 30, 3) := by decide +kernel
theorem d_J_goesOn_34 : decode b_J_goesOn 34 = .ok (.iload_n 1, 1) := by decide +kernel
theorem d_J_goesOn_35 : decode b_J_goesOn 35 = .ok (.aaload, 1) := by decide +kernel
theorem d_J_goesOn_36 : decode b_J_goesOn 36 = .ok (.getfield 169, 3) := by decide +kernel
theorem d_J_goesOn_39 : decode b_J_goesOn 39 = .ok (.ifCond .eq 5, 3) := by decide +kernel
theorem d_J_goesOn_42 : decode b_J_goesOn 42 = .ok (.iconst 0, 1) := by decide +kernel
theorem d_J_goesOn_43 : decode b_J_goesOn 43 = .ok (.ireturn, 1) := by decide +kernel
theorem d_J_goesOn_44 : decode b_J_goesOn 44 = .ok (.iinc 1 1, 3) := by decide +kernel
theorem d_J_goesOn_47 : decode b_J_goesOn 47 = .ok (.goto (-25), 3) := by decide +kernel
theorem d_J_goesOn_50 : decode b_J_goesOn 50 = .ok (.iconst 1, 1) := by decide +kernel
theorem d_J_goesOn_51 : decode b_J_goesOn 51 = .ok (.ireturn, 1) := by decide +kernel
theorem d_J_isSensor_0 : decode b_J_isSensor 0 = .ok (.iload_n 1, 1) := by decide +kernel
theorem d_J_isSensor_1 : decode b_J_isSensor 1 = .ok (.ifCond .lt 15, 3) := by decide +kernel
theorem d_J_isSensor_4 : decode b_J_isSensor 4 = .ok (.iload_n 1, 1) := by decide +kernel
theorem d_J_isSensor_5 : decode b_J_isSensor 5 = .ok (.aload_n 0, 1) := by decide +kernel
theorem d_J_isSensor_6 : decode b_J_isSensor 6 = .ok (.getfield 15, 3) := by decide +kernel
theorem d_J_isSensor_9 : decode b_J_isSensor 9 = .ok (.if_icmp .ge 7, 3) := by decide +kernel
theorem d_J_isSensor_12 : decode b_J_isSensor 12 = .ok (.iconst 1, 1) := by decide +kernel
theorem d_J_isSensor_13 : decode b_J_isSensor 13 = .ok (.goto 4, 3) := by decide +kernel
theorem d_J_isSensor_16 : decode b_J_isSensor 16 = .ok (.iconst 0, 1) := by decide +kernel
theorem d_J_isSensor_17 : decode b_J_isSensor 17 = .ok (.ireturn, 1) := by decide +kernel
theorem d_J_isItem_0 : decode b_J_isItem 0 = .ok (.iload_n 1, 1) := by decide +kernel
theorem d_J_isItem_1 : decode b_J_isItem 1 = .ok (.iconst 1, 1) := by decide +kernel
theorem d_J_isItem_2 : decode b_J_isItem 2 = .ok (.if_icmp .lt 15, 3) := by decide +kernel
theorem d_J_isItem_5 : decode b_J_isItem 5 = .ok (.iload_n 1, 1) := by decide +kernel
theorem d_J_isItem_6 : decode b_J_isItem 6 = .ok (.aload_n 0, 1) := by decide +kernel
theorem d_J_isItem_7 : decode b_J_isItem 7 = .ok (.getfield 25, 3) := by decide +kernel
theorem d_J_isItem_10 : decode b_J_isItem 10 = .ok (.if_icmp .gt 7, 3) := by decide +kernel
theorem d_J_isItem_13 : decode b_J_isItem 13 = .ok (.iconst 1, 1) := by decide +kernel
theorem d_J_isItem_14 : decode b_J_isItem 14 = .ok (.goto 4, 3) := by decide +kernel
theorem d_J_isItem_17 : decode b_J_isItem 17 = .ok (.iconst 0, 1) := by decide +kernel
theorem d_J_isItem_18 : decode b_J_isItem 18 = .ok (.ireturn, 1) := by decide +kernel
theorem d_J_isFault_0 : decode b_J_isFault 0 = .ok (.iload_n 1, 1) := by decide +kernel
theorem d_J_isFault_1 : decode b_J_isFault 1 = .ok (.iconst 1, 1) := by decide +kernel
theorem d_J_isFault_2 : decode b_J_isFault 2 = .ok (.if_icmp .lt 15, 3) := by decide +kernel
theorem d_J_isFault_5 : decode b_J_isFault 5 = .ok (.iload_n 1, 1) := by decide +kernel
theorem d_J_isFault_6 : decode b_J_isFault 6 = .ok (.aload_n 0, 1) := by decide +kernel
theorem d_J_isFault_7 : decode b_J_isFault 7 = .ok (.getfield 34, 3) := by decide +kernel
theorem d_J_isFault_10 : decode b_J_isFault 10 = .ok (.if_icmp .gt 7, 3) := by decide +kernel
theorem d_J_isFault_13 : decode b_J_isFault 13 = .ok (.iconst 1, 1) := by decide +kernel
theorem d_J_isFault_14 : decode b_J_isFault 14 = .ok (.goto 4, 3) := by decide +kernel
theorem d_J_isFault_17 : decode b_J_isFault 17 = .ok (.iconst 0, 1) := by decide +kernel
theorem d_J_isFault_18 : decode b_J_isFault 18 = .ok (.ireturn, 1) := by decide +kernel
theorem d_J_isKind_0 : decode b_J_isKind 0 = .ok (.iload_n 0, 1) := by decide +kernel
theorem d_J_isKind_1 : decode b_J_isKind 1 = .ok (.iconst 1, 1) := by decide +kernel
theorem d_J_isKind_2 : decode b_J_isKind 2 = .ok (.if_icmp .lt 13, 3) := by decide +kernel
theorem d_J_isKind_5 : decode b_J_isKind 5 = .ok (.iload_n 0, 1) := by decide +kernel
theorem d_J_isKind_6 : decode b_J_isKind 6 = .ok (.bipush 6, 2) := by decide +kernel
theorem d_J_isKind_8 : decode b_J_isKind 8 = .ok (.if_icmp .gt 7, 3) := by decide +kernel
theorem d_J_isKind_11 : decode b_J_isKind 11 = .ok (.iconst 1, 1) := by decide +kernel
theorem d_J_isKind_12 : decode b_J_isKind 12 = .ok (.goto 4, 3) := by decide +kernel
theorem d_J_isKind_15 : decode b_J_isKind 15 = .ok (.iconst 0, 1) := by decide +kernel
theorem d_J_isKind_16 : decode b_J_isKind 16 = .ok (.ireturn, 1) := by decide +kernel
theorem d_J_isTime_0 : decode b_J_isTime 0 = .ok (.lload_n 1, 1) := by decide +kernel
theorem d_J_isTime_1 : decode b_J_isTime 1 = .ok (.aload_n 0, 1) := by decide +kernel
theorem d_J_isTime_2 : decode b_J_isTime 2 = .ok (.getfield 54, 3) := by decide +kernel
theorem d_J_isTime_5 : decode b_J_isTime 5 = .ok (.lcmp, 1) := by decide +kernel
theorem d_J_isTime_6 : decode b_J_isTime 6 = .ok (.ifCond .lt 15, 3) := by decide +kernel
theorem d_J_isTime_9 : decode b_J_isTime 9 = .ok (.lload_n 1, 1) := by decide +kernel
theorem d_J_isTime_10 : decode b_J_isTime 10 = .ok (.ldc2_w 172, 3) := by decide +kernel
theorem d_J_isTime_13 : decode b_J_isTime 13 = .ok (.lcmp, 1) := by decide +kernel
theorem d_J_isTime_14 : decode b_J_isTime 14 = .ok (.ifCond .gt 7, 3) := by decide +kernel
theorem d_J_isTime_17 : decode b_J_isTime 17 = .ok (.iconst 1, 1) := by decide +kernel
theorem d_J_isTime_18 : decode b_J_isTime 18 = .ok (.goto 4, 3) := by decide +kernel
theorem d_J_isTime_21 : decode b_J_isTime 21 = .ok (.iconst 0, 1) := by decide +kernel
theorem d_J_isTime_22 : decode b_J_isTime 22 = .ok (.ireturn, 1) := by decide +kernel
theorem d_J_earliestHead_0 : decode b_J_earliestHead 0 = .ok (.aload_n 0, 1) := by decide +kernel
theorem d_J_earliestHead_1 : decode b_J_earliestHead 1 = .ok (.getfield 25, 3) := by decide +kernel
theorem d_J_earliestHead_4 : decode b_J_earliestHead 4 = .ok (.ifCond .ne 5, 3) := by decide +kernel
theorem d_J_earliestHead_7 : decode b_J_earliestHead 7 = .ok (.lconst 0, 1) := by decide +kernel
theorem d_J_earliestHead_8 : decode b_J_earliestHead 8 = .ok (.lreturn, 1) := by decide +kernel
theorem d_J_earliestHead_9 : decode b_J_earliestHead 9 = .ok (.aload_n 0, 1) := by decide +kernel
theorem d_J_earliestHead_10 : decode b_J_earliestHead 10 = .ok (.getfield 21, 3) := by decide +kernel
theorem d_J_earliestHead_13 : decode b_J_earliestHead 13 = .ok (.aload_n 0, 1) := by decide +kernel
theorem d_J_earliestHead_14 : decode b_J_earliestHead 14 = .ok (.getfield 25, 3) := by decide +kernel
theorem d_J_earliestHead_17 : decode b_J_earliestHead 17 = .ok (.aaload, 1) := by decide +kernel
theorem d_J_earliestHead_18 : decode b_J_earliestHead 18 = .ok (.astore_n 1, 1) := by decide +kernel
theorem d_J_earliestHead_19 : decode b_J_earliestHead 19 = .ok (.aload_n 1, 1) := by decide +kernel
theorem d_J_earliestHead_20 : decode b_J_earliestHead 20 = .ok (.getfield 174, 3) := by decide +kernel
theorem d_J_earliestHead_23 : decode b_J_earliestHead 23 = .ok (.aload_n 1, 1) := by decide +kernel
theorem d_J_earliestHead_24 : decode b_J_earliestHead 24 = .ok (.getfield 177, 3) := by decide +kernel
theorem d_J_earliestHead_27 : decode b_J_earliestHead 27 = .ok (.ladd, 1) := by decide +kernel
theorem d_J_earliestHead_28 : decode b_J_earliestHead 28 = .ok (.ldc2_w 180, 3) := by decide +kernel
theorem d_J_earliestHead_31 : decode b_J_earliestHead 31 = .ok (.ladd, 1) := by decide +kernel
theorem d_J_earliestHead_32 : decode b_J_earliestHead 32 = .ok (.lreturn, 1) := by decide +kernel
theorem d_J_tellJams_0 : decode b_J_tellJams 0 = .ok (.iconst 0, 1) := by decide +kernel
theorem d_J_tellJams_1 : decode b_J_tellJams 1 = .ok (.istore_n 1, 1) := by decide +kernel
theorem d_J_tellJams_2 : decode b_J_tellJams 2 = .ok (.iload_n 1, 1) := by decide +kernel
theorem d_J_tellJams_3 : decode b_J_tellJams 3 = .ok (.aload_n 0, 1) := by decide +kernel
theorem d_J_tellJams_4 : decode b_J_tellJams 4 = .ok (.getfield 15, 3) := by decide +kernel
theorem d_J_tellJams_7 : decode b_J_tellJams 7 = .ok (.if_icmp .ge 64, 3) := by decide +kernel
theorem d_J_tellJams_10 : decode b_J_tellJams 10 = .ok (.aload_n 0, 1) := by decide +kernel
theorem d_J_tellJams_11 : decode b_J_tellJams 11 = .ok (.getfield 11, 3) := by decide +kernel
theorem d_J_tellJams_14 : decode b_J_tellJams 14 = .ok (.iload_n 1, 1) := by decide +kernel
theorem d_J_tellJams_15 : decode b_J_tellJams 15 = .ok (.aaload, 1) := by decide +kernel
theorem d_J_tellJams_16 : decode b_J_tellJams 16 = .ok (.astore_n 2, 1) := by decide +kernel
theorem d_J_tellJams_17 : decode b_J_tellJams 17 = .ok (.aload_n 2, 1) := by decide +kernel
theorem d_J_tellJams_18 : decode b_J_tellJams 18 = .ok (.getfield 91, 3) := by decide +kernel
theorem d_J_tellJams_21 : decode b_J_tellJams 21 = .ok (.ifCond .eq 44, 3) := by decide +kernel
theorem d_J_tellJams_24 : decode b_J_tellJams 24 = .ok (.aload_n 2, 1) := by decide +kernel
theorem d_J_tellJams_25 : decode b_J_tellJams 25 = .ok (.getfield 182, 3) := by decide +kernel
theorem d_J_tellJams_28 : decode b_J_tellJams 28 = .ok (.ifCond .ne 37, 3) := by decide +kernel
theorem d_J_tellJams_31 : decode b_J_tellJams 31 = .ok (.aload_n 0, 1) := by decide +kernel
theorem d_J_tellJams_32 : decode b_J_tellJams 32 = .ok (.getfield 54, 3) := by decide +kernel
theorem d_J_tellJams_35 : decode b_J_tellJams 35 = .ok (.aload_n 2, 1) := by decide +kernel
theorem d_J_tellJams_36 : decode b_J_tellJams 36 = .ok (.getfield 185, 3) := by decide +kernel
theorem d_J_tellJams_39 : decode b_J_tellJams 39 = .ok (.lsub, 1) := by decide +kernel
theorem d_J_tellJams_40 : decode b_J_tellJams 40 = .ok (.ldc2_w 188, 3) := by decide +kernel
theorem d_J_tellJams_43 : decode b_J_tellJams 43 = .ok (.aload_n 0, 1) := by decide +kernel
theorem d_J_tellJams_44 : decode b_J_tellJams 44 = .ok (.aload_n 2, 1) := by decide +kernel
theorem d_J_tellJams_45 : decode b_J_tellJams 45 = .ok (.invokevirtual 190, 3) := by decide +kernel
theorem d_J_tellJams_48 : decode b_J_tellJams 48 = .ok (.ladd, 1) := by decide +kernel
theorem d_J_tellJams_49 : decode b_J_tellJams 49 = .ok (.lcmp, 1) := by decide +kernel
theorem d_J_tellJams_50 : decode b_J_tellJams 50 = .ok (.ifCond .le 15, 3) := by decide +kernel
theorem d_J_tellJams_53 : decode b_J_tellJams 53 = .ok (.aload_n 2, 1) := by decide +kernel
theorem d_J_tellJams_54 : decode b_J_tellJams 54 = .ok (.iconst 1, 1) := by decide +kernel
theorem d_J_tellJams_55 : decode b_J_tellJams 55 = .ok (.putfield 182, 3) := by decide +kernel
theorem d_J_tellJams_58 : decode b_J_tellJams 58 = .ok (.aload_n 0, 1) := by decide +kernel
theorem d_J_tellJams_59 : decode b_J_tellJams 59 = .ok (.iconst 5, 1) := by decide +kernel
theorem d_J_tellJams_60 : decode b_J_tellJams 60 = .ok (.iload_n 1, 1) := by decide +kernel
theorem d_J_tellJams_61 : decode b_J_tellJams 61 = .ok (.invokevirtual 151, 3) := by decide +kernel
theorem d_J_tellJams_64 : decode b_J_tellJams 64 = .ok (.pop, 1) := by decide +kernel
theorem d_J_tellJams_65 : decode b_J_tellJams 65 = .ok (.iinc 1 1, 3) := by decide +kernel
theorem d_J_tellJams_68 : decode b_J_tellJams 68 = .ok (.goto (-66), 3) := by decide +kernel
theorem d_J_tellJams_71 : decode b_J_tellJams 71 = .ok (.return_, 1) := by decide +kernel
theorem d_J_lengthAt_0 : decode b_J_lengthAt 0 = .ok (.aload_n 0, 1) := by decide +kernel
theorem d_J_lengthAt_1 : decode b_J_lengthAt 1 = .ok (.aload_n 1, 1) := by decide +kernel
theorem d_J_lengthAt_2 : decode b_J_lengthAt 2 = .ok (.getfield 194, 3) := by decide +kernel
theorem d_J_lengthAt_5 : decode b_J_lengthAt 5 = .ok (.invokevirtual 136, 3) := by decide +kernel
theorem d_J_lengthAt_8 : decode b_J_lengthAt 8 = .ok (.ifCond .eq 18, 3) := by decide +kernel
theorem d_J_lengthAt_11 : decode b_J_lengthAt 11 = .ok (.aload_n 0, 1) := by decide +kernel
theorem d_J_lengthAt_12 : decode b_J_lengthAt 12 = .ok (.getfield 21, 3) := by decide +kernel
theorem d_J_lengthAt_15 : decode b_J_lengthAt 15 = .ok (.aload_n 1, 1) := by decide +kernel
theorem d_J_lengthAt_16 : decode b_J_lengthAt 16 = .ok (.getfield 194, 3) := by decide +kernel
theorem d_J_lengthAt_19 : decode b_J_lengthAt 19 = .ok (.aaload, 1) := by decide +kernel
theorem d_J_lengthAt_20 : decode b_J_lengthAt 20 = .ok (.getfield 177, 3) := by decide +kernel
theorem d_J_lengthAt_23 : decode b_J_lengthAt 23 = .ok (.goto 4, 3) := by decide +kernel
theorem d_J_lengthAt_26 : decode b_J_lengthAt 26 = .ok (.lconst 0, 1) := by decide +kernel
theorem d_J_lengthAt_27 : decode b_J_lengthAt 27 = .ok (.lreturn, 1) := by decide +kernel
theorem d_J_becomeDark_0 : decode b_J_becomeDark 0 = .ok (.aload_n 0, 1) := by decide +kernel
theorem d_J_becomeDark_1 : decode b_J_becomeDark 1 = .ok (.getfield 11, 3) := by decide +kernel
theorem d_J_becomeDark_4 : decode b_J_becomeDark 4 = .ok (.iload_n 1, 1) := by decide +kernel
theorem d_J_becomeDark_5 : decode b_J_becomeDark 5 = .ok (.aaload, 1) := by decide +kernel
theorem d_J_becomeDark_6 : decode b_J_becomeDark 6 = .ok (.dup, 1) := by decide +kernel
theorem d_J_becomeDark_7 : decode b_J_becomeDark 7 = .ok (.getfield 166, 3) := by decide +kernel
theorem d_J_becomeDark_10 : decode b_J_becomeDark 10 = .ok (.iconst 1, 1) := by decide +kernel
theorem d_J_becomeDark_11 : decode b_J_becomeDark 11 = .ok (.iadd, 1) := by decide +kernel
theorem d_J_becomeDark_12 : decode b_J_becomeDark 12 = .ok (.putfield 166, 3) := by decide +kernel
theorem d_J_becomeDark_15 : decode b_J_becomeDark 15 = .ok (.aload_n 0, 1) := by decide +kernel
theorem d_J_becomeDark_16 : decode b_J_becomeDark 16 = .ok (.iload_n 1, 1) := by decide +kernel
theorem d_J_becomeDark_17 : decode b_J_becomeDark 17 = .ok (.invokevirtual 197, 3) := by decide +kernel
theorem d_J_becomeDark_20 : decode b_J_becomeDark 20 = .ok (.aload_n 0, 1) := by decide +kernel
theorem d_J_becomeDark_21 : decode b_J_becomeDark 21 = .ok (.iload_n 1, 1) := by decide +kernel
theorem d_J_becomeDark_22 : decode b_J_becomeDark 22 = .ok (.invokevirtual 200, 3) := by decide +kernel
theorem d_J_becomeDark_25 : decode b_J_becomeDark 25 = .ok (.istore_n 2, 1) := by decide +kernel
theorem d_J_becomeDark_26 : decode b_J_becomeDark 26 = .ok (.aload_n 0, 1) := by decide +kernel
theorem d_J_becomeDark_27 : decode b_J_becomeDark 27 = .ok (.iload_n 2, 1) := by decide +kernel
theorem d_J_becomeDark_28 : decode b_J_becomeDark 28 = .ok (.iload_n 1, 1) := by decide +kernel
theorem d_J_becomeDark_29 : decode b_J_becomeDark 29 = .ok (.invokevirtual 203, 3) := by decide +kernel
theorem d_J_becomeDark_32 : decode b_J_becomeDark 32 = .ok (.ifCond .eq 30, 3) := by decide +kernel
theorem d_J_becomeDark_35 : decode b_J_becomeDark 35 = .ok (.aload_n 0, 1) := by decide +kernel
theorem d_J_becomeDark_36 : decode b_J_becomeDark 36 = .ok (.getfield 21, 3) := by decide +kernel
theorem d_J_becomeDark_39 : decode b_J_becomeDark 39 = .ok (.iload_n 2, 1) := by decide +kernel
theorem d_J_becomeDark_40 : decode b_J_becomeDark 40 = .ok (.aaload, 1) := by decide +kernel
theorem d_J_becomeDark_41 : decode b_J_becomeDark 41 = .ok (.iload_n 1, 1) := by decide +kernel
theorem d_J_becomeDark_42 : decode b_J_becomeDark 42 = .ok (.invokevirtual 207, 3) := by decide +kernel
theorem d_J_becomeDark_45 : decode b_J_becomeDark 45 = .ok (.aload_n 0, 1) := by decide +kernel
theorem d_J_becomeDark_46 : decode b_J_becomeDark 46 = .ok (.getfield 11, 3) := by decide +kernel
theorem d_J_becomeDark_49 : decode b_J_becomeDark 49 = .ok (.iload_n 1, 1) := by decide +kernel
theorem d_J_becomeDark_50 : decode b_J_becomeDark 50 = .ok (.aaload, 1) := by decide +kernel
theorem d_J_becomeDark_51 : decode b_J_becomeDark 51 = .ok (.iload_n 2, 1) := by decide +kernel
theorem d_J_becomeDark_52 : decode b_J_becomeDark 52 = .ok (.aload_n 0, 1) := by decide +kernel
theorem d_J_becomeDark_53 : decode b_J_becomeDark 53 = .ok (.getfield 54, 3) := by decide +kernel
theorem d_J_becomeDark_56 : decode b_J_becomeDark 56 = .ok (.invokevirtual 210, 3) := by decide +kernel
theorem d_J_becomeDark_59 : decode b_J_becomeDark 59 = .ok (.goto 24, 3) := by decide +kernel
theorem d_J_becomeDark_62 : decode b_J_becomeDark 62 = .ok (.aload_n 0, 1) := by decide +kernel
theorem d_J_becomeDark_63 : decode b_J_becomeDark 63 = .ok (.iconst 1, 1) := by decide +kernel
theorem d_J_becomeDark_64 : decode b_J_becomeDark 64 = .ok (.iload_n 1, 1) := by decide +kernel
theorem d_J_becomeDark_65 : decode b_J_becomeDark 65 = .ok (.invokevirtual 151, 3) := by decide +kernel
theorem d_J_becomeDark_68 : decode b_J_becomeDark 68 = .ok (.pop, 1) := by decide +kernel
theorem d_J_becomeDark_69 : decode b_J_becomeDark 69 = .ok (.aload_n 0, 1) := by decide +kernel
theorem d_J_becomeDark_70 : decode b_J_becomeDark 70 = .ok (.getfield 11, 3) := by decide +kernel
theorem d_J_becomeDark_73 : decode b_J_becomeDark 73 = .ok (.iload_n 1, 1) := by decide +kernel
theorem d_J_becomeDark_74 : decode b_J_becomeDark 74 = .ok (.aaload, 1) := by decide +kernel
theorem d_J_becomeDark_75 : decode b_J_becomeDark 75 = .ok (.iconst 0, 1) := by decide +kernel
theorem d_J_becomeDark_76 : decode b_J_becomeDark 76 = .ok (.aload_n 0, 1) := by decide +kernel
theorem d_J_becomeDark_77 : decode b_J_becomeDark 77 = .ok (.getfield 54, 3) := by decide +kernel
theorem d_J_becomeDark_80 : decode b_J_becomeDark 80 = .ok (.invokevirtual 210, 3) := by decide +kernel
theorem d_J_becomeDark_83 : decode b_J_becomeDark 83 = .ok (.return_, 1) := by decide +kernel
theorem d_J_loseLateItems_0 : decode b_J_loseLateItems 0 = .ok (.iconst 1, 1) := by decide +kernel
theorem d_J_loseLateItems_1 : decode b_J_loseLateItems 1 = .ok (.istore_n 2, 1) := by decide +kernel
theorem d_J_loseLateItems_2 : decode b_J_loseLateItems 2 = .ok (.iload_n 2, 1) := by decide +kernel
theorem d_J_loseLateItems_3 : decode b_J_loseLateItems 3 = .ok (.aload_n 0, 1) := by decide +kernel
theorem d_J_loseLateItems_4 : decode b_J_loseLateItems 4 = .ok (.getfield 25, 3) := by decide +kernel
theorem d_J_loseLateItems_7 : decode b_J_loseLateItems 7 = .ok (.if_icmp .gt 53, 3) := by decide +kernel
theorem d_J_loseLateItems_10 : decode b_J_loseLateItems 10 = .ok (.aload_n 0, 1) := by decide +kernel
theorem d_J_loseLateItems_11 : decode b_J_loseLateItems 11 = .ok (.iload_n 2, 1) := by decide +kernel
theorem d_J_loseLateItems_12 : decode b_J_loseLateItems 12 = .ok (.iload_n 1, 1) := by decide +kernel
theorem d_J_loseLateItems_13 : decode b_J_loseLateItems 13 = .ok (.invokevirtual 214, 3) := by decide +kernel
theorem d_J_loseLateItems_16 : decode b_J_loseLateItems 16 = .ok (.ifCond .eq 38, 3) := by decide +kernel
theorem d_J_loseLateItems_19 : decode b_J_loseLateItems 19 = .ok (.aload_n 0, 1) := by decide +kernel
theorem d_J_loseLateItems_20 : decode b_J_loseLateItems 20 = .ok (.getfield 54, 3) := by decide +kernel
theorem d_J_loseLateItems_23 : decode b_J_loseLateItems 23 = .ok (.aload_n 0, 1) := by decide +kernel
theorem d_J_loseLateItems_24 : decode b_J_loseLateItems 24 = .ok (.iload_n 2, 1) := by decide +kernel
theorem d_J_loseLateItems_25 : decode b_J_loseLateItems 25 = .ok (.iload_n 1, 1) := by decide +kernel
theorem d_J_loseLateItems_26 : decode b_J_loseLateItems 26 = .ok (.invokevirtual 217, 3) := by decide +kernel
theorem d_J_loseLateItems_29 : decode b_J_loseLateItems 29 = .ok (.lsub, 1) := by decide +kernel
theorem d_J_loseLateItems_30 : decode b_J_loseLateItems 30 = .ok (.ldc2_w 221, 3) := by decide +kernel
theorem d_J_loseLateItems_33 : decode b_J_loseLateItems 33 = .ok (.lcmp, 1) := by decide +kernel
theorem d_J_loseLateItems_34 : decode b_J_loseLateItems 34 = .ok (.ifCond .le 20, 3) := by decide +kernel
theorem d_J_loseLateItems_37 : decode b_J_loseLateItems 37 = .ok (.aload_n 0, 1) := by decide +kernel
theorem d_J_loseLateItems_38 : decode b_J_loseLateItems 38 = .ok (.iconst 2, 1) := by decide +kernel
theorem d_J_loseLateItems_39 : decode b_J_loseLateItems 39 = .ok (.iload_n 1, 1) := by decide +kernel
theorem d_J_loseLateItems_40 : decode b_J_loseLateItems 40 = .ok (.invokevirtual 151, 3) := by decide +kernel
theorem d_J_loseLateItems_43 : decode b_J_loseLateItems 43 = .ok (.istore_n 3, 1) := by decide +kernel
theorem d_J_loseLateItems_44 : decode b_J_loseLateItems 44 = .ok (.aload_n 0, 1) := by decide +kernel
theorem d_J_loseLateItems_45 : decode b_J_loseLateItems 45 = .ok (.getfield 21, 3) := by decide +kernel
theorem d_J_loseLateItems_48 : decode b_J_loseLateItems 48 = .ok (.iload_n 2, 1) := by decide +kernel
theorem d_J_loseLateItems_49 : decode b_J_loseLateItems 49 = .ok (.aaload, 1) := by decide +kernel
theorem d_J_loseLateItems_50 : decode b_J_loseLateItems 50 = .ok (.iload_n 3, 1) := by decide +kernel
theorem d_J_loseLateItems_51 : decode b_J_loseLateItems 51 = .ok (.invokevirtual 223, 3) := by decide +kernel
theorem d_J_loseLateItems_54 : decode b_J_loseLateItems 54 = .ok (.iinc 2 1, 3) := by decide +kernel
theorem d_J_loseLateItems_57 : decode b_J_loseLateItems 57 = .ok (.goto (-55), 3) := by decide +kernel
theorem d_J_loseLateItems_60 : decode b_J_loseLateItems 60 = .ok (.return_, 1) := by decide +kernel
theorem d_J_becomeLight_0 : decode b_J_becomeLight 0 = .ok (.aload_n 0, 1) := by decide +kernel
theorem d_J_becomeLight_1 : decode b_J_becomeLight 1 = .ok (.getfield 11, 3) := by decide +kernel
theorem d_J_becomeLight_4 : decode b_J_becomeLight 4 = .ok (.iload_n 1, 1) := by decide +kernel
theorem d_J_becomeLight_5 : decode b_J_becomeLight 5 = .ok (.aaload, 1) := by decide +kernel
theorem d_J_becomeLight_6 : decode b_J_becomeLight 6 = .ok (.getfield 194, 3) := by decide +kernel
theorem d_J_becomeLight_9 : decode b_J_becomeLight 9 = .ok (.istore_n 2, 1) := by decide +kernel
theorem d_J_becomeLight_10 : decode b_J_becomeLight 10 = .ok (.aload_n 0, 1) := by decide +kernel
theorem d_J_becomeLight_11 : decode b_J_becomeLight 11 = .ok (.iload_n 2, 1) := by decide +kernel
theorem d_J_becomeLight_12 : decode b_J_becomeLight 12 = .ok (.invokevirtual 136, 3) := by decide +kernel
theorem d_J_becomeLight_15 : decode b_J_becomeLight 15 = .ok (.ifCond .eq 28, 3) := by decide +kernel
theorem d_J_becomeLight_18 : decode b_J_becomeLight 18 = .ok (.aload_n 0, 1) := by decide +kernel
theorem d_J_becomeLight_19 : decode b_J_becomeLight 19 = .ok (.iload_n 1, 1) := by decide +kernel
theorem d_J_becomeLight_20 : decode b_J_becomeLight 20 = .ok (.iload_n 2, 1) := by decide +kernel
theorem d_J_becomeLight_21 : decode b_J_becomeLight 21 = .ok (.invokevirtual 226, 3) := by decide +kernel
theorem d_J_becomeLight_24 : decode b_J_becomeLight 24 = .ok (.iload_n 1, 1) := by decide +kernel
theorem d_J_becomeLight_25 : decode b_J_becomeLight 25 = .ok (.aload_n 0, 1) := by decide +kernel
theorem d_J_becomeLight_26 : decode b_J_becomeLight 26 = .ok (.getfield 15, 3) := by decide +kernel
theorem d_J_becomeLight_29 : decode b_J_becomeLight 29 = .ok (.iconst 1, 1) := by decide +kernel
theorem d_J_becomeLight_30 : decode b_J_becomeLight 30 = .ok (.isub, 1) := by decide +kernel
theorem d_J_becomeLight_31 : decode b_J_becomeLight 31 = .ok (.if_icmp .ne 12, 3) := by decide +kernel
theorem d_J_becomeLight_34 : decode b_J_becomeLight 34 = .ok (.aload_n 0, 1) := by decide +kernel
theorem d_J_becomeLight_35 : decode b_J_becomeLight 35 = .ok (.getfield 21, 3) := by decide +kernel
theorem d_J_becomeLight_38 : decode b_J_becomeLight 38 = .ok (.iload_n 2, 1) := by decide +kernel
theorem d_J_becomeLight_39 : decode b_J_becomeLight 39 = .ok (.aaload, 1) := by decide +kernel
theorem d_J_becomeLight_40 : decode b_J_becomeLight 40 = .ok (.invokevirtual 230, 3) := by decide +kernel
theorem d_J_becomeLight_43 : decode b_J_becomeLight 43 = .ok (.aload_n 0, 1) := by decide +kernel
theorem d_J_becomeLight_44 : decode b_J_becomeLight 44 = .ok (.getfield 11, 3) := by decide +kernel
theorem d_J_becomeLight_47 : decode b_J_becomeLight 47 = .ok (.iload_n 1, 1) := by decide +kernel
theorem d_J_becomeLight_48 : decode b_J_becomeLight 48 = .ok (.aaload, 1) := by decide +kernel
theorem d_J_becomeLight_49 : decode b_J_becomeLight 49 = .ok (.invokevirtual 233, 3) := by decide +kernel
theorem d_J_becomeLight_52 : decode b_J_becomeLight 52 = .ok (.return_, 1) := by decide +kernel
theorem d_J_judgeLength_0 : decode b_J_judgeLength 0 = .ok (.aload_n 0, 1) := by decide +kernel
theorem d_J_judgeLength_1 : decode b_J_judgeLength 1 = .ok (.getfield 54, 3) := by decide +kernel
theorem d_J_judgeLength_4 : decode b_J_judgeLength 4 = .ok (.aload_n 0, 1) := by decide +kernel
theorem d_J_judgeLength_5 : decode b_J_judgeLength 5 = .ok (.getfield 11, 3) := by decide +kernel
theorem d_J_judgeLength_8 : decode b_J_judgeLength 8 = .ok (.iload_n 1, 1) := by decide +kernel
theorem d_J_judgeLength_9 : decode b_J_judgeLength 9 = .ok (.aaload, 1) := by decide +kernel
theorem d_J_judgeLength_10 : decode b_J_judgeLength 10 = .ok (.getfield 185, 3) := by decide +kernel
theorem d_J_judgeLength_13 : decode b_J_judgeLength 13 = .ok (.lsub, 1) := by decide +kernel
theorem d_J_judgeLength_14 : decode b_J_judgeLength 14 = .ok (.aload_n 0, 1) := by decide +kernel
theorem d_J_judgeLength_15 : decode b_J_judgeLength 15 = .ok (.getfield 21, 3) := by decide +kernel
theorem d_J_judgeLength_18 : decode b_J_judgeLength 18 = .ok (.iload_n 2, 1) := by decide +kernel
theorem d_J_judgeLength_19 : decode b_J_judgeLength 19 = .ok (.aaload, 1) := by decide +kernel
theorem d_J_judgeLength_20 : decode b_J_judgeLength 20 = .ok (.getfield 177, 3) := by decide +kernel
theorem d_J_judgeLength_23 : decode b_J_judgeLength 23 = .ok (.lsub, 1) := by decide +kernel
theorem d_J_judgeLength_24 : decode b_J_judgeLength 24 = .ok (.lstore_n 3, 1) := by decide +kernel
theorem d_J_judgeLength_25 : decode b_J_judgeLength 25 = .ok (.lload_n 3, 1) := by decide +kernel
theorem d_J_judgeLength_26 : decode b_J_judgeLength 26 = .ok (.ldc2_w 221, 3) := by decide +kernel
theorem d_J_judgeLength_29 : decode b_J_judgeLength 29 = .ok (.lcmp, 1) := by decide +kernel
theorem d_J_judgeLength_30 : decode b_J_judgeLength 30 = .ok (.ifCond .le 54, 3) := by decide +kernel
theorem d_J_judgeLength_33 : decode b_J_judgeLength 33 = .ok (.aload_n 0, 1) := by decide +kernel
theorem d_J_judgeLength_34 : decode b_J_judgeLength 34 = .ok (.iconst 3, 1) := by decide +kernel
theorem d_J_judgeLength_35 : decode b_J_judgeLength 35 = .ok (.iload_n 1, 1) := by decide +kernel
theorem d_J_judgeLength_36 : decode b_J_judgeLength 36 = .ok (.invokevirtual 151, 3) := by decide +kernel
theorem d_J_judgeLength_39 : decode b_J_judgeLength 39 = .ok (.istore 5, 2) := by decide +kernel
theorem d_J_judgeLength_41 : decode b_J_judgeLength 41 = .ok (.aload_n 0, 1) := by decide +kernel
theorem d_J_judgeLength_42 : decode b_J_judgeLength 42 = .ok (.getfield 21, 3) := by decide +kernel
theorem d_J_judgeLength_45 : decode b_J_judgeLength 45 = .ok (.iload_n 2, 1) := by decide +kernel
theorem d_J_judgeLength_46 : decode b_J_judgeLength 46 = .ok (.aaload, 1) := by decide +kernel
theorem d_J_judgeLength_47 : decode b_J_judgeLength 47 = .ok (.iload 5, 2) := by decide +kernel
theorem d_J_judgeLength_49 : decode b_J_judgeLength 49 = .ok (.invokevirtual 223, 3) := by decide +kernel
theorem d_J_judgeLength_52 : decode b_J_judgeLength 52 = .ok (.aload_n 0, 1) := by decide +kernel
theorem d_J_judgeLength_53 : decode b_J_judgeLength 53 = .ok (.iload_n 1, 1) := by decide +kernel
theorem d_J_judgeLength_54 : decode b_J_judgeLength 54 = .ok (.invokevirtual 200, 3) := by decide +kernel
theorem d_J_judgeLength_57 : decode b_J_judgeLength 57 = .ok (.istore 6, 2) := by decide +kernel
theorem d_J_judgeLength_59 : decode b_J_judgeLength 59 = .ok (.aload_n 0, 1) := by decide +kernel
theorem d_J_judgeLength_60 : decode b_J_judgeLength 60 = .ok (.iload 6, 2) := by decide +kernel
theorem d_J_judgeLength_62 : decode b_J_judgeLength 62 = .ok (.iload_n 1, 1) := by decide +kernel
theorem d_J_judgeLength_63 : decode b_J_judgeLength 63 = .ok (.invokevirtual 203, 3) := by decide +kernel
theorem d_J_judgeLength_66 : decode b_J_judgeLength 66 = .ok (.ifCond .eq 15, 3) := by decide +kernel
theorem d_J_judgeLength_69 : decode b_J_judgeLength 69 = .ok (.aload_n 0, 1) := by decide +kernel
theorem d_J_judgeLength_70 : decode b_J_judgeLength 70 = .ok (.getfield 21, 3) := by decide +kernel
theorem d_J_judgeLength_73 : decode b_J_judgeLength 73 = .ok (.iload 6, 2) := by decide +kernel
theorem d_J_judgeLength_75 : decode b_J_judgeLength 75 = .ok (.aaload, 1) := by decide +kernel
theorem d_J_judgeLength_76 : decode b_J_judgeLength 76 = .ok (.iload 5, 2) := by decide +kernel
theorem d_J_judgeLength_78 : decode b_J_judgeLength 78 = .ok (.invokevirtual 223, 3) := by decide +kernel
theorem d_J_judgeLength_81 : decode b_J_judgeLength 81 = .ok (.goto 18, 3) := by decide +kernel
theorem d_J_judgeLength_84 : decode b_J_judgeLength 84 = .ok (.lload_n 3, 1) := by decide +kernel
theorem d_J_judgeLength_85 : decode b_J_judgeLength 85 = .ok (.ldc2_w 236, 3) := by decide +kernel
theorem d_J_judgeLength_88 : decode b_J_judgeLength 88 = .ok (.lcmp, 1) := by decide +kernel
theorem d_J_judgeLength_89 : decode b_J_judgeLength 89 = .ok (.ifCond .ge 10, 3) := by decide +kernel
theorem d_J_judgeLength_92 : decode b_J_judgeLength 92 = .ok (.aload_n 0, 1) := by decide +kernel
theorem d_J_judgeLength_93 : decode b_J_judgeLength 93 = .ok (.iconst 4, 1) := by decide +kernel
theorem d_J_judgeLength_94 : decode b_J_judgeLength 94 = .ok (.iload_n 1, 1) := by decide +kernel
theorem d_J_judgeLength_95 : decode b_J_judgeLength 95 = .ok (.invokevirtual 151, 3) := by decide +kernel
theorem d_J_judgeLength_98 : decode b_J_judgeLength 98 = .ok (.pop, 1) := by decide +kernel
theorem d_J_judgeLength_99 : decode b_J_judgeLength 99 = .ok (.return_, 1) := by decide +kernel
theorem d_J_isAwaited_0 : decode b_J_isAwaited 0 = .ok (.aload_n 0, 1) := by decide +kernel
theorem d_J_isAwaited_1 : decode b_J_isAwaited 1 = .ok (.getfield 21, 3) := by decide +kernel
theorem d_J_isAwaited_4 : decode b_J_isAwaited 4 = .ok (.iload_n 1, 1) := by decide +kernel
theorem d_J_isAwaited_5 : decode b_J_isAwaited 5 = .ok (.aaload, 1) := by decide +kernel
theorem d_J_isAwaited_6 : decode b_J_isAwaited 6 = .ok (.invokevirtual 238, 3) := by decide +kernel
theorem d_J_isAwaited_9 : decode b_J_isAwaited 9 = .ok (.ifCond .eq 20, 3) := by decide +kernel
theorem d_J_isAwaited_12 : decode b_J_isAwaited 12 = .ok (.aload_n 0, 1) := by decide +kernel
theorem d_J_isAwaited_13 : decode b_J_isAwaited 13 = .ok (.getfield 21, 3) := by decide +kernel
theorem d_J_isAwaited_16 : decode b_J_isAwaited 16 = .ok (.iload_n 1, 1) := by decide +kernel
theorem d_J_isAwaited_17 : decode b_J_isAwaited 17 = .ok (.aaload, 1) := by decide +kernel
theorem d_J_isAwaited_18 : decode b_J_isAwaited 18 = .ok (.iload_n 2, 1) := by decide +kernel
theorem d_J_isAwaited_19 : decode b_J_isAwaited 19 = .ok (.invokevirtual 241, 3) := by decide +kernel
theorem d_J_isAwaited_22 : decode b_J_isAwaited 22 = .ok (.ifCond .ne 7, 3) := by decide +kernel
theorem d_J_isAwaited_25 : decode b_J_isAwaited 25 = .ok (.iconst 1, 1) := by decide +kernel
theorem d_J_isAwaited_26 : decode b_J_isAwaited 26 = .ok (.goto 4, 3) := by decide +kernel
theorem d_J_isAwaited_29 : decode b_J_isAwaited 29 = .ok (.iconst 0, 1) := by decide +kernel
theorem d_J_isAwaited_30 : decode b_J_isAwaited 30 = .ok (.ireturn, 1) := by decide +kernel
theorem d_J_leastUnseen_0 : decode b_J_leastUnseen 0 = .ok (.iconst 1, 1) := by decide +kernel
theorem d_J_leastUnseen_1 : decode b_J_leastUnseen 1 = .ok (.istore_n 2, 1) := by decide +kernel
theorem d_J_leastUnseen_2 : decode b_J_leastUnseen 2 = .ok (.iload_n 2, 1) := by decide +kernel
theorem d_J_leastUnseen_3 : decode b_J_leastUnseen 3 = .ok (.aload_n 0, 1) := by decide +kernel
theorem d_J_leastUnseen_4 : decode b_J_leastUnseen 4 = .ok (.getfield 25, 3) := by decide +kernel
theorem d_J_leastUnseen_7 : decode b_J_leastUnseen 7 = .ok (.if_icmp .gt 20, 3) := by decide +kernel
theorem d_J_leastUnseen_10 : decode b_J_leastUnseen 10 = .ok (.aload_n 0, 1) := by decide +kernel
theorem d_J_leastUnseen_11 : decode b_J_leastUnseen 11 = .ok (.iload_n 2, 1) := by decide +kernel
theorem d_J_leastUnseen_12 : decode b_J_leastUnseen 12 = .ok (.iload_n 1, 1) := by decide +kernel
theorem d_J_leastUnseen_13 : decode b_J_leastUnseen 13 = .ok (.invokevirtual 214, 3) := by decide +kernel
theorem d_J_leastUnseen_16 : decode b_J_leastUnseen 16 = .ok (.ifCond .eq 5, 3) := by decide +kernel
theorem d_J_leastUnseen_19 : decode b_J_leastUnseen 19 = .ok (.iload_n 2, 1) := by decide +kernel
theorem d_J_leastUnseen_20 : decode b_J_leastUnseen 20 = .ok (.ireturn, 1) := by decide +kernel
theorem d_J_leastUnseen_21 : decode b_J_leastUnseen 21 = .ok (.iinc 2 1, 3) := by decide +kernel
theorem d_J_leastUnseen_24 : decode b_J_leastUnseen 24 = .ok (.goto (-22), 3) := by decide +kernel
theorem d_J_leastUnseen_27 : decode b_J_leastUnseen 27 = .ok (.iconst 0, 1) := by decide +kernel
theorem d_J_leastUnseen_28 : decode b_J_leastUnseen 28 = .ok (.ireturn, 1) := by decide +kernel
theorem d_J_isComing_0 : decode b_J_isComing 0 = .ok (.aload_n 0, 1) := by decide +kernel
theorem d_J_isComing_1 : decode b_J_isComing 1 = .ok (.iload_n 1, 1) := by decide +kernel
theorem d_J_isComing_2 : decode b_J_isComing 2 = .ok (.invokevirtual 136, 3) := by decide +kernel
theorem d_J_isComing_5 : decode b_J_isComing 5 = .ok (.ifCond .eq 25, 3) := by decide +kernel
theorem d_J_isComing_8 : decode b_J_isComing 8 = .ok (.aload_n 0, 1) := by decide +kernel
theorem d_J_isComing_9 : decode b_J_isComing 9 = .ok (.iload_n 1, 1) := by decide +kernel
theorem d_J_isComing_10 : decode b_J_isComing 10 = .ok (.iload_n 2, 1) := by decide +kernel
theorem d_J_isComing_11 : decode b_J_isComing 11 = .ok (.invokevirtual 217, 3) := by decide +kernel
theorem d_J_isComing_14 : decode b_J_isComing 14 = .ok (.aload_n 0, 1) := by decide +kernel
theorem d_J_isComing_15 : decode b_J_isComing 15 = .ok (.getfield 54, 3) := by decide +kernel
theorem d_J_isComing_18 : decode b_J_isComing 18 = .ok (.ldc2_w 221, 3) := by decide +kernel
theorem d_J_isComing_21 : decode b_J_isComing 21 = .ok (.ladd, 1) := by decide +kernel
theorem d_J_isComing_22 : decode b_J_isComing 22 = .ok (.lcmp, 1) := by decide +kernel
theorem d_J_isComing_23 : decode b_J_isComing 23 = .ok (.ifCond .gt 7, 3) := by decide +kernel
theorem d_J_isComing_26 : decode b_J_isComing 26 = .ok (.iconst 1, 1) := by decide +kernel
theorem d_J_isComing_27 : decode b_J_isComing 27 = .ok (.goto 4, 3) := by decide +kernel
theorem d_J_isComing_30 : decode b_J_isComing 30 = .ok (.iconst 0, 1) := by decide +kernel
theorem d_J_isComing_31 : decode b_J_isComing 31 = .ok (.ireturn, 1) := by decide +kernel
theorem d_J_dueAt_0 : decode b_J_dueAt 0 = .ok (.aload_n 0, 1) := by decide +kernel
theorem d_J_dueAt_1 : decode b_J_dueAt 1 = .ok (.getfield 21, 3) := by decide +kernel
theorem d_J_dueAt_4 : decode b_J_dueAt 4 = .ok (.iload_n 1, 1) := by decide +kernel
theorem d_J_dueAt_5 : decode b_J_dueAt 5 = .ok (.aaload, 1) := by decide +kernel
theorem d_J_dueAt_6 : decode b_J_dueAt 6 = .ok (.getfield 174, 3) := by decide +kernel
theorem d_J_dueAt_9 : decode b_J_dueAt 9 = .ok (.aload_n 0, 1) := by decide +kernel
theorem d_J_dueAt_10 : decode b_J_dueAt 10 = .ok (.getfield 11, 3) := by decide +kernel
theorem d_J_dueAt_13 : decode b_J_dueAt 13 = .ok (.iload_n 2, 1) := by decide +kernel
theorem d_J_dueAt_14 : decode b_J_dueAt 14 = .ok (.aaload, 1) := by decide +kernel
theorem d_J_dueAt_15 : decode b_J_dueAt 15 = .ok (.getfield 58, 3) := by decide +kernel
theorem d_J_dueAt_18 : decode b_J_dueAt 18 = .ok (.ladd, 1) := by decide +kernel
theorem d_J_dueAt_19 : decode b_J_dueAt 19 = .ok (.lreturn, 1) := by decide +kernel
theorem d_J_tell_0 : decode b_J_tell 0 = .ok (.aload_n 0, 1) := by decide +kernel
theorem d_J_tell_1 : decode b_J_tell 1 = .ok (.getfield 34, 3) := by decide +kernel
theorem d_J_tell_4 : decode b_J_tell 4 = .ok (.bipush 40, 2) := by decide +kernel
theorem d_J_tell_6 : decode b_J_tell 6 = .ok (.if_icmp .lt 5, 3) := by decide +kernel
theorem d_J_tell_9 : decode b_J_tell 9 = .ok (.iconst 0, 1) := by decide +kernel
theorem d_J_tell_10 : decode b_J_tell 10 = .ok (.ireturn, 1) := by decide +kernel
theorem d_J_tell_11 : decode b_J_tell 11 = .ok (.aload_n 0, 1) := by decide +kernel
theorem d_J_tell_12 : decode b_J_tell 12 = .ok (.getfield 44, 3) := by decide +kernel
theorem d_J_tell_15 : decode b_J_tell 15 = .ok (.iload_n 1, 1) := by decide +kernel
theorem d_J_tell_16 : decode b_J_tell 16 = .ok (.baload, 1) := by decide +kernel
theorem d_J_tell_17 : decode b_J_tell 17 = .ok (.istore_n 3, 1) := by decide +kernel
theorem d_J_tell_18 : decode b_J_tell 18 = .ok (.iload_n 3, 1) := by decide +kernel
theorem d_J_tell_19 : decode b_J_tell 19 = .ok (.ifCond .eq 17, 3) := by decide +kernel
theorem d_J_tell_22 : decode b_J_tell 22 = .ok (.aload_n 0, 1) := by decide +kernel
theorem d_J_tell_23 : decode b_J_tell 23 = .ok (.getfield 40, 3) := by decide +kernel
theorem d_J_tell_26 : decode b_J_tell 26 = .ok (.iload_n 1, 1) := by decide +kernel
theorem d_J_tell_27 : decode b_J_tell 27 = .ok (.iconst 1, 1) := by decide +kernel
theorem d_J_tell_28 : decode b_J_tell 28 = .ok (.bastore, 1) := by decide +kernel
theorem d_J_tell_29 : decode b_J_tell 29 = .ok (.aload_n 0, 1) := by decide +kernel
theorem d_J_tell_30 : decode b_J_tell 30 = .ok (.getfield 44, 3) := by decide +kernel
theorem d_J_tell_33 : decode b_J_tell 33 = .ok (.iload_n 1, 1) := by decide +kernel
theorem d_J_tell_34 : decode b_J_tell 34 = .ok (.iconst 0, 1) := by decide +kernel
theorem d_J_tell_35 : decode b_J_tell 35 = .ok (.bastore, 1) := by decide +kernel
theorem d_J_tell_36 : decode b_J_tell 36 = .ok (.new 28, 3) := by decide +kernel
theorem d_J_tell_39 : decode b_J_tell 39 = .ok (.dup, 1) := by decide +kernel
theorem d_J_tell_40 : decode b_J_tell 40 = .ok (.iload_n 1, 1) := by decide +kernel
theorem d_J_tell_41 : decode b_J_tell 41 = .ok (.iload_n 2, 1) := by decide +kernel
theorem d_J_tell_42 : decode b_J_tell 42 = .ok (.aload_n 0, 1) := by decide +kernel
theorem d_J_tell_43 : decode b_J_tell 43 = .ok (.getfield 54, 3) := by decide +kernel
theorem d_J_tell_46 : decode b_J_tell 46 = .ok (.invokespecial 244, 3) := by decide +kernel
theorem d_J_tell_49 : decode b_J_tell 49 = .ok (.astore 4, 2) := by decide +kernel
theorem d_J_tell_51 : decode b_J_tell 51 = .ok (.aload 4, 2) := by decide +kernel
theorem d_J_tell_53 : decode b_J_tell 53 = .ok (.iload_n 3, 1) := by decide +kernel
theorem d_J_tell_54 : decode b_J_tell 54 = .ok (.putfield 117, 3) := by decide +kernel
theorem d_J_tell_57 : decode b_J_tell 57 = .ok (.aload 4, 2) := by decide +kernel
theorem d_J_tell_59 : decode b_J_tell 59 = .ok (.aload_n 0, 1) := by decide +kernel
theorem d_J_tell_60 : decode b_J_tell 60 = .ok (.getfield 40, 3) := by decide +kernel
theorem d_J_tell_63 : decode b_J_tell 63 = .ok (.iload_n 1, 1) := by decide +kernel
theorem d_J_tell_64 : decode b_J_tell 64 = .ok (.baload, 1) := by decide +kernel
theorem d_J_tell_65 : decode b_J_tell 65 = .ok (.putfield 169, 3) := by decide +kernel
theorem d_J_tell_68 : decode b_J_tell 68 = .ok (.aload 4, 2) := by decide +kernel
theorem d_J_tell_70 : decode b_J_tell 70 = .ok (.aload_n 0, 1) := by decide +kernel
theorem d_J_tell_71 : decode b_J_tell 71 = .ok (.iload_n 2, 1) := by decide +kernel
theorem d_J_tell_72 : decode b_J_tell 72 = .ok (.invokevirtual 247, 3) := by decide +kernel
theorem d_J_tell_75 : decode b_J_tell 75 = .ok (.putfield 251, 3) := by decide +kernel
theorem d_J_tell_78 : decode b_J_tell 78 = .ok (.aload_n 0, 1) := by decide +kernel
theorem d_J_tell_79 : decode b_J_tell 79 = .ok (.dup, 1) := by decide +kernel
theorem d_J_tell_80 : decode b_J_tell 80 = .ok (.getfield 34, 3) := by decide +kernel
theorem d_J_tell_83 : decode b_J_tell 83 = .ok (.iconst 1, 1) := by decide +kernel
theorem d_J_tell_84 : decode b_J_tell 84 = .ok (.iadd, 1) := by decide +kernel
theorem d_J_tell_85 : decode b_J_tell 85 = .ok (.putfield 34, 3) := by decide +kernel
theorem d_J_tell_88 : decode b_J_tell 88 = .ok (.aload_n 0, 1) := by decide +kernel
theorem d_J_tell_89 : decode b_J_tell 89 = .ok (.getfield 30, 3) := by decide +kernel
theorem d_J_tell_92 : decode b_J_tell 92 = .ok (.aload_n 0, 1) := by decide +kernel
theorem d_J_tell_93 : decode b_J_tell 93 = .ok (.getfield 34, 3) := by decide +kernel
theorem d_J_tell_96 : decode b_J_tell 96 = .ok (.aload 4, 2) := by decide +kernel
theorem d_J_tell_98 : decode b_J_tell 98 = .ok (.aastore, 1) := by decide +kernel
theorem d_J_tell_99 : decode b_J_tell 99 = .ok (.aload_n 0, 1) := by decide +kernel
theorem d_J_tell_100 : decode b_J_tell 100 = .ok (.getfield 34, 3) := by decide +kernel
theorem d_J_tell_103 : decode b_J_tell 103 = .ok (.ireturn, 1) := by decide +kernel
theorem d_J_doubtAt_0 : decode b_J_doubtAt 0 = .ok (.lconst 0, 1) := by decide +kernel
theorem d_J_doubtAt_1 : decode b_J_doubtAt 1 = .ok (.lstore_n 2, 1) := by decide +kernel
theorem d_J_doubtAt_2 : decode b_J_doubtAt 2 = .ok (.aload_n 0, 1) := by decide +kernel
theorem d_J_doubtAt_3 : decode b_J_doubtAt 3 = .ok (.iload_n 1, 1) := by decide +kernel
theorem d_J_doubtAt_4 : decode b_J_doubtAt 4 = .ok (.invokevirtual 87, 3) := by decide +kernel
theorem d_J_doubtAt_7 : decode b_J_doubtAt 7 = .ok (.ifCond .eq 38, 3) := by decide +kernel
theorem d_J_doubtAt_10 : decode b_J_doubtAt 10 = .ok (.iconst 1, 1) := by decide +kernel
theorem d_J_doubtAt_11 : decode b_J_doubtAt 11 = .ok (.istore 4, 2) := by decide +kernel
theorem d_J_doubtAt_13 : decode b_J_doubtAt 13 = .ok (.iload 4, 2) := by decide +kernel
theorem d_J_doubtAt_15 : decode b_J_doubtAt 15 = .ok (.aload_n 0, 1) := by decide +kernel
theorem d_J_doubtAt_16 : decode b_J_doubtAt 16 = .ok (.getfield 25, 3) := by decide +kernel
theorem d_J_doubtAt_19 : decode b_J_doubtAt 19 = .ok (.if_icmp .gt 26, 3) := by decide +kernel
theorem d_J_doubtAt_22 : decode b_J_doubtAt 22 = .ok (.aload_n 0, 1) := by decide +kernel
theorem d_J_doubtAt_23 : decode b_J_doubtAt 23 = .ok (.iload 4, 2) := by decide +kernel
theorem d_J_doubtAt_25 : decode b_J_doubtAt 25 = .ok (.iload_n 1, 1) := by decide +kernel
theorem d_J_doubtAt_26 : decode b_J_doubtAt 26 = .ok (.invokevirtual 254, 3) := by decide +kernel
theorem d_J_doubtAt_29 : decode b_J_doubtAt 29 = .ok (.ifCond .eq 10, 3) := by decide +kernel
theorem d_J_doubtAt_32 : decode b_J_doubtAt 32 = .ok (.lload_n 2, 1) := by decide +kernel
theorem d_J_doubtAt_33 : decode b_J_doubtAt 33 = .ok (.lconst 1, 1) := by decide +kernel
theorem d_J_doubtAt_34 : decode b_J_doubtAt 34 = .ok (.iload 4, 2) := by decide +kernel
theorem d_J_doubtAt_36 : decode b_J_doubtAt 36 = .ok (.lshl, 1) := by decide +kernel
theorem d_J_doubtAt_37 : decode b_J_doubtAt 37 = .ok (.lor, 1) := by decide +kernel
theorem d_J_doubtAt_38 : decode b_J_doubtAt 38 = .ok (.lstore_n 2, 1) := by decide +kernel
theorem d_J_doubtAt_39 : decode b_J_doubtAt 39 = .ok (.iinc 4 1, 3) := by decide +kernel
theorem d_J_doubtAt_42 : decode b_J_doubtAt 42 = .ok (.goto (-29), 3) := by decide +kernel
theorem d_J_doubtAt_45 : decode b_J_doubtAt 45 = .ok (.lload_n 2, 1) := by decide +kernel
theorem d_J_doubtAt_46 : decode b_J_doubtAt 46 = .ok (.lreturn, 1) := by decide +kernel
theorem d_J_isInDoubt_0 : decode b_J_isInDoubt 0 = .ok (.aload_n 0, 1) := by decide +kernel
theorem d_J_isInDoubt_1 : decode b_J_isInDoubt 1 = .ok (.getfield 21, 3) := by decide +kernel
theorem d_J_isInDoubt_4 : decode b_J_isInDoubt 4 = .ok (.iload_n 1, 1) := by decide +kernel
theorem d_J_isInDoubt_5 : decode b_J_isInDoubt 5 = .ok (.aaload, 1) := by decide +kernel
theorem d_J_isInDoubt_6 : decode b_J_isInDoubt 6 = .ok (.astore_n 3, 1) := by decide +kernel
theorem d_J_isInDoubt_7 : decode b_J_isInDoubt 7 = .ok (.aload_n 3, 1) := by decide +kernel
theorem d_J_isInDoubt_8 : decode b_J_isInDoubt 8 = .ok (.invokevirtual 238, 3) := by decide +kernel
theorem d_J_isInDoubt_11 : decode b_J_isInDoubt 11 = .ok (.ifCond .ne 5, 3) := by decide +kernel
theorem d_J_isInDoubt_14 : decode b_J_isInDoubt 14 = .ok (.iconst 0, 1) := by decide +kernel
theorem d_J_isInDoubt_15 : decode b_J_isInDoubt 15 = .ok (.ireturn, 1) := by decide +kernel
theorem d_J_isInDoubt_16 : decode b_J_isInDoubt 16 = .ok (.aload_n 3, 1) := by decide +kernel
theorem d_J_isInDoubt_17 : decode b_J_isInDoubt 17 = .ok (.iload_n 2, 1) := by decide +kernel
theorem d_J_isInDoubt_18 : decode b_J_isInDoubt 18 = .ok (.invokevirtual 241, 3) := by decide +kernel
theorem d_J_isInDoubt_21 : decode b_J_isInDoubt 21 = .ok (.ifCond .eq 34, 3) := by decide +kernel
theorem d_J_isInDoubt_24 : decode b_J_isInDoubt 24 = .ok (.aload_n 0, 1) := by decide +kernel
theorem d_J_isInDoubt_25 : decode b_J_isInDoubt 25 = .ok (.getfield 11, 3) := by decide +kernel
theorem d_J_isInDoubt_28 : decode b_J_isInDoubt 28 = .ok (.iload_n 2, 1) := by decide +kernel
theorem d_J_isInDoubt_29 : decode b_J_isInDoubt 29 = .ok (.aaload, 1) := by decide +kernel
theorem d_J_isInDoubt_30 : decode b_J_isInDoubt 30 = .ok (.getfield 91, 3) := by decide +kernel
theorem d_J_isInDoubt_33 : decode b_J_isInDoubt 33 = .ok (.ifCond .eq 20, 3) := by decide +kernel
theorem d_J_isInDoubt_36 : decode b_J_isInDoubt 36 = .ok (.aload_n 0, 1) := by decide +kernel
theorem d_J_isInDoubt_37 : decode b_J_isInDoubt 37 = .ok (.getfield 11, 3) := by decide +kernel
theorem d_J_isInDoubt_40 : decode b_J_isInDoubt 40 = .ok (.iload_n 2, 1) := by decide +kernel
theorem d_J_isInDoubt_41 : decode b_J_isInDoubt 41 = .ok (.aaload, 1) := by decide +kernel
theorem d_J_isInDoubt_42 : decode b_J_isInDoubt 42 = .ok (.getfield 194, 3) := by decide +kernel
theorem d_J_isInDoubt_45 : decode b_J_isInDoubt 45 = .ok (.iload_n 1, 1) := by decide +kernel
theorem d_J_isInDoubt_46 : decode b_J_isInDoubt 46 = .ok (.if_icmp .ne 7, 3) := by decide +kernel
theorem d_J_isInDoubt_49 : decode b_J_isInDoubt 49 = .ok (.iconst 1, 1) := by decide +kernel
theorem d_J_isInDoubt_50 : decode b_J_isInDoubt 50 = .ok (.goto 4, 3) := by decide +kernel
theorem d_J_isInDoubt_53 : decode b_J_isInDoubt 53 = .ok (.iconst 0, 1) := by decide +kernel
theorem d_J_isInDoubt_54 : decode b_J_isInDoubt 54 = .ok (.ireturn, 1) := by decide +kernel
theorem d_J_isInDoubt_55 : decode b_J_isInDoubt 55 = .ok (.iload_n 2, 1) := by decide +kernel
theorem d_J_isInDoubt_56 : decode b_J_isInDoubt 56 = .ok (.ifCond .ne 23, 3) := by decide +kernel
theorem d_J_isInDoubt_59 : decode b_J_isInDoubt 59 = .ok (.aload_n 3, 1) := by decide +kernel
theorem d_J_isInDoubt_60 : decode b_J_isInDoubt 60 = .ok (.getfield 174, 3) := by decide +kernel
theorem d_J_isInDoubt_63 : decode b_J_isInDoubt 63 = .ok (.aload_n 0, 1) := by decide +kernel
theorem d_J_isInDoubt_64 : decode b_J_isInDoubt 64 = .ok (.getfield 54, 3) := by decide +kernel
theorem d_J_isInDoubt_67 : decode b_J_isInDoubt 67 = .ok (.lcmp, 1) := by decide +kernel
theorem d_J_isInDoubt_68 : decode b_J_isInDoubt 68 = .ok (.ifCond .gt 7, 3) := by decide +kernel
theorem d_J_isInDoubt_71 : decode b_J_isInDoubt 71 = .ok (.iconst 1, 1) := by decide +kernel
theorem d_J_isInDoubt_72 : decode b_J_isInDoubt 72 = .ok (.goto 14, 3) := by decide +kernel
theorem d_J_isInDoubt_75 : decode b_J_isInDoubt 75 = .ok (.iconst 0, 1) := by decide +kernel
theorem d_J_isInDoubt_76 : decode b_J_isInDoubt 76 = .ok (.goto 10, 3) := by decide +kernel
theorem d_J_isInDoubt_79 : decode b_J_isInDoubt 79 = .ok (.aload_n 3, 1) := by decide +kernel
theorem d_J_isInDoubt_80 : decode b_J_isInDoubt 80 = .ok (.iload_n 2, 1) := by decide +kernel
theorem d_J_isInDoubt_81 : decode b_J_isInDoubt 81 = .ok (.iconst 1, 1) := by decide +kernel
theorem d_J_isInDoubt_82 : decode b_J_isInDoubt 82 = .ok (.isub, 1) := by decide +kernel
theorem d_J_isInDoubt_83 : decode b_J_isInDoubt 83 = .ok (.invokevirtual 241, 3) := by decide +kernel
theorem d_J_isInDoubt_86 : decode b_J_isInDoubt 86 = .ok (.ireturn, 1) := by decide +kernel
