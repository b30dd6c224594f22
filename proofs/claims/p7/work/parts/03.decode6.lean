theorem d_M_feed_0 : decode b_M_feed 0 = .ok (.iload_n 1, 1) := by decide +kernel
theorem d_M_feed_1 : decode b_M_feed 1 = .ok (.iconst 1, 1) := by decide +kernel
theorem d_M_feed_2 : decode b_M_feed 2 = .ok (.if_icmp .lt 11, 3) := by decide +kernel
theorem d_M_feed_5 : decode b_M_feed 5 = .ok (.iload_n 1, 1) := by decide +kernel
theorem d_M_feed_6 : decode b_M_feed 6 = .ok (.aload_n 0, 1) := by decide +kernel
theorem d_M_feed_7 : decode b_M_feed 7 = .ok (.getfield 104, 3) := by decide +kernel
theorem d_M_feed_10 : decode b_M_feed 10 = .ok (.if_icmp .le 6, 3) := by decide +kernel
theorem d_M_feed_13 : decode b_M_feed 13 = .ok (.bipush (-11), 2) := by decide +kernel
theorem d_M_feed_15 : decode b_M_feed 15 = .ok (.ireturn, 1) := by decide +kernel
theorem d_M_feed_16 : decode b_M_feed 16 = .ok (.aload_n 0, 1) := by decide +kernel
theorem d_M_feed_17 : decode b_M_feed 17 = .ok (.getfield 45, 3) := by decide +kernel
theorem d_M_feed_20 : decode b_M_feed 20 = .ok (.iload_n 1, 1) := by decide +kernel
theorem d_M_feed_21 : decode b_M_feed 21 = .ok (.baload, 1) := by decide +kernel
theorem d_M_feed_22 : decode b_M_feed 22 = .ok (.ifCond .eq 5, 3) := by decide +kernel
theorem d_M_feed_25 : decode b_M_feed 25 = .ok (.iconst 0, 1) := by decide +kernel
theorem d_M_feed_26 : decode b_M_feed 26 = .ok (.ireturn, 1) := by decide +kernel
theorem d_M_feed_27 : decode b_M_feed 27 = .ok (.aload_n 0, 1) := by decide +kernel
theorem d_M_feed_28 : decode b_M_feed 28 = .ok (.getfield 42, 3) := by decide +kernel
theorem d_M_feed_31 : decode b_M_feed 31 = .ok (.iload_n 1, 1) := by decide +kernel
theorem d_M_feed_32 : decode b_M_feed 32 = .ok (.baload, 1) := by decide +kernel
theorem d_M_feed_33 : decode b_M_feed 33 = .ok (.ifCond .ne 6, 3) := by decide +kernel
theorem d_M_feed_36 : decode b_M_feed 36 = .ok (.bipush (-13), 2) := by decide +kernel
theorem d_M_feed_38 : decode b_M_feed 38 = .ok (.ireturn, 1) := by decide +kernel
theorem d_M_feed_39 : decode b_M_feed 39 = .ok (.aload_n 0, 1) := by decide +kernel
theorem d_M_feed_40 : decode b_M_feed 40 = .ok (.getfield 45, 3) := by decide +kernel
theorem d_M_feed_43 : decode b_M_feed 43 = .ok (.iload_n 1, 1) := by decide +kernel
theorem d_M_feed_44 : decode b_M_feed 44 = .ok (.iconst 1, 1) := by decide +kernel
theorem d_M_feed_45 : decode b_M_feed 45 = .ok (.bastore, 1) := by decide +kernel
theorem d_M_feed_46 : decode b_M_feed 46 = .ok (.aload_n 0, 1) := by decide +kernel
theorem d_M_feed_47 : decode b_M_feed 47 = .ok (.getfield 42, 3) := by decide +kernel
theorem d_M_feed_50 : decode b_M_feed 50 = .ok (.iload_n 1, 1) := by decide +kernel
theorem d_M_feed_51 : decode b_M_feed 51 = .ok (.iconst 0, 1) := by decide +kernel
theorem d_M_feed_52 : decode b_M_feed 52 = .ok (.bastore, 1) := by decide +kernel
theorem d_M_feed_53 : decode b_M_feed 53 = .ok (.iconst 0, 1) := by decide +kernel
theorem d_M_feed_54 : decode b_M_feed 54 = .ok (.istore_n 2, 1) := by decide +kernel
theorem d_M_feed_55 : decode b_M_feed 55 = .ok (.iconst 0, 1) := by decide +kernel
theorem d_M_feed_56 : decode b_M_feed 56 = .ok (.istore_n 3, 1) := by decide +kernel
theorem d_M_feed_57 : decode b_M_feed 57 = .ok (.iload_n 3, 1) := by decide +kernel
theorem d_M_feed_58 : decode b_M_feed 58 = .ok (.aload_n 0, 1) := by decide +kernel
theorem d_M_feed_59 : decode b_M_feed 59 = .ok (.getfield 178, 3) := by decide +kernel
theorem d_M_feed_62 : decode b_M_feed 62 = .ok (.if_icmp .ge 34, 3) := by decide +kernel
theorem d_M_feed_65 : decode b_M_feed 65 = .ok (.aload_n 0, 1) := by decide +kernel
theorem d_M_feed_66 : decode b_M_feed 66 = .ok (.getfield 48, 3) := by decide +kernel
theorem d_M_feed_69 : decode b_M_feed 69 = .ok (.iload_n 3, 1) := by decide +kernel
theorem d_M_feed_70 : decode b_M_feed 70 = .ok (.iaload, 1) := by decide +kernel
theorem d_M_feed_71 : decode b_M_feed 71 = .ok (.iload_n 1, 1) := by decide +kernel
theorem d_M_feed_72 : decode b_M_feed 72 = .ok (.if_icmp .eq 18, 3) := by decide +kernel
theorem d_M_feed_75 : decode b_M_feed 75 = .ok (.aload_n 0, 1) := by decide +kernel
theorem d_M_feed_76 : decode b_M_feed 76 = .ok (.getfield 48, 3) := by decide +kernel
theorem d_M_feed_79 : decode b_M_feed 79 = .ok (.iload_n 2, 1) := by decide +kernel
theorem d_M_feed_80 : decode b_M_feed 80 = .ok (.aload_n 0, 1) := by decide +kernel
theorem d_M_feed_81 : decode b_M_feed 81 = .ok (.getfield 48, 3) := by decide +kernel
theorem d_M_feed_84 : decode b_M_feed 84 = .ok (.iload_n 3, 1) := by decide +kernel
theorem d_M_feed_85 : decode b_M_feed 85 = .ok (.iaload, 1) := by decide +kernel
theorem d_M_feed_86 : decode b_M_feed 86 = .ok (.iastore, 1) := by decide +kernel
theorem d_M_feed_87 : decode b_M_feed 87 = .ok (.iinc 2 1, 3) := by decide +kernel
theorem d_M_feed_90 : decode b_M_feed 90 = .ok (.iinc 3 1, 3) := by decide +kernel
theorem d_M_feed_93 : decode b_M_feed 93 = .ok (.goto (-36), 3) := by decide +kernel
theorem d_M_feed_96 : decode b_M_feed 96 = .ok (.aload_n 0, 1) := by decide +kernel
theorem d_M_feed_97 : decode b_M_feed 97 = .ok (.iload_n 2, 1) := by decide +kernel
theorem d_M_feed_98 : decode b_M_feed 98 = .ok (.putfield 178, 3) := by decide +kernel
theorem d_M_feed_101 : decode b_M_feed 101 = .ok (.iconst 1, 1) := by decide +kernel
theorem d_M_feed_102 : decode b_M_feed 102 = .ok (.ireturn, 1) := by decide +kernel
theorem d_M_listed_0 : decode b_M_listed 0 = .ok (.iload_n 1, 1) := by decide +kernel
theorem d_M_listed_1 : decode b_M_listed 1 = .ok (.ifCond .lt 20, 3) := by decide +kernel
theorem d_M_listed_4 : decode b_M_listed 4 = .ok (.iload_n 1, 1) := by decide +kernel
theorem d_M_listed_5 : decode b_M_listed 5 = .ok (.aload_n 0, 1) := by decide +kernel
theorem d_M_listed_6 : decode b_M_listed 6 = .ok (.getfield 178, 3) := by decide +kernel
theorem d_M_listed_9 : decode b_M_listed 9 = .ok (.if_icmp .ge 12, 3) := by decide +kernel
theorem d_M_listed_12 : decode b_M_listed 12 = .ok (.aload_n 0, 1) := by decide +kernel
theorem d_M_listed_13 : decode b_M_listed 13 = .ok (.getfield 48, 3) := by decide +kernel
theorem d_M_listed_16 : decode b_M_listed 16 = .ok (.iload_n 1, 1) := by decide +kernel
theorem d_M_listed_17 : decode b_M_listed 17 = .ok (.iaload, 1) := by decide +kernel
theorem d_M_listed_18 : decode b_M_listed 18 = .ok (.goto 4, 3) := by decide +kernel
theorem d_M_listed_21 : decode b_M_listed 21 = .ok (.iconst (-1), 1) := by decide +kernel
theorem d_M_listed_22 : decode b_M_listed 22 = .ok (.ireturn, 1) := by decide +kernel
theorem d_M_rule_0 : decode b_M_rule 0 = .ok (.iload_n 1, 1) := by decide +kernel
theorem d_M_rule_1 : decode b_M_rule 1 = .ok (.i2l, 1) := by decide +kernel
theorem d_M_rule_2 : decode b_M_rule 2 = .ok (.lconst 1, 1) := by decide +kernel
theorem d_M_rule_3 : decode b_M_rule 3 = .ok (.ldc2_w 190, 3) := by decide +kernel
theorem d_M_rule_6 : decode b_M_rule 6 = .ok (.invokestatic 111, 3) := by decide +kernel
theorem d_M_rule_9 : decode b_M_rule 9 = .ok (.ifCond .eq 13, 3) := by decide +kernel
theorem d_M_rule_12 : decode b_M_rule 12 = .ok (.iload_n 2, 1) := by decide +kernel
theorem d_M_rule_13 : decode b_M_rule 13 = .ok (.i2l, 1) := by decide +kernel
theorem d_M_rule_14 : decode b_M_rule 14 = .ok (.lconst 0, 1) := by decide +kernel
theorem d_M_rule_15 : decode b_M_rule 15 = .ok (.lconst 1, 1) := by decide +kernel
theorem d_M_rule_16 : decode b_M_rule 16 = .ok (.invokestatic 111, 3) := by decide +kernel
theorem d_M_rule_19 : decode b_M_rule 19 = .ok (.ifCond .ne 6, 3) := by decide +kernel
theorem d_M_rule_22 : decode b_M_rule 22 = .ok (.bipush (-12), 2) := by decide +kernel
theorem d_M_rule_24 : decode b_M_rule 24 = .ok (.ireturn, 1) := by decide +kernel
theorem d_M_rule_25 : decode b_M_rule 25 = .ok (.aload_n 0, 1) := by decide +kernel
theorem d_M_rule_26 : decode b_M_rule 26 = .ok (.getfield 78, 3) := by decide +kernel
theorem d_M_rule_29 : decode b_M_rule 29 = .ok (.iload_n 1, 1) := by decide +kernel
theorem d_M_rule_30 : decode b_M_rule 30 = .ok (.baload, 1) := by decide +kernel
theorem d_M_rule_31 : decode b_M_rule 31 = .ok (.ifCond .eq 7, 3) := by decide +kernel
theorem d_M_rule_34 : decode b_M_rule 34 = .ok (.iconst 1, 1) := by decide +kernel
theorem d_M_rule_35 : decode b_M_rule 35 = .ok (.goto 4, 3) := by decide +kernel
theorem d_M_rule_38 : decode b_M_rule 38 = .ok (.iconst 0, 1) := by decide +kernel
theorem d_M_rule_39 : decode b_M_rule 39 = .ok (.istore 4, 2) := by decide +kernel
theorem d_M_rule_41 : decode b_M_rule 41 = .ok (.aload_n 0, 1) := by decide +kernel
theorem d_M_rule_42 : decode b_M_rule 42 = .ok (.getfield 78, 3) := by decide +kernel
theorem d_M_rule_45 : decode b_M_rule 45 = .ok (.iload_n 1, 1) := by decide +kernel
theorem d_M_rule_46 : decode b_M_rule 46 = .ok (.iload_n 2, 1) := by decide +kernel
theorem d_M_rule_47 : decode b_M_rule 47 = .ok (.iconst 1, 1) := by decide +kernel
theorem d_M_rule_48 : decode b_M_rule 48 = .ok (.if_icmp .ne 7, 3) := by decide +kernel
theorem d_M_rule_51 : decode b_M_rule 51 = .ok (.iconst 1, 1) := by decide +kernel
theorem d_M_rule_52 : decode b_M_rule 52 = .ok (.goto 4, 3) := by decide +kernel
theorem d_M_rule_55 : decode b_M_rule 55 = .ok (.iconst 0, 1) := by decide +kernel
theorem d_M_rule_56 : decode b_M_rule 56 = .ok (.bastore, 1) := by decide +kernel
theorem d_M_rule_57 : decode b_M_rule 57 = .ok (.aload_n 0, 1) := by decide +kernel
theorem d_M_rule_58 : decode b_M_rule 58 = .ok (.getfield 81, 3) := by decide +kernel
theorem d_M_rule_61 : decode b_M_rule 61 = .ok (.iload_n 1, 1) := by decide +kernel
theorem d_M_rule_62 : decode b_M_rule 62 = .ok (.iload_n 3, 1) := by decide +kernel
theorem d_M_rule_63 : decode b_M_rule 63 = .ok (.bastore, 1) := by decide +kernel
theorem d_M_rule_64 : decode b_M_rule 64 = .ok (.iload 4, 2) := by decide +kernel
theorem d_M_rule_66 : decode b_M_rule 66 = .ok (.ireturn, 1) := by decide +kernel
theorem d_M_plant_0 : decode b_M_plant 0 = .ok (.iload_n 1, 1) := by decide +kernel
theorem d_M_plant_1 : decode b_M_plant 1 = .ok (.i2l, 1) := by decide +kernel
theorem d_M_plant_2 : decode b_M_plant 2 = .ok (.lconst 1, 1) := by decide +kernel
theorem d_M_plant_3 : decode b_M_plant 3 = .ok (.ldc2_w 190, 3) := by decide +kernel
theorem d_M_plant_6 : decode b_M_plant 6 = .ok (.invokestatic 111, 3) := by decide +kernel
theorem d_M_plant_9 : decode b_M_plant 9 = .ok (.ifCond .eq 17, 3) := by decide +kernel
theorem d_M_plant_12 : decode b_M_plant 12 = .ok (.lload_n 2, 1) := by decide +kernel
theorem d_M_plant_13 : decode b_M_plant 13 = .ok (.aload_n 0, 1) := by decide +kernel
theorem d_M_plant_14 : decode b_M_plant 14 = .ok (.getfield 115, 3) := by decide +kernel
theorem d_M_plant_17 : decode b_M_plant 17 = .ok (.ldc2_w 119, 3) := by decide +kernel
theorem d_M_plant_20 : decode b_M_plant 20 = .ok (.invokestatic 111, 3) := by decide +kernel
theorem d_M_plant_23 : decode b_M_plant 23 = .ok (.ifCond .ne 6, 3) := by decide +kernel
theorem d_M_plant_26 : decode b_M_plant 26 = .ok (.bipush (-12), 2) := by decide +kernel
theorem d_M_plant_28 : decode b_M_plant 28 = .ok (.ireturn, 1) := by decide +kernel
theorem d_M_plant_29 : decode b_M_plant 29 = .ok (.aload_n 0, 1) := by decide +kernel
theorem d_M_plant_30 : decode b_M_plant 30 = .ok (.invokevirtual 123, 3) := by decide +kernel
theorem d_M_plant_33 : decode b_M_plant 33 = .ok (.ifCond .eq 6, 3) := by decide +kernel
theorem d_M_plant_36 : decode b_M_plant 36 = .ok (.bipush (-13), 2) := by decide +kernel
theorem d_M_plant_38 : decode b_M_plant 38 = .ok (.ireturn, 1) := by decide +kernel
theorem d_M_plant_39 : decode b_M_plant 39 = .ok (.aload_n 0, 1) := by decide +kernel
theorem d_M_plant_40 : decode b_M_plant 40 = .ok (.lload_n 2, 1) := by decide +kernel
theorem d_M_plant_41 : decode b_M_plant 41 = .ok (.putfield 115, 3) := by decide +kernel
theorem d_M_plant_44 : decode b_M_plant 44 = .ok (.aload_n 0, 1) := by decide +kernel
theorem d_M_plant_45 : decode b_M_plant 45 = .ok (.iconst 0, 1) := by decide +kernel
theorem d_M_plant_46 : decode b_M_plant 46 = .ok (.putfield 135, 3) := by decide +kernel
theorem d_M_plant_49 : decode b_M_plant 49 = .ok (.aload_n 0, 1) := by decide +kernel
theorem d_M_plant_50 : decode b_M_plant 50 = .ok (.iload_n 1, 1) := by decide +kernel
theorem d_M_plant_51 : decode b_M_plant 51 = .ok (.iconst (-1), 1) := by decide +kernel
theorem d_M_plant_52 : decode b_M_plant 52 = .ok (.lload_n 2, 1) := by decide +kernel
theorem d_M_plant_53 : decode b_M_plant 53 = .ok (.iconst 1, 1) := by decide +kernel
theorem d_M_plant_54 : decode b_M_plant 54 = .ok (.invokevirtual 140, 3) := by decide +kernel
theorem d_M_plant_57 : decode b_M_plant 57 = .ok (.ireturn, 1) := by decide +kernel
theorem d_M_rankOf_0 : decode b_M_rankOf 0 = .ok (.aload_n 0, 1) := by decide +kernel
theorem d_M_rankOf_1 : decode b_M_rankOf 1 = .ok (.getfield 63, 3) := by decide +kernel
theorem d_M_rankOf_4 : decode b_M_rankOf 4 = .ok (.iload_n 1, 1) := by decide +kernel
theorem d_M_rankOf_5 : decode b_M_rankOf 5 = .ok (.baload, 1) := by decide +kernel
theorem d_M_rankOf_6 : decode b_M_rankOf 6 = .ok (.ifCond .eq 8, 3) := by decide +kernel
theorem d_M_rankOf_9 : decode b_M_rankOf 9 = .ok (.bipush 9, 2) := by decide +kernel
theorem d_M_rankOf_11 : decode b_M_rankOf 11 = .ok (.goto 14, 3) := by decide +kernel
theorem d_M_rankOf_14 : decode b_M_rankOf 14 = .ok (.aload_n 0, 1) := by decide +kernel
theorem d_M_rankOf_15 : decode b_M_rankOf 15 = .ok (.getfield 84, 3) := by decide +kernel
theorem d_M_rankOf_18 : decode b_M_rankOf 18 = .ok (.aload_n 0, 1) := by decide +kernel
theorem d_M_rankOf_19 : decode b_M_rankOf 19 = .ok (.getfield 51, 3) := by decide +kernel
theorem d_M_rankOf_22 : decode b_M_rankOf 22 = .ok (.iload_n 1, 1) := by decide +kernel
theorem d_M_rankOf_23 : decode b_M_rankOf 23 = .ok (.iaload, 1) := by decide +kernel
theorem d_M_rankOf_24 : decode b_M_rankOf 24 = .ok (.iaload, 1) := by decide +kernel
theorem d_M_rankOf_25 : decode b_M_rankOf 25 = .ok (.ireturn, 1) := by decide +kernel
theorem d_M_alarm_0 : decode b_M_alarm 0 = .ok (.iload_n 2, 1) := by decide +kernel
theorem d_M_alarm_1 : decode b_M_alarm 1 = .ok (.i2l, 1) := by decide +kernel
theorem d_M_alarm_2 : decode b_M_alarm 2 = .ok (.lconst 0, 1) := by decide +kernel
theorem d_M_alarm_3 : decode b_M_alarm 3 = .ok (.ldc2_w 192, 3) := by decide +kernel
theorem d_M_alarm_6 : decode b_M_alarm 6 = .ok (.invokestatic 111, 3) := by decide +kernel
theorem d_M_alarm_9 : decode b_M_alarm 9 = .ok (.ifCond .ne 6, 3) := by decide +kernel
theorem d_M_alarm_12 : decode b_M_alarm 12 = .ok (.bipush (-12), 2) := by decide +kernel
theorem d_M_alarm_14 : decode b_M_alarm 14 = .ok (.ireturn, 1) := by decide +kernel
theorem d_M_alarm_15 : decode b_M_alarm 15 = .ok (.iconst 0, 1) := by decide +kernel
theorem d_M_alarm_16 : decode b_M_alarm 16 = .ok (.istore_n 3, 1) := by decide +kernel
theorem d_M_alarm_17 : decode b_M_alarm 17 = .ok (.bipush 9, 2) := by decide +kernel
theorem d_M_alarm_19 : decode b_M_alarm 19 = .ok (.istore 4, 2) := by decide +kernel
theorem d_M_alarm_21 : decode b_M_alarm 21 = .ok (.iload 4, 2) := by decide +kernel
theorem d_M_alarm_23 : decode b_M_alarm 23 = .ok (.ifCond .le 114, 3) := by decide +kernel
theorem d_M_alarm_26 : decode b_M_alarm 26 = .ok (.iconst 1, 1) := by decide +kernel
theorem d_M_alarm_27 : decode b_M_alarm 27 = .ok (.istore 5, 2) := by decide +kernel
theorem d_M_alarm_29 : decode b_M_alarm 29 = .ok (.iload 5, 2) := by decide +kernel
theorem d_M_alarm_31 : decode b_M_alarm 31 = .ok (.aload_n 0, 1) := by decide +kernel
theorem d_M_alarm_32 : decode b_M_alarm 32 = .ok (.getfield 97, 3) := by decide +kernel
theorem d_M_alarm_35 : decode b_M_alarm 35 = .ok (.if_icmp .gt 96, 3) := by decide +kernel
theorem d_M_alarm_38 : decode b_M_alarm 38 = .ok (.aload_n 0, 1) := by decide +kernel
theorem d_M_alarm_39 : decode b_M_alarm 39 = .ok (.getfield 72, 3) := by decide +kernel
theorem d_M_alarm_42 : decode b_M_alarm 42 = .ok (.iload 5, 2) := by decide +kernel
theorem d_M_alarm_44 : decode b_M_alarm 44 = .ok (.baload, 1) := by decide +kernel
theorem d_M_alarm_45 : decode b_M_alarm 45 = .ok (.ifCond .ne 80, 3) := by decide +kernel
theorem d_M_alarm_48 : decode b_M_alarm 48 = .ok (.aload_n 0, 1) := by decide +kernel
theorem d_M_alarm_49 : decode b_M_alarm 49 = .ok (.iload 5, 2) := by decide +kernel
theorem d_M_alarm_51 : decode b_M_alarm 51 = .ok (.invokevirtual 194, 3) := by decide +kernel
theorem d_M_alarm_54 : decode b_M_alarm 54 = .ok (.iload 4, 2) := by decide +kernel
theorem d_M_alarm_56 : decode b_M_alarm 56 = .ok (.if_icmp .ne 69, 3) := by decide +kernel
theorem d_M_alarm_59 : decode b_M_alarm 59 = .ok (.iload_n 3, 1) := by decide +kernel
theorem d_M_alarm_60 : decode b_M_alarm 60 = .ok (.iload_n 1, 1) := by decide +kernel
theorem d_M_alarm_61 : decode b_M_alarm 61 = .ok (.if_icmp .ne 61, 3) := by decide +kernel
theorem d_M_alarm_64 : decode b_M_alarm 64 = .ok (.iload_n 2, 1) := by decide +kernel
theorem d_M_alarm_65 : decode b_M_alarm 65 = .ok (.ifCond .ne 8, 3) := by decide +kernel
theorem d_M_alarm_68 : decode b_M_alarm 68 = .ok (.iload 5, 2) := by decide +kernel
theorem d_M_alarm_70 : decode b_M_alarm 70 = .ok (.goto 51, 3) := by decide +kernel
theorem d_M_alarm_73 : decode b_M_alarm 73 = .ok (.iload_n 2, 1) := by decide +kernel
theorem d_M_alarm_74 : decode b_M_alarm 74 = .ok (.iconst 1, 1) := by decide +kernel
theorem d_M_alarm_75 : decode b_M_alarm 75 = .ok (.if_icmp .ne 8, 3) := by decide +kernel
theorem d_M_alarm_78 : decode b_M_alarm 78 = .ok (.iload 4, 2) := by decide +kernel
theorem d_M_alarm_80 : decode b_M_alarm 80 = .ok (.goto 41, 3) := by decide +kernel
theorem d_M_alarm_83 : decode b_M_alarm 83 = .ok (.iload_n 2, 1) := by decide +kernel
theorem d_M_alarm_84 : decode b_M_alarm 84 = .ok (.iconst 2, 1) := by decide +kernel
theorem d_M_alarm_85 : decode b_M_alarm 85 = .ok (.if_icmp .ne 13, 3) := by decide +kernel
theorem d_M_alarm_88 : decode b_M_alarm 88 = .ok (.aload_n 0, 1) := by decide +kernel
theorem d_M_alarm_89 : decode b_M_alarm 89 = .ok (.getfield 51, 3) := by decide +kernel
theorem d_M_alarm_92 : decode b_M_alarm 92 = .ok (.iload 5, 2) := by decide +kernel
theorem d_M_alarm_94 : decode b_M_alarm 94 = .ok (.iaload, 1) := by decide +kernel
theorem d_M_alarm_95 : decode b_M_alarm 95 = .ok (.goto 26, 3) := by decide +kernel
theorem d_M_alarm_98 : decode b_M_alarm 98 = .ok (.iload_n 2, 1) := by decide +kernel
theorem d_M_alarm_99 : decode b_M_alarm 99 = .ok (.iconst 3, 1) := by decide +kernel
theorem d_M_alarm_100 : decode b_M_alarm 100 = .ok (.if_icmp .ne 13, 3) := by decide +kernel
theorem d_M_alarm_103 : decode b_M_alarm 103 = .ok (.aload_n 0, 1) := by decide +kernel
theorem d_M_alarm_104 : decode b_M_alarm 104 = .ok (.getfield 54, 3) := by decide +kernel
theorem d_M_alarm_107 : decode b_M_alarm 107 = .ok (.iload 5, 2) := by decide +kernel
theorem d_M_alarm_109 : decode b_M_alarm 109 = .ok (.iaload, 1) := by decide +kernel
theorem d_M_alarm_110 : decode b_M_alarm 110 = .ok (.goto 11, 3) := by decide +kernel
theorem d_M_alarm_113 : decode b_M_alarm 113 = .ok (.aload_n 0, 1) := by decide +kernel
theorem d_M_alarm_114 : decode b_M_alarm 114 = .ok (.getfield 57, 3) := by decide +kernel
theorem d_M_alarm_117 : decode b_M_alarm 117 = .ok (.iload 5, 2) := by decide +kernel
theorem d_M_alarm_119 : decode b_M_alarm 119 = .ok (.laload, 1) := by decide +kernel
theorem d_M_alarm_120 : decode b_M_alarm 120 = .ok (.l2i, 1) := by decide +kernel
theorem d_M_alarm_121 : decode b_M_alarm 121 = .ok (.ireturn, 1) := by decide +kernel
theorem d_M_alarm_122 : decode b_M_alarm 122 = .ok (.iinc 3 1, 3) := by decide +kernel
theorem d_M_alarm_125 : decode b_M_alarm 125 = .ok (.iinc 5 1, 3) := by decide +kernel
theorem d_M_alarm_128 : decode b_M_alarm 128 = .ok (.goto (-99), 3) := by decide +kernel
theorem d_M_alarm_131 : decode b_M_alarm 131 = .ok (.iinc 4 (-1), 3) := by decide +kernel
theorem d_M_alarm_134 : decode b_M_alarm 134 = .ok (.goto (-113), 3) := by decide +kernel
theorem d_M_alarm_137 : decode b_M_alarm 137 = .ok (.iconst (-1), 1) := by decide +kernel
theorem d_M_alarm_138 : decode b_M_alarm 138 = .ok (.ireturn, 1) := by decide +kernel
theorem d_M_count_0 : decode b_M_count 0 = .ok (.aload_n 0, 1) := by decide +kernel
theorem d_M_count_1 : decode b_M_count 1 = .ok (.iload_n 1, 1) := by decide +kernel
theorem d_M_count_2 : decode b_M_count 2 = .ok (.invokevirtual 158, 3) := by decide +kernel
theorem d_M_count_5 : decode b_M_count 5 = .ok (.ifCond .eq 8, 3) := by decide +kernel
theorem d_M_count_8 : decode b_M_count 8 = .ok (.bipush (-11), 2) := by decide +kernel
theorem d_M_count_10 : decode b_M_count 10 = .ok (.goto 9, 3) := by decide +kernel
theorem d_M_count_13 : decode b_M_count 13 = .ok (.aload_n 0, 1) := by decide +kernel
theorem d_M_count_14 : decode b_M_count 14 = .ok (.getfield 17, 3) := by decide +kernel
theorem d_M_count_17 : decode b_M_count 17 = .ok (.iload_n 1, 1) := by decide +kernel
theorem d_M_count_18 : decode b_M_count 18 = .ok (.iaload, 1) := by decide +kernel
theorem d_M_count_19 : decode b_M_count 19 = .ok (.ireturn, 1) := by decide +kernel
theorem d_M_goesOn_0 : decode b_M_goesOn 0 = .ok (.aload_n 0, 1) := by decide +kernel
theorem d_M_goesOn_1 : decode b_M_goesOn 1 = .ok (.invokevirtual 123, 3) := by decide +kernel
theorem d_M_goesOn_4 : decode b_M_goesOn 4 = .ok (.ifCond .ne 7, 3) := by decide +kernel
theorem d_M_goesOn_7 : decode b_M_goesOn 7 = .ok (.iconst 1, 1) := by decide +kernel
theorem d_M_goesOn_8 : decode b_M_goesOn 8 = .ok (.goto 4, 3) := by decide +kernel
theorem d_M_goesOn_11 : decode b_M_goesOn 11 = .ok (.iconst 0, 1) := by decide +kernel
theorem d_M_goesOn_12 : decode b_M_goesOn 12 = .ok (.ireturn, 1) := by decide +kernel
theorem d_F_init_0 : decode b_F_init 0 = .ok (.aload_n 0, 1) := by decide +kernel
theorem d_F_init_1 : decode b_F_init 1 = .ok (.invokespecial 3, 3) := by decide +kernel
theorem d_F_init_4 : decode b_F_init 4 = .ok (.aload_n 0, 1) := by decide +kernel
theorem d_F_init_5 : decode b_F_init 5 = .ok (.iconst 0, 1) := by decide +kernel
theorem d_F_init_6 : decode b_F_init 6 = .ok (.putfield 9, 3) := by decide +kernel
theorem d_F_init_9 : decode b_F_init 9 = .ok (.aload_n 0, 1) := by decide +kernel
theorem d_F_init_10 : decode b_F_init 10 = .ok (.iconst 0, 1) := by decide +kernel
theorem d_F_init_11 : decode b_F_init 11 = .ok (.putfield 15, 3) := by decide +kernel
theorem d_F_init_14 : decode b_F_init 14 = .ok (.aload_n 0, 1) := by decide +kernel
theorem d_F_init_15 : decode b_F_init 15 = .ok (.lconst 0, 1) := by decide +kernel
theorem d_F_init_16 : decode b_F_init 16 = .ok (.putfield 18, 3) := by decide +kernel
theorem d_F_init_19 : decode b_F_init 19 = .ok (.aload_n 0, 1) := by decide +kernel
theorem d_F_init_20 : decode b_F_init 20 = .ok (.iconst 0, 1) := by decide +kernel
theorem d_F_init_21 : decode b_F_init 21 = .ok (.putfield 22, 3) := by decide +kernel
theorem d_F_init_24 : decode b_F_init 24 = .ok (.aload_n 0, 1) := by decide +kernel
theorem d_F_init_25 : decode b_F_init 25 = .ok (.iload_n 1, 1) := by decide +kernel
theorem d_F_init_26 : decode b_F_init 26 = .ok (.putfield 26, 3) := by decide +kernel
theorem d_F_init_29 : decode b_F_init 29 = .ok (.aload_n 0, 1) := by decide +kernel
theorem d_F_init_30 : decode b_F_init 30 = .ok (.iload_n 2, 1) := by decide +kernel
theorem d_F_init_31 : decode b_F_init 31 = .ok (.putfield 29, 3) := by decide +kernel
theorem d_F_init_34 : decode b_F_init 34 = .ok (.aload_n 0, 1) := by decide +kernel
theorem d_F_init_35 : decode b_F_init 35 = .ok (.lload_n 3, 1) := by decide +kernel
theorem d_F_init_36 : decode b_F_init 36 = .ok (.putfield 32, 3) := by decide +kernel
theorem d_F_init_39 : decode b_F_init 39 = .ok (.return_, 1) := by decide +kernel
theorem d_F_doubts_0 : decode b_F_doubts 0 = .ok (.aload_n 0, 1) := by decide +kernel
theorem d_F_doubts_1 : decode b_F_doubts 1 = .ok (.getfield 18, 3) := by decide +kernel
theorem d_F_doubts_4 : decode b_F_doubts 4 = .ok (.iload_n 1, 1) := by decide +kernel
theorem d_F_doubts_5 : decode b_F_doubts 5 = .ok (.lshr, 1) := by decide +kernel
theorem d_F_doubts_6 : decode b_F_doubts 6 = .ok (.lconst 1, 1) := by decide +kernel
theorem d_F_doubts_7 : decode b_F_doubts 7 = .ok (.land, 1) := by decide +kernel
theorem d_F_doubts_8 : decode b_F_doubts 8 = .ok (.lconst 0, 1) := by decide +kernel
theorem d_F_doubts_9 : decode b_F_doubts 9 = .ok (.lcmp, 1) := by decide +kernel
theorem d_F_doubts_10 : decode b_F_doubts 10 = .ok (.ifCond .eq 7, 3) := by decide +kernel
theorem d_F_doubts_13 : decode b_F_doubts 13 = .ok (.iconst 1, 1) := by decide +kernel
theorem d_F_doubts_14 : decode b_F_doubts 14 = .ok (.goto 4, 3) := by decide +kernel
theorem d_F_doubts_17 : decode b_F_doubts 17 = .ok (.iconst 0, 1) := by decide +kernel
theorem d_F_doubts_18 : decode b_F_doubts 18 = .ok (.ireturn, 1) := by decide +kernel
theorem d_F_rank_0 : decode b_F_rank 0 = .ok (.aload_n 0, 1) := by decide +kernel
theorem d_F_rank_1 : decode b_F_rank 1 = .ok (.getfield 9, 3) := by decide +kernel
theorem d_F_rank_4 : decode b_F_rank 4 = .ok (.ifCond .eq 8, 3) := by decide +kernel
theorem d_F_rank_7 : decode b_F_rank 7 = .ok (.bipush 9, 2) := by decide +kernel
theorem d_F_rank_9 : decode b_F_rank 9 = .ok (.goto 11, 3) := by decide +kernel
theorem d_F_rank_12 : decode b_F_rank 12 = .ok (.getstatic 35, 3) := by decide +kernel
theorem d_F_rank_15 : decode b_F_rank 15 = .ok (.aload_n 0, 1) := by decide +kernel
theorem d_F_rank_16 : decode b_F_rank 16 = .ok (.getfield 26, 3) := by decide +kernel
theorem d_F_rank_19 : decode b_F_rank 19 = .ok (.iaload, 1) := by decide +kernel
theorem d_F_rank_20 : decode b_F_rank 20 = .ok (.ireturn, 1) := by decide +kernel
theorem d_I_init_0 : decode b_I_init 0 = .ok (.aload_n 0, 1) := by decide +kernel
theorem d_I_init_1 : decode b_I_init 1 = .ok (.invokespecial 3, 3) := by decide +kernel
theorem d_I_init_4 : decode b_I_init 4 = .ok (.aload_n 0, 1) := by decide +kernel
theorem d_I_init_5 : decode b_I_init 5 = .ok (.iconst 0, 1) := by decide +kernel
theorem d_I_init_6 : decode b_I_init 6 = .ok (.putfield 9, 3) := by decide +kernel
theorem d_I_init_9 : decode b_I_init 9 = .ok (.aload_n 0, 1) := by decide +kernel
theorem d_I_init_10 : decode b_I_init 10 = .ok (.iconst 0, 1) := by decide +kernel
theorem d_I_init_11 : decode b_I_init 11 = .ok (.putfield 15, 3) := by decide +kernel
theorem d_I_init_14 : decode b_I_init 14 = .ok (.aload_n 0, 1) := by decide +kernel
theorem d_I_init_15 : decode b_I_init 15 = .ok (.iconst 0, 1) := by decide +kernel
theorem d_I_init_16 : decode b_I_init 16 = .ok (.putfield 19, 3) := by decide +kernel
theorem d_I_init_19 : decode b_I_init 19 = .ok (.aload_n 0, 1) := by decide +kernel
theorem d_I_init_20 : decode b_I_init 20 = .ok (.iconst 0, 1) := by decide +kernel
theorem d_I_init_21 : decode b_I_init 21 = .ok (.putfield 22, 3) := by decide +kernel
theorem d_I_init_24 : decode b_I_init 24 = .ok (.aload_n 0, 1) := by decide +kernel
theorem d_I_init_25 : decode b_I_init 25 = .ok (.iconst 0, 1) := by decide +kernel
theorem d_I_init_26 : decode b_I_init 26 = .ok (.putfield 25, 3) := by decide +kernel
theorem d_I_init_29 : decode b_I_init 29 = .ok (.aload_n 0, 1) := by decide +kernel
theorem d_I_init_30 : decode b_I_init 30 = .ok (.lload_n 1, 1) := by decide +kernel
theorem d_I_init_31 : decode b_I_init 31 = .ok (.putfield 28, 3) := by decide +kernel
theorem d_I_init_34 : decode b_I_init 34 = .ok (.aload_n 0, 1) := by decide +kernel
theorem d_I_init_35 : decode b_I_init 35 = .ok (.lload_n 3, 1) := by decide +kernel
theorem d_I_init_36 : decode b_I_init 36 = .ok (.putfield 32, 3) := by decide +kernel
theorem d_I_init_39 : decode b_I_init 39 = .ok (.return_, 1) := by decide +kernel
theorem d_I_isOnBelt_0 : decode b_I_isOnBelt 0 = .ok (.aload_n 0, 1) := by decide +kernel
theorem d_I_isOnBelt_1 : decode b_I_isOnBelt 1 = .ok (.getfield 22, 3) := by decide +kernel
theorem d_I_isOnBelt_4 : decode b_I_isOnBelt 4 = .ok (.ifCond .ne 7, 3) := by decide +kernel
theorem d_I_isOnBelt_7 : decode b_I_isOnBelt 7 = .ok (.iconst 1, 1) := by decide +kernel
theorem d_I_isOnBelt_8 : decode b_I_isOnBelt 8 = .ok (.goto 4, 3) := by decide +kernel
theorem d_I_isOnBelt_11 : decode b_I_isOnBelt 11 = .ok (.iconst 0, 1) := by decide +kernel
theorem d_I_isOnBelt_12 : decode b_I_isOnBelt 12 = .ok (.ireturn, 1) := by decide +kernel
theorem d_I_isOff_0 : decode b_I_isOff 0 = .ok (.aload_n 0, 1) := by decide +kernel
theorem d_I_isOff_1 : decode b_I_isOff 1 = .ok (.getfield 22, 3) := by decide +kernel
theorem d_I_isOff_4 : decode b_I_isOff 4 = .ok (.iconst 2, 1) := by decide +kernel
theorem d_I_isOff_5 : decode b_I_isOff 5 = .ok (.if_icmp .ne 7, 3) := by decide +kernel
theorem d_I_isOff_8 : decode b_I_isOff 8 = .ok (.iconst 1, 1) := by decide +kernel
theorem d_I_isOff_9 : decode b_I_isOff 9 = .ok (.goto 4, 3) := by decide +kernel
theorem d_I_isOff_12 : decode b_I_isOff 12 = .ok (.iconst 0, 1) := by decide +kernel
theorem d_I_isOff_13 : decode b_I_isOff 13 = .ok (.ireturn, 1) := by decide +kernel
theorem d_I_isSeenBy_0 : decode b_I_isSeenBy 0 = .ok (.aload_n 0, 1) := by decide +kernel
theorem d_I_isSeenBy_1 : decode b_I_isSeenBy 1 = .ok (.getfield 25, 3) := by decide +kernel
theorem d_I_isSeenBy_4 : decode b_I_isSeenBy 4 = .ok (.iload_n 1, 1) := by decide +kernel
theorem d_I_isSeenBy_5 : decode b_I_isSeenBy 5 = .ok (.ishr, 1) := by decide +kernel
theorem d_I_isSeenBy_6 : decode b_I_isSeenBy 6 = .ok (.iconst 1, 1) := by decide +kernel
theorem d_I_isSeenBy_7 : decode b_I_isSeenBy 7 = .ok (.iand, 1) := by decide +kernel
theorem d_I_isSeenBy_8 : decode b_I_isSeenBy 8 = .ok (.ifCond .eq 7, 3) := by decide +kernel
theorem d_I_isSeenBy_11 : decode b_I_isSeenBy 11 = .ok (.iconst 1, 1) := by decide +kernel
theorem d_I_isSeenBy_12 : decode b_I_isSeenBy 12 = .ok (.goto 4, 3) := by decide +kernel
theorem d_I_isSeenBy_15 : decode b_I_isSeenBy 15 = .ok (.iconst 0, 1) := by decide +kernel
theorem d_I_isSeenBy_16 : decode b_I_isSeenBy 16 = .ok (.ireturn, 1) := by decide +kernel
theorem d_I_beSeenBy_0 : decode b_I_beSeenBy 0 = .ok (.aload_n 0, 1) := by decide +kernel
theorem d_I_beSeenBy_1 : decode b_I_beSeenBy 1 = .ok (.dup, 1) := by decide +kernel
theorem d_I_beSeenBy_2 : decode b_I_beSeenBy 2 = .ok (.getfield 25, 3) := by decide +kernel
theorem d_I_beSeenBy_5 : decode b_I_beSeenBy 5 = .ok (.iconst 1, 1) := by decide +kernel
theorem d_I_beSeenBy_6 : decode b_I_beSeenBy 6 = .ok (.iload_n 1, 1) := by decide +kernel
theorem d_I_beSeenBy_7 : decode b_I_beSeenBy 7 = .ok (.ishl, 1) := by decide +kernel
theorem d_I_beSeenBy_8 : decode b_I_beSeenBy 8 = .ok (.ior, 1) := by decide +kernel
theorem d_I_beSeenBy_9 : decode b_I_beSeenBy 9 = .ok (.putfield 25, 3) := by decide +kernel
theorem d_I_beSeenBy_12 : decode b_I_beSeenBy 12 = .ok (.return_, 1) := by decide +kernel
theorem d_I_takeOffBelt_0 : decode b_I_takeOffBelt 0 = .ok (.aload_n 0, 1) := by decide +kernel
theorem d_I_takeOffBelt_1 : decode b_I_takeOffBelt 1 = .ok (.getfield 22, 3) := by decide +kernel
theorem d_I_takeOffBelt_4 : decode b_I_takeOffBelt 4 = .ok (.iconst 2, 1) := by decide +kernel
theorem d_I_takeOffBelt_5 : decode b_I_takeOffBelt 5 = .ok (.if_icmp .eq 13, 3) := by decide +kernel
theorem d_I_takeOffBelt_8 : decode b_I_takeOffBelt 8 = .ok (.aload_n 0, 1) := by decide +kernel
theorem d_I_takeOffBelt_9 : decode b_I_takeOffBelt 9 = .ok (.iconst 2, 1) := by decide +kernel
theorem d_I_takeOffBelt_10 : decode b_I_takeOffBelt 10 = .ok (.putfield 22, 3) := by decide +kernel
theorem d_I_takeOffBelt_13 : decode b_I_takeOffBelt 13 = .ok (.aload_n 0, 1) := by decide +kernel
theorem d_I_takeOffBelt_14 : decode b_I_takeOffBelt 14 = .ok (.iload_n 1, 1) := by decide +kernel
theorem d_I_takeOffBelt_15 : decode b_I_takeOffBelt 15 = .ok (.putfield 9, 3) := by decide +kernel
theorem d_I_takeOffBelt_18 : decode b_I_takeOffBelt 18 = .ok (.return_, 1) := by decide +kernel
theorem d_I_leaveBelt_0 : decode b_I_leaveBelt 0 = .ok (.aload_n 0, 1) := by decide +kernel
theorem d_I_leaveBelt_1 : decode b_I_leaveBelt 1 = .ok (.getfield 22, 3) := by decide +kernel
theorem d_I_leaveBelt_4 : decode b_I_leaveBelt 4 = .ok (.ifCond .ne 8, 3) := by decide +kernel
theorem d_I_leaveBelt_7 : decode b_I_leaveBelt 7 = .ok (.aload_n 0, 1) := by decide +kernel
theorem d_I_leaveBelt_8 : decode b_I_leaveBelt 8 = .ok (.iconst 1, 1) := by decide +kernel
theorem d_I_leaveBelt_9 : decode b_I_leaveBelt 9 = .ok (.putfield 22, 3) := by decide +kernel
theorem d_I_leaveBelt_12 : decode b_I_leaveBelt 12 = .ok (.return_, 1) := by decide +kernel
theorem d_S_init_0 : decode b_S_init 0 = .ok (.aload_n 0, 1) := by decide +kernel
theorem d_S_init_1 : decode b_S_init 1 = .ok (.invokespecial 3, 3) := by decide +kernel
theorem d_S_init_4 : decode b_S_init 4 = .ok (.aload_n 0, 1) := by decide +kernel
theorem d_S_init_5 : decode b_S_init 5 = .ok (.iconst 0, 1) := by decide +kernel
theorem d_S_init_6 : decode b_S_init 6 = .ok (.putfield 9, 3) := by decide +kernel
theorem d_S_init_9 : decode b_S_init 9 = .ok (.aload_n 0, 1) := by decide +kernel
theorem d_S_init_10 : decode b_S_init 10 = .ok (.iconst 0, 1) := by decide +kernel
theorem d_S_init_11 : decode b_S_init 11 = .ok (.putfield 15, 3) := by decide +kernel
theorem d_S_init_14 : decode b_S_init 14 = .ok (.aload_n 0, 1) := by decide +kernel
theorem d_S_init_15 : decode b_S_init 15 = .ok (.iconst 0, 1) := by decide +kernel
theorem d_S_init_16 : decode b_S_init 16 = .ok (.putfield 19, 3) := by decide +kernel
theorem d_S_init_19 : decode b_S_init 19 = .ok (.aload_n 0, 1) := by decide +kernel
theorem d_S_init_20 : decode b_S_init 20 = .ok (.lconst 0, 1) := by decide +kernel
theorem d_S_init_21 : decode b_S_init 21 = .ok (.putfield 22, 3) := by decide +kernel
theorem d_S_init_24 : decode b_S_init 24 = .ok (.aload_n 0, 1) := by decide +kernel
theorem d_S_init_25 : decode b_S_init 25 = .ok (.iconst 0, 1) := by decide +kernel
theorem d_S_init_26 : decode b_S_init 26 = .ok (.putfield 26, 3) := by decide +kernel
theorem d_S_init_29 : decode b_S_init 29 = .ok (.aload_n 0, 1) := by decide +kernel
theorem d_S_init_30 : decode b_S_init 30 = .ok (.lload_n 1, 1) := by decide +kernel
theorem d_S_init_31 : decode b_S_init 31 = .ok (.putfield 29, 3) := by decide +kernel
theorem d_S_init_34 : decode b_S_init 34 = .ok (.return_, 1) := by decide +kernel
theorem d_S_darken_0 : decode b_S_darken 0 = .ok (.aload_n 0, 1) := by decide +kernel
theorem d_S_darken_1 : decode b_S_darken 1 = .ok (.iconst 1, 1) := by decide +kernel
theorem d_S_darken_2 : decode b_S_darken 2 = .ok (.putfield 15, 3) := by decide +kernel
theorem d_S_darken_5 : decode b_S_darken 5 = .ok (.aload_n 0, 1) := by decide +kernel
theorem d_S_darken_6 : decode b_S_darken 6 = .ok (.iload_n 1, 1) := by decide +kernel
theorem d_S_darken_7 : decode b_S_darken 7 = .ok (.putfield 19, 3) := by decide +kernel
theorem d_S_darken_10 : decode b_S_darken 10 = .ok (.aload_n 0, 1) := by decide +kernel
theorem d_S_darken_11 : decode b_S_darken 11 = .ok (.lload_n 2, 1) := by decide +kernel
theorem d_S_darken_12 : decode b_S_darken 12 = .ok (.putfield 22, 3) := by decide +kernel
theorem d_S_darken_15 : decode b_S_darken 15 = .ok (.aload_n 0, 1) := by decide +kernel
theorem d_S_darken_16 : decode b_S_darken 16 = .ok (.iconst 0, 1) := by decide +kernel
theorem d_S_darken_17 : decode b_S_darken 17 = .ok (.putfield 26, 3) := by decide +kernel
theorem d_S_darken_20 : decode b_S_darken 20 = .ok (.return_, 1) := by decide +kernel
theorem d_S_lighten_0 : decode b_S_lighten 0 = .ok (.aload_n 0, 1) := by decide +kernel
theorem d_S_lighten_1 : decode b_S_lighten 1 = .ok (.iconst 0, 1) := by decide +kernel
theorem d_S_lighten_2 : decode b_S_lighten 2 = .ok (.putfield 15, 3) := by decide +kernel
theorem d_S_lighten_5 : decode b_S_lighten 5 = .ok (.aload_n 0, 1) := by decide +kernel
theorem d_S_lighten_6 : decode b_S_lighten 6 = .ok (.iconst 0, 1) := by decide +kernel
theorem d_S_lighten_7 : decode b_S_lighten 7 = .ok (.putfield 19, 3) := by decide +kernel
theorem d_S_lighten_10 : decode b_S_lighten 10 = .ok (.return_, 1) := by decide +kernel
theorem d_L_law_0 : decode b_L_law 0 = .ok (.new 7, 3) := by decide +kernel
theorem d_L_law_3 : decode b_L_law 3 = .ok (.dup, 1) := by decide +kernel
theorem d_L_law_4 : decode b_L_law 4 = .ok (.invokespecial 9, 3) := by decide +kernel
theorem d_L_law_7 : decode b_L_law 7 = .ok (.astore_n 1, 1) := by decide +kernel
theorem d_L_law_8 : decode b_L_law 8 = .ok (.new 10, 3) := by decide +kernel
theorem d_L_law_11 : decode b_L_law 11 = .ok (.dup, 1) := by decide +kernel
theorem d_L_law_12 : decode b_L_law 12 = .ok (.invokespecial 12, 3) := by decide +kernel
theorem d_L_law_15 : decode b_L_law 15 = .ok (.astore_n 2, 1) := by decide +kernel
theorem d_L_law_16 : decode b_L_law 16 = .ok (.iconst 0, 1) := by decide +kernel
theorem d_L_law_17 : decode b_L_law 17 = .ok (.istore_n 3, 1) := by decide +kernel
theorem d_L_law_18 : decode b_L_law 18 = .ok (.iload_n 3, 1) := by decide +kernel
theorem d_L_law_19 : decode b_L_law 19 = .ok (.aload_n 0, 1) := by decide +kernel
theorem d_L_law_20 : decode b_L_law 20 = .ok (.arraylength, 1) := by decide +kernel
theorem d_L_law_21 : decode b_L_law 21 = .ok (.iconst 5, 1) := by decide +kernel
theorem d_L_law_22 : decode b_L_law 22 = .ok (.isub, 1) := by decide +kernel
theorem d_L_law_23 : decode b_L_law 23 = .ok (.if_icmp .gt 644, 3) := by decide +kernel
theorem d_L_law_26 : decode b_L_law 26 = .ok (.aload_n 0, 1) := by decide +kernel
theorem d_L_law_27 : decode b_L_law 27 = .ok (.iload_n 3, 1) := by decide +kernel
theorem d_L_law_28 : decode b_L_law 28 = .ok (.iaload, 1) := by decide +kernel
theorem d_L_law_29 : decode b_L_law 29 = .ok (.bipush 15, 2) := by decide +kernel
theorem d_L_law_31 : decode b_L_law 31 = .ok (.iand, 1) := by decide +kernel
theorem d_L_law_32 : decode b_L_law 32 = .ok (.tableswitch 629 0 12 #[68, 121, 214, 303, 336, 359, 392, 415, 438, 497, 560, 593, 616], 68) := by decide +kernel
theorem d_L_law_100 : decode b_L_law 100 = .ok (.aload_n 1, 1) := by decide +kernel
theorem d_L_law_101 : decode b_L_law 101 = .ok (.aload_n 0, 1) := by decide +kernel
theorem d_L_law_102 : decode b_L_law 102 = .ok (.iload_n 3, 1) := by decide +kernel
theorem d_L_law_103 : decode b_L_law 103 = .ok (.iconst 1, 1) := by decide +kernel
theorem d_L_law_104 : decode b_L_law 104 = .ok (.iadd, 1) := by decide +kernel
theorem d_L_law_105 : decode b_L_law 105 = .ok (.iaload, 1) := by decide +kernel
theorem d_L_law_106 : decode b_L_law 106 = .ok (.i2l, 1) := by decide +kernel
theorem d_L_law_107 : decode b_L_law 107 = .ok (.bipush 32, 2) := by decide +kernel
theorem d_L_law_109 : decode b_L_law 109 = .ok (.lshl, 1) := by decide +kernel
theorem d_L_law_110 : decode b_L_law 110 = .ok (.aload_n 0, 1) := by decide +kernel
theorem d_L_law_111 : decode b_L_law 111 = .ok (.iload_n 3, 1) := by decide +kernel
theorem d_L_law_112 : decode b_L_law 112 = .ok (.iconst 2, 1) := by decide +kernel
theorem d_L_law_113 : decode b_L_law 113 = .ok (.iadd, 1) := by decide +kernel
theorem d_L_law_114 : decode b_L_law 114 = .ok (.iaload, 1) := by decide +kernel
theorem d_L_law_115 : decode b_L_law 115 = .ok (.i2l, 1) := by decide +kernel
theorem d_L_law_116 : decode b_L_law 116 = .ok (.ldc2_w 13, 3) := by decide +kernel
theorem d_L_law_119 : decode b_L_law 119 = .ok (.land, 1) := by decide +kernel
theorem d_L_law_120 : decode b_L_law 120 = .ok (.lor, 1) := by decide +kernel
theorem d_L_law_121 : decode b_L_law 121 = .ok (.invokevirtual 15, 3) := by decide +kernel
theorem d_L_law_124 : decode b_L_law 124 = .ok (.pop, 1) := by decide +kernel
theorem d_L_law_125 : decode b_L_law 125 = .ok (.aload_n 2, 1) := by decide +kernel
theorem d_L_law_126 : decode b_L_law 126 = .ok (.aload_n 0, 1) := by decide +kernel
theorem d_L_law_127 : decode b_L_law 127 = .ok (.iload_n 3, 1) := by decide +kernel
theorem d_L_law_128 : decode b_L_law 128 = .ok (.iconst 1, 1) := by decide +kernel
theorem d_L_law_129 : decode b_L_law 129 = .ok (.iadd, 1) := by decide +kernel
theorem d_L_law_130 : decode b_L_law 130 = .ok (.iaload, 1) := by decide +kernel
theorem d_L_law_131 : decode b_L_law 131 = .ok (.i2l, 1) := by decide +kernel
theorem d_L_law_132 : decode b_L_law 132 = .ok (.bipush 32, 2) := by decide +kernel
theorem d_L_law_134 : decode b_L_law 134 = .ok (.lshl, 1) := by decide +kernel
theorem d_L_law_135 : decode b_L_law 135 = .ok (.aload_n 0, 1) := by decide +kernel
theorem d_L_law_136 : decode b_L_law 136 = .ok (.iload_n 3, 1) := by decide +kernel
theorem d_L_law_137 : decode b_L_law 137 = .ok (.iconst 2, 1) := by decide +kernel
theorem d_L_law_138 : decode b_L_law 138 = .ok (.iadd, 1) := by decide +kernel
theorem d_L_law_139 : decode b_L_law 139 = .ok (.iaload, 1) := by decide +kernel
theorem d_L_law_140 : decode b_L_law 140 = .ok (.i2l, 1) := by decide +kernel
theorem d_L_law_141 : decode b_L_law 141 = .ok (.ldc2_w 13, 3) := by decide +kernel
theorem d_L_law_144 : decode b_L_law 144 = .ok (.land, 1) := by decide +kernel
theorem d_L_law_145 : decode b_L_law 145 = .ok (.lor, 1) := by decide +kernel
theorem d_L_law_146 : decode b_L_law 146 = .ok (.invokevirtual 19, 3) := by decide +kernel
theorem d_L_law_149 : decode b_L_law 149 = .ok (.pop, 1) := by decide +kernel
theorem d_L_law_150 : decode b_L_law 150 = .ok (.goto 511, 3) := by decide +kernel
theorem d_L_law_153 : decode b_L_law 153 = .ok (.aload_n 1, 1) := by decide +kernel
theorem d_L_law_154 : decode b_L_law 154 = .ok (.aload_n 0, 1) := by decide +kernel
theorem d_L_law_155 : decode b_L_law 155 = .ok (.iload_n 3, 1) := by decide +kernel
theorem d_L_law_156 : decode b_L_law 156 = .ok (.iconst 1, 1) := by decide +kernel
theorem d_L_law_157 : decode b_L_law 157 = .ok (.iadd, 1) := by decide +kernel
theorem d_L_law_158 : decode b_L_law 158 = .ok (.iaload, 1) := by decide +kernel
theorem d_L_law_159 : decode b_L_law 159 = .ok (.i2l, 1) := by decide +kernel
theorem d_L_law_160 : decode b_L_law 160 = .ok (.bipush 32, 2) := by decide +kernel
theorem d_L_law_162 : decode b_L_law 162 = .ok (.lshl, 1) := by decide +kernel
theorem d_L_law_163 : decode b_L_law 163 = .ok (.aload_n 0, 1) := by decide +kernel
theorem d_L_law_164 : decode b_L_law 164 = .ok (.iload_n 3, 1) := by decide +kernel
theorem d_L_law_165 : decode b_L_law 165 = .ok (.iconst 2, 1) := by decide +kernel
theorem d_L_law_166 : decode b_L_law 166 = .ok (.iadd, 1) := by decide +kernel
theorem d_L_law_167 : decode b_L_law 167 = .ok (.iaload, 1) := by decide +kernel
theorem d_L_law_168 : decode b_L_law 168 = .ok (.i2l, 1) := by decide +kernel
theorem d_L_law_169 : decode b_L_law 169 = .ok (.ldc2_w 13, 3) := by decide +kernel
theorem d_L_law_172 : decode b_L_law 172 = .ok (.land, 1) := by decide +kernel
theorem d_L_law_173 : decode b_L_law 173 = .ok (.lor, 1) := by decide +kernel
theorem d_L_law_174 : decode b_L_law 174 = .ok (.aload_n 0, 1) := by decide +kernel
theorem d_L_law_175 : decode b_L_law 175 = .ok (.iload_n 3, 1) := by decide +kernel
theorem d_L_law_176 : decode b_L_law 176 = .ok (.iconst 3, 1) := by decide +kernel
theorem d_L_law_177 : decode b_L_law 177 = .ok (.iadd, 1) := by decide +kernel
theorem d_L_law_178 : decode b_L_law 178 = .ok (.iaload, 1) := by decide +kernel
theorem d_L_law_179 : decode b_L_law 179 = .ok (.i2l, 1) := by decide +kernel
theorem d_L_law_180 : decode b_L_law 180 = .ok (.bipush 32, 2) := by decide +kernel
theorem d_L_law_182 : decode b_L_law 182 = .ok (.lshl, 1) := by decide +kernel
theorem d_L_law_183 : decode b_L_law 183 = .ok (.aload_n 0, 1) := by decide +kernel
theorem d_L_law_184 : decode b_L_law 184 = .ok (.iload_n 3, 1) := by decide +kernel
theorem d_L_law_185 : decode b_L_law 185 = .ok (.iconst 4, 1) := by decide +kernel
theorem d_L_law_186 : decode b_L_law 186 = .ok (.iadd, 1) := by decide +kernel
theorem d_L_law_187 : decode b_L_law 187 = .ok (.iaload, 1) := by decide +kernel
theorem d_L_law_188 : decode b_L_law 188 = .ok (.i2l, 1) := by decide +kernel
theorem d_L_law_189 : decode b_L_law 189 = .ok (.ldc2_w 13, 3) := by decide +kernel
theorem d_L_law_192 : decode b_L_law 192 = .ok (.land, 1) := by decide +kernel
theorem d_L_law_193 : decode b_L_law 193 = .ok (.lor, 1) := by decide +kernel
theorem d_L_law_194 : decode b_L_law 194 = .ok (.invokevirtual 20, 3) := by decide +kernel
theorem d_L_law_197 : decode b_L_law 197 = .ok (.pop, 1) := by decide +kernel
theorem d_L_law_198 : decode b_L_law 198 = .ok (.aload_n 2, 1) := by decide +kernel
theorem d_L_law_199 : decode b_L_law 199 = .ok (.aload_n 0, 1) := by decide +kernel
theorem d_L_law_200 : decode b_L_law 200 = .ok (.iload_n 3, 1) := by decide +kernel
theorem d_L_law_201 : decode b_L_law 201 = .ok (.iconst 1, 1) := by decide +kernel
theorem d_L_law_202 : decode b_L_law 202 = .ok (.iadd, 1) := by decide +kernel
theorem d_L_law_203 : decode b_L_law 203 = .ok (.iaload, 1) := by decide +kernel
theorem d_L_law_204 : decode b_L_law 204 = .ok (.i2l, 1) := by decide +kernel
theorem d_L_law_205 : decode b_L_law 205 = .ok (.bipush 32, 2) := by decide +kernel
theorem d_L_law_207 : decode b_L_law 207 = .ok (.lshl, 1) := by decide +kernel
theorem d_L_law_208 : decode b_L_law 208 = .ok (.aload_n 0, 1) := by decide +kernel
theorem d_L_law_209 : decode b_L_law 209 = .ok (.iload_n 3, 1) := by decide +kernel
theorem d_L_law_210 : decode b_L_law 210 = .ok (.iconst 2, 1) := by decide +kernel
theorem d_L_law_211 : decode b_L_law 211 = .ok (.iadd, 1) := by decide +kernel
theorem d_L_law_212 : decode b_L_law 212 = .ok (.iaload, 1) := by decide +kernel
theorem d_L_law_213 : decode b_L_law 213 = .ok (.i2l, 1) := by decide +kernel
theorem d_L_law_214 : decode b_L_law 214 = .ok (.ldc2_w 13, 3) := by decide +kernel
theorem d_L_law_217 : decode b_L_law 217 = .ok (.land, 1) := by decide +kernel
theorem d_L_law_218 : decode b_L_law 218 = .ok (.lor, 1) := by decide +kernel
theorem d_L_law_219 : decode b_L_law 219 = .ok (.aload_n 0, 1) := by decide +kernel
theorem d_L_law_220 : decode b_L_law 220 = .ok (.iload_n 3, 1) := by decide +kernel
theorem d_L_law_221 : decode b_L_law 221 = .ok (.iconst 3, 1) := by decide +kernel
theorem d_L_law_222 : decode b_L_law 222 = .ok (.iadd, 1) := by decide +kernel
theorem d_L_law_223 : decode b_L_law 223 = .ok (.iaload, 1) := by decide +kernel
theorem d_L_law_224 : decode b_L_law 224 = .ok (.i2l, 1) := by decide +kernel
theorem d_L_law_225 : decode b_L_law 225 = .ok (.bipush 32, 2) := by decide +kernel
theorem d_L_law_227 : decode b_L_law 227 = .ok (.lshl, 1) := by decide +kernel
theorem d_L_law_228 : decode b_L_law 228 = .ok (.aload_n 0, 1) := by decide +kernel
theorem d_L_law_229 : decode b_L_law 229 = .ok (.iload_n 3, 1) := by decide +kernel
theorem d_L_law_230 : decode b_L_law 230 = .ok (.iconst 4, 1) := by decide +kernel
theorem d_L_law_231 : decode b_L_law 231 = .ok (.iadd, 1) := by decide +kernel
theorem d_L_law_232 : decode b_L_law 232 = .ok (.iaload, 1) := by decide +kernel
theorem d_L_law_233 : decode b_L_law 233 = .ok (.i2l, 1) := by decide +kernel
theorem d_L_law_234 : decode b_L_law 234 = .ok (.ldc2_w 13, 3) := by decide +kernel
theorem d_L_law_237 : decode b_L_law 237 = .ok (.land, 1) := by decide +kernel
theorem d_L_law_238 : decode b_L_law 238 = .ok (.lor, 1) := by decide +kernel
theorem d_L_law_239 : decode b_L_law 239 = .ok (.invokevirtual 24, 3) := by decide +kernel
theorem d_L_law_242 : decode b_L_law 242 = .ok (.pop, 1) := by decide +kernel
theorem d_L_law_243 : decode b_L_law 243 = .ok (.goto 418, 3) := by decide +kernel
theorem d_L_law_246 : decode b_L_law 246 = .ok (.aload_n 1, 1) := by decide +kernel
theorem d_L_law_247 : decode b_L_law 247 = .ok (.aload_n 0, 1) := by decide +kernel
theorem d_L_law_248 : decode b_L_law 248 = .ok (.iload_n 3, 1) := by decide +kernel
theorem d_L_law_249 : decode b_L_law 249 = .ok (.iconst 1, 1) := by decide +kernel
theorem d_L_law_250 : decode b_L_law 250 = .ok (.iadd, 1) := by decide +kernel
theorem d_L_law_251 : decode b_L_law 251 = .ok (.iaload, 1) := by decide +kernel
theorem d_L_law_252 : decode b_L_law 252 = .ok (.aload_n 0, 1) := by decide +kernel
theorem d_L_law_253 : decode b_L_law 253 = .ok (.iload_n 3, 1) := by decide +kernel
theorem d_L_law_254 : decode b_L_law 254 = .ok (.iconst 2, 1) := by decide +kernel
theorem d_L_law_255 : decode b_L_law 255 = .ok (.iadd, 1) := by decide +kernel
theorem d_L_law_256 : decode b_L_law 256 = .ok (.iaload, 1) := by decide +kernel
theorem d_L_law_257 : decode b_L_law 257 = .ok (.ifCond .eq 7, 3) := by decide +kernel
theorem d_L_law_260 : decode b_L_law 260 = .ok (.iconst 1, 1) := by decide +kernel
theorem d_L_law_261 : decode b_L_law 261 = .ok (.goto 4, 3) := by decide +kernel
theorem d_L_law_264 : decode b_L_law 264 = .ok (.iconst 0, 1) := by decide +kernel
theorem d_L_law_265 : decode b_L_law 265 = .ok (.aload_n 0, 1) := by decide +kernel
theorem d_L_law_266 : decode b_L_law 266 = .ok (.iload_n 3, 1) := by decide +kernel
theorem d_L_law_267 : decode b_L_law 267 = .ok (.iconst 3, 1) := by decide +kernel
theorem d_L_law_268 : decode b_L_law 268 = .ok (.iadd, 1) := by decide +kernel
theorem d_L_law_269 : decode b_L_law 269 = .ok (.iaload, 1) := by decide +kernel
theorem d_L_law_270 : decode b_L_law 270 = .ok (.i2l, 1) := by decide +kernel
theorem d_L_law_271 : decode b_L_law 271 = .ok (.bipush 32, 2) := by decide +kernel
theorem d_L_law_273 : decode b_L_law 273 = .ok (.lshl, 1) := by decide +kernel
theorem d_L_law_274 : decode b_L_law 274 = .ok (.aload_n 0, 1) := by decide +kernel
theorem d_L_law_275 : decode b_L_law 275 = .ok (.iload_n 3, 1) := by decide +kernel
theorem d_L_law_276 : decode b_L_law 276 = .ok (.iconst 4, 1) := by decide +kernel
theorem d_L_law_277 : decode b_L_law 277 = .ok (.iadd, 1) := by decide +kernel
theorem d_L_law_278 : decode b_L_law 278 = .ok (.iaload, 1) := by decide +kernel
theorem d_L_law_279 : decode b_L_law 279 = .ok (.i2l, 1) := by decide +kernel
theorem d_L_law_280 : decode b_L_law 280 = .ok (.ldc2_w 13, 3) := by decide +kernel
theorem d_L_law_283 : decode b_L_law 283 = .ok (.land, 1) := by decide +kernel
theorem d_L_law_284 : decode b_L_law 284 = .ok (.lor, 1) := by decide +kernel
theorem d_L_law_285 : decode b_L_law 285 = .ok (.invokevirtual 25, 3) := by decide +kernel
theorem d_L_law_288 : decode b_L_law 288 = .ok (.pop, 1) := by decide +kernel
theorem d_L_law_289 : decode b_L_law 289 = .ok (.aload_n 2, 1) := by decide +kernel
theorem d_L_law_290 : decode b_L_law 290 = .ok (.aload_n 0, 1) := by decide +kernel
theorem d_L_law_291 : decode b_L_law 291 = .ok (.iload_n 3, 1) := by decide +kernel
theorem d_L_law_292 : decode b_L_law 292 = .ok (.iconst 1, 1) := by decide +kernel
theorem d_L_law_293 : decode b_L_law 293 = .ok (.iadd, 1) := by decide +kernel
theorem d_L_law_294 : decode b_L_law 294 = .ok (.iaload, 1) := by decide +kernel
theorem d_L_law_295 : decode b_L_law 295 = .ok (.aload_n 0, 1) := by decide +kernel
theorem d_L_law_296 : decode b_L_law 296 = .ok (.iload_n 3, 1) := by decide +kernel
theorem d_L_law_297 : decode b_L_law 297 = .ok (.iconst 2, 1) := by decide +kernel
theorem d_L_law_298 : decode b_L_law 298 = .ok (.iadd, 1) := by decide +kernel
theorem d_L_law_299 : decode b_L_law 299 = .ok (.iaload, 1) := by decide +kernel
theorem d_L_law_300 : decode b_L_law 300 = .ok (.ifCond .eq 7, 3) := by decide +kernel
theorem d_L_law_303 : decode b_L_law 303 = .ok (.iconst 1, 1) := by decide +kernel
theorem d_L_law_304 : decode b_L_law 304 = .ok (.goto 4, 3) := by decide +kernel
theorem d_L_law_307 : decode b_L_law 307 = .ok (.iconst 0, 1) := by decide +kernel
theorem d_L_law_308 : decode b_L_law 308 = .ok (.aload_n 0, 1) := by decide +kernel
theorem d_L_law_309 : decode b_L_law 309 = .ok (.iload_n 3, 1) := by decide +kernel
theorem d_L_law_310 : decode b_L_law 310 = .ok (.iconst 3, 1) := by decide +kernel
theorem d_L_law_311 : decode b_L_law 311 = .ok (.iadd, 1) := by decide +kernel
theorem d_L_law_312 : decode b_L_law 312 = .ok (.iaload, 1) := by decide +kernel
theorem d_L_law_313 : decode b_L_law 313 = .ok (.i2l, 1) := by decide +kernel
theorem d_L_law_314 : decode b_L_law 314 = .ok (.bipush 32, 2) := by decide +kernel
theorem d_L_law_316 : decode b_L_law 316 = .ok (.lshl, 1) := by decide +kernel
theorem d_L_law_317 : decode b_L_law 317 = .ok (.aload_n 0, 1) := by decide +kernel
theorem d_L_law_318 : decode b_L_law 318 = .ok (.iload_n 3, 1) := by decide +kernel
theorem d_L_law_319 : decode b_L_law 319 = .ok (.iconst 4, 1) := by decide +kernel
theorem d_L_law_320 : decode b_L_law 320 = .ok (.iadd, 1) := by decide +kernel
theorem d_L_law_321 : decode b_L_law 321 = .ok (.iaload, 1) := by decide +kernel
theorem d_L_law_322 : decode b_L_law 322 = .ok (.i2l, 1) := by decide +kernel
theorem d_L_law_323 : decode b_L_law 323 = .ok (.ldc2_w 13, 3) := by decide +kernel
theorem d_L_law_326 : decode b_L_law 326 = .ok (.land, 1) := by decide +kernel
theorem d_L_law_327 : decode b_L_law 327 = .ok (.lor, 1) := by decide +kernel
theorem d_L_law_328 : decode b_L_law 328 = .ok (.invokevirtual 29, 3) := by decide +kernel
theorem d_L_law_331 : decode b_L_law 331 = .ok (.pop, 1) := by decide +kernel
theorem d_L_law_332 : decode b_L_law 332 = .ok (.goto 329, 3) := by decide +kernel
theorem d_L_law_335 : decode b_L_law 335 = .ok (.aload_n 1, 1) := by decide +kernel
theorem d_L_law_336 : decode b_L_law 336 = .ok (.aload_n 0, 1) := by decide +kernel
theorem d_L_law_337 : decode b_L_law 337 = .ok (.iload_n 3, 1) := by decide +kernel
theorem d_L_law_338 : decode b_L_law 338 = .ok (.iconst 1, 1) := by decide +kernel
theorem d_L_law_339 : decode b_L_law 339 = .ok (.iadd, 1) := by decide +kernel
theorem d_L_law_340 : decode b_L_law 340 = .ok (.iaload, 1) := by decide +kernel
theorem d_L_law_341 : decode b_L_law 341 = .ok (.aload_n 0, 1) := by decide +kernel
theorem d_L_law_342 : decode b_L_law 342 = .ok (.iload_n 3, 1) := by decide +kernel
theorem d_L_law_343 : decode b_L_law 343 = .ok (.iconst 2, 1) := by decide +kernel
theorem d_L_law_344 : decode b_L_law 344 = .ok (.iadd, 1) := by decide +kernel
theorem d_L_law_345 : decode b_L_law 345 = .ok (.iaload, 1) := by decide +kernel
theorem d_L_law_346 : decode b_L_law 346 = .ok (.invokevirtual 30, 3) := by decide +kernel
theorem d_L_law_349 : decode b_L_law 349 = .ok (.pop, 1) := by decide +kernel
theorem d_L_law_350 : decode b_L_law 350 = .ok (.aload_n 2, 1) := by decide +kernel
theorem d_L_law_351 : decode b_L_law 351 = .ok (.aload_n 0, 1) := by decide +kernel
theorem d_L_law_352 : decode b_L_law 352 = .ok (.iload_n 3, 1) := by decide +kernel
theorem d_L_law_353 : decode b_L_law 353 = .ok (.iconst 1, 1) := by decide +kernel
theorem d_L_law_354 : decode b_L_law 354 = .ok (.iadd, 1) := by decide +kernel
theorem d_L_law_355 : decode b_L_law 355 = .ok (.iaload, 1) := by decide +kernel
theorem d_L_law_356 : decode b_L_law 356 = .ok (.aload_n 0, 1) := by decide +kernel
theorem d_L_law_357 : decode b_L_law 357 = .ok (.iload_n 3, 1) := by decide +kernel
theorem d_L_law_358 : decode b_L_law 358 = .ok (.iconst 2, 1) := by decide +kernel
theorem d_L_law_359 : decode b_L_law 359 = .ok (.iadd, 1) := by decide +kernel
theorem d_L_law_360 : decode b_L_law 360 = .ok (.iaload, 1) := by decide +kernel
theorem d_L_law_361 : decode b_L_law 361 = .ok (.invokevirtual 34, 3) := by decide +kernel
theorem d_L_law_364 : decode b_L_law 364 = .ok (.pop, 1) := by decide +kernel
theorem d_L_law_365 : decode b_L_law 365 = .ok (.goto 296, 3) := by decide +kernel
theorem d_L_law_368 : decode b_L_law 368 = .ok (.aload_n 1, 1) := by decide +kernel
theorem d_L_law_369 : decode b_L_law 369 = .ok (.aload_n 0, 1) := by decide +kernel
theorem d_L_law_370 : decode b_L_law 370 = .ok (.iload_n 3, 1) := by decide +kernel
theorem d_L_law_371 : decode b_L_law 371 = .ok (.iconst 1, 1) := by decide +kernel
theorem d_L_law_372 : decode b_L_law 372 = .ok (.iadd, 1) := by decide +kernel
theorem d_L_law_373 : decode b_L_law 373 = .ok (.iaload, 1) := by decide +kernel
theorem d_L_law_374 : decode b_L_law 374 = .ok (.invokevirtual 35, 3) := by decide +kernel
theorem d_L_law_377 : decode b_L_law 377 = .ok (.pop, 1) := by decide +kernel
theorem d_L_law_378 : decode b_L_law 378 = .ok (.aload_n 2, 1) := by decide +kernel
theorem d_L_law_379 : decode b_L_law 379 = .ok (.aload_n 0, 1) := by decide +kernel
theorem d_L_law_380 : decode b_L_law 380 = .ok (.iload_n 3, 1) := by decide +kernel
theorem d_L_law_381 : decode b_L_law 381 = .ok (.iconst 1, 1) := by decide +kernel
theorem d_L_law_382 : decode b_L_law 382 = .ok (.iadd, 1) := by decide +kernel
theorem d_L_law_383 : decode b_L_law 383 = .ok (.iaload, 1) := by decide +kernel
theorem d_L_law_384 : decode b_L_law 384 = .ok (.invokevirtual 39, 3) := by decide +kernel
theorem d_L_law_387 : decode b_L_law 387 = .ok (.pop, 1) := by decide +kernel
theorem d_L_law_388 : decode b_L_law 388 = .ok (.goto 273, 3) := by decide +kernel
theorem d_L_law_391 : decode b_L_law 391 = .ok (.aload_n 1, 1) := by decide +kernel
theorem d_L_law_392 : decode b_L_law 392 = .ok (.aload_n 0, 1) := by decide +kernel
theorem d_L_law_393 : decode b_L_law 393 = .ok (.iload_n 3, 1) := by decide +kernel
theorem d_L_law_394 : decode b_L_law 394 = .ok (.iconst 1, 1) := by decide +kernel
theorem d_L_law_395 : decode b_L_law 395 = .ok (.iadd, 1) := by decide +kernel
theorem d_L_law_396 : decode b_L_law 396 = .ok (.iaload, 1) := by decide +kernel
theorem d_L_law_397 : decode b_L_law 397 = .ok (.aload_n 0, 1) := by decide +kernel
theorem d_L_law_398 : decode b_L_law 398 = .ok (.iload_n 3, 1) := by decide +kernel
theorem d_L_law_399 : decode b_L_law 399 = .ok (.iconst 2, 1) := by decide +kernel
theorem d_L_law_400 : decode b_L_law 400 = .ok (.iadd, 1) := by decide +kernel
theorem d_L_law_401 : decode b_L_law 401 = .ok (.iaload, 1) := by decide +kernel
theorem d_L_law_402 : decode b_L_law 402 = .ok (.invokevirtual 40, 3) := by decide +kernel
theorem d_L_law_405 : decode b_L_law 405 = .ok (.aload_n 2, 1) := by decide +kernel
theorem d_L_law_406 : decode b_L_law 406 = .ok (.aload_n 0, 1) := by decide +kernel
theorem d_L_law_407 : decode b_L_law 407 = .ok (.iload_n 3, 1) := by decide +kernel
theorem d_L_law_408 : decode b_L_law 408 = .ok (.iconst 1, 1) := by decide +kernel
theorem d_L_law_409 : decode b_L_law 409 = .ok (.iadd, 1) := by decide +kernel
theorem d_L_law_410 : decode b_L_law 410 = .ok (.iaload, 1) := by decide +kernel
theorem d_L_law_411 : decode b_L_law 411 = .ok (.aload_n 0, 1) := by decide +kernel
theorem d_L_law_412 : decode b_L_law 412 = .ok (.iload_n 3, 1) := by decide +kernel
theorem d_L_law_413 : decode b_L_law 413 = .ok (.iconst 2, 1) := by decide +kernel
theorem d_L_law_414 : decode b_L_law 414 = .ok (.iadd, 1) := by decide +kernel
theorem d_L_law_415 : decode b_L_law 415 = .ok (.iaload, 1) := by decide +kernel
theorem d_L_law_416 : decode b_L_law 416 = .ok (.invokevirtual 43, 3) := by decide +kernel
theorem d_L_law_419 : decode b_L_law 419 = .ok (.if_icmp .eq 242, 3) := by decide +kernel
theorem d_L_law_422 : decode b_L_law 422 = .ok (.iconst 0, 1) := by decide +kernel
theorem d_L_law_423 : decode b_L_law 423 = .ok (.ireturn, 1) := by decide +kernel
theorem d_L_law_424 : decode b_L_law 424 = .ok (.aload_n 1, 1) := by decide +kernel
theorem d_L_law_425 : decode b_L_law 425 = .ok (.aload_n 0, 1) := by decide +kernel
theorem d_L_law_426 : decode b_L_law 426 = .ok (.iload_n 3, 1) := by decide +kernel
theorem d_L_law_427 : decode b_L_law 427 = .ok (.iconst 1, 1) := by decide +kernel
theorem d_L_law_428 : decode b_L_law 428 = .ok (.iadd, 1) := by decide +kernel
theorem d_L_law_429 : decode b_L_law 429 = .ok (.iaload, 1) := by decide +kernel
theorem d_L_law_430 : decode b_L_law 430 = .ok (.invokevirtual 44, 3) := by decide +kernel
theorem d_L_law_433 : decode b_L_law 433 = .ok (.pop, 1) := by decide +kernel
theorem d_L_law_434 : decode b_L_law 434 = .ok (.aload_n 2, 1) := by decide +kernel
theorem d_L_law_435 : decode b_L_law 435 = .ok (.aload_n 0, 1) := by decide +kernel
theorem d_L_law_436 : decode b_L_law 436 = .ok (.iload_n 3, 1) := by decide +kernel
theorem d_L_law_437 : decode b_L_law 437 = .ok (.iconst 1, 1) := by decide +kernel
theorem d_L_law_438 : decode b_L_law 438 = .ok (.iadd, 1) := by decide +kernel
theorem d_L_law_439 : decode b_L_law 439 = .ok (.iaload, 1) := by decide +kernel
theorem d_L_law_440 : decode b_L_law 440 = .ok (.invokevirtual 47, 3) := by decide +kernel
theorem d_L_law_443 : decode b_L_law 443 = .ok (.pop, 1) := by decide +kernel
theorem d_L_law_444 : decode b_L_law 444 = .ok (.goto 217, 3) := by decide +kernel
theorem d_L_law_447 : decode b_L_law 447 = .ok (.aload_n 1, 1) := by decide +kernel
theorem d_L_law_448 : decode b_L_law 448 = .ok (.aload_n 0, 1) := by decide +kernel
theorem d_L_law_449 : decode b_L_law 449 = .ok (.iload_n 3, 1) := by decide +kernel
theorem d_L_law_450 : decode b_L_law 450 = .ok (.iconst 1, 1) := by decide +kernel
theorem d_L_law_451 : decode b_L_law 451 = .ok (.iadd, 1) := by decide +kernel
theorem d_L_law_452 : decode b_L_law 452 = .ok (.iaload, 1) := by decide +kernel
theorem d_L_law_453 : decode b_L_law 453 = .ok (.invokevirtual 48, 3) := by decide +kernel
theorem d_L_law_456 : decode b_L_law 456 = .ok (.pop, 1) := by decide +kernel
theorem d_L_law_457 : decode b_L_law 457 = .ok (.aload_n 2, 1) := by decide +kernel
theorem d_L_law_458 : decode b_L_law 458 = .ok (.aload_n 0, 1) := by decide +kernel
theorem d_L_law_459 : decode b_L_law 459 = .ok (.iload_n 3, 1) := by decide +kernel
theorem d_L_law_460 : decode b_L_law 460 = .ok (.iconst 1, 1) := by decide +kernel
theorem d_L_law_461 : decode b_L_law 461 = .ok (.iadd, 1) := by decide +kernel
theorem d_L_law_462 : decode b_L_law 462 = .ok (.iaload, 1) := by decide +kernel
theorem d_L_law_463 : decode b_L_law 463 = .ok (.invokevirtual 51, 3) := by decide +kernel
theorem d_L_law_466 : decode b_L_law 466 = .ok (.pop, 1) := by decide +kernel
theorem d_L_law_467 : decode b_L_law 467 = .ok (.goto 194, 3) := by decide +kernel
theorem d_L_law_470 : decode b_L_law 470 = .ok (.aload_n 1, 1) := by decide +kernel
theorem d_L_law_471 : decode b_L_law 471 = .ok (.aload_n 0, 1) := by decide +kernel
theorem d_L_law_472 : decode b_L_law 472 = .ok (.iload_n 3, 1) := by decide +kernel
theorem d_L_law_473 : decode b_L_law 473 = .ok (.iconst 1, 1) := by decide +kernel
theorem d_L_law_474 : decode b_L_law 474 = .ok (.iadd, 1) := by decide +kernel
theorem d_L_law_475 : decode b_L_law 475 = .ok (.iaload, 1) := by decide +kernel
theorem d_L_law_476 : decode b_L_law 476 = .ok (.aload_n 0, 1) := by decide +kernel
theorem d_L_law_477 : decode b_L_law 477 = .ok (.iload_n 3, 1) := by decide +kernel
theorem d_L_law_478 : decode b_L_law 478 = .ok (.iconst 2, 1) := by decide +kernel
theorem d_L_law_479 : decode b_L_law 479 = .ok (.iadd, 1) := by decide +kernel
theorem d_L_law_480 : decode b_L_law 480 = .ok (.iaload, 1) := by decide +kernel
theorem d_L_law_481 : decode b_L_law 481 = .ok (.aload_n 0, 1) := by decide +kernel
theorem d_L_law_482 : decode b_L_law 482 = .ok (.iload_n 3, 1) := by decide +kernel
theorem d_L_law_483 : decode b_L_law 483 = .ok (.iconst 3, 1) := by decide +kernel
theorem d_L_law_484 : decode b_L_law 484 = .ok (.iadd, 1) := by decide +kernel
theorem d_L_law_485 : decode b_L_law 485 = .ok (.iaload, 1) := by decide +kernel
theorem d_L_law_486 : decode b_L_law 486 = .ok (.ifCond .eq 7, 3) := by decide +kernel
theorem d_L_law_489 : decode b_L_law 489 = .ok (.iconst 1, 1) := by decide +kernel
theorem d_L_law_490 : decode b_L_law 490 = .ok (.goto 4, 3) := by decide +kernel
theorem d_L_law_493 : decode b_L_law 493 = .ok (.iconst 0, 1) := by decide +kernel
theorem d_L_law_494 : decode b_L_law 494 = .ok (.invokevirtual 52, 3) := by decide +kernel
theorem d_L_law_497 : decode b_L_law 497 = .ok (.pop, 1) := by decide +kernel
theorem d_L_law_498 : decode b_L_law 498 = .ok (.aload_n 2, 1) := by decide +kernel
theorem d_L_law_499 : decode b_L_law 499 = .ok (.aload_n 0, 1) := by decide +kernel
theorem d_L_law_500 : decode b_L_law 500 = .ok (.iload_n 3, 1) := by decide +kernel
theorem d_L_law_501 : decode b_L_law 501 = .ok (.iconst 1, 1) := by decide +kernel
theorem d_L_law_502 : decode b_L_law 502 = .ok (.iadd, 1) := by decide +kernel
theorem d_L_law_503 : decode b_L_law 503 = .ok (.iaload, 1) := by decide +kernel
theorem d_L_law_504 : decode b_L_law 504 = .ok (.aload_n 0, 1) := by decide +kernel
theorem d_L_law_505 : decode b_L_law 505 = .ok (.iload_n 3, 1) := by decide +kernel
theorem d_L_law_506 : decode b_L_law 506 = .ok (.iconst 2, 1) := by decide +kernel
theorem d_L_law_507 : decode b_L_law 507 = .ok (.iadd, 1) := by decide +kernel
theorem d_L_law_508 : decode b_L_law 508 = .ok (.iaload, 1) := by decide +kernel
theorem d_L_law_509 : decode b_L_law 509 = .ok (.aload_n 0, 1) := by decide +kernel
theorem d_L_law_510 : decode b_L_law 510 = .ok (.iload_n 3, 1) := by decide +kernel
theorem d_L_law_511 : decode b_L_law 511 = .ok (.iconst 3, 1) := by decide +kernel
theorem d_L_law_512 : decode b_L_law 512 = .ok (.iadd, 1) := by decide +kernel
theorem d_L_law_513 : decode b_L_law 513 = .ok (.iaload, 1) := by decide +kernel
theorem d_L_law_514 : decode b_L_law 514 = .ok (.ifCond .eq 7, 3) := by decide +kernel
theorem d_L_law_517 : decode b_L_law 517 = .ok (.iconst 1, 1) := by decide +kernel
theorem d_L_law_518 : decode b_L_law 518 = .ok (.goto 4, 3) := by decide +kernel
theorem d_L_law_521 : decode b_L_law 521 = .ok (.iconst 0, 1) := by decide +kernel
theorem d_L_law_522 : decode b_L_law 522 = .ok (.invokevirtual 56, 3) := by decide +kernel
theorem d_L_law_525 : decode b_L_law 525 = .ok (.pop, 1) := by decide +kernel
theorem d_L_law_526 : decode b_L_law 526 = .ok (.goto 135, 3) := by decide +kernel
theorem d_L_law_529 : decode b_L_law 529 = .ok (.aload_n 1, 1) := by decide +kernel
theorem d_L_law_530 : decode b_L_law 530 = .ok (.aload_n 0, 1) := by decide +kernel
theorem d_L_law_531 : decode b_L_law 531 = .ok (.iload_n 3, 1) := by decide +kernel
theorem d_L_law_532 : decode b_L_law 532 = .ok (.iconst 1, 1) := by decide +kernel
theorem d_L_law_533 : decode b_L_law 533 = .ok (.iadd, 1) := by decide +kernel
theorem d_L_law_534 : decode b_L_law 534 = .ok (.iaload, 1) := by decide +kernel
theorem d_L_law_535 : decode b_L_law 535 = .ok (.aload_n 0, 1) := by decide +kernel
theorem d_L_law_536 : decode b_L_law 536 = .ok (.iload_n 3, 1) := by decide +kernel
theorem d_L_law_537 : decode b_L_law 537 = .ok (.iconst 2, 1) := by decide +kernel
theorem d_L_law_538 : decode b_L_law 538 = .ok (.iadd, 1) := by decide +kernel
theorem d_L_law_539 : decode b_L_law 539 = .ok (.iaload, 1) := by decide +kernel
theorem d_L_law_540 : decode b_L_law 540 = .ok (.i2l, 1) := by decide +kernel
theorem d_L_law_541 : decode b_L_law 541 = .ok (.bipush 32, 2) := by decide +kernel
theorem d_L_law_543 : decode b_L_law 543 = .ok (.lshl, 1) := by decide +kernel
theorem d_L_law_544 : decode b_L_law 544 = .ok (.aload_n 0, 1) := by decide +kernel
theorem d_L_law_545 : decode b_L_law 545 = .ok (.iload_n 3, 1) := by decide +kernel
theorem d_L_law_546 : decode b_L_law 546 = .ok (.iconst 3, 1) := by decide +kernel
theorem d_L_law_547 : decode b_L_law 547 = .ok (.iadd, 1) := by decide +kernel
theorem d_L_law_548 : decode b_L_law 548 = .ok (.iaload, 1) := by decide +kernel
theorem d_L_law_549 : decode b_L_law 549 = .ok (.i2l, 1) := by decide +kernel
theorem d_L_law_550 : decode b_L_law 550 = .ok (.ldc2_w 13, 3) := by decide +kernel
theorem d_L_law_553 : decode b_L_law 553 = .ok (.land, 1) := by decide +kernel
theorem d_L_law_554 : decode b_L_law 554 = .ok (.lor, 1) := by decide +kernel
theorem d_L_law_555 : decode b_L_law 555 = .ok (.invokevirtual 57, 3) := by decide +kernel
theorem d_L_law_558 : decode b_L_law 558 = .ok (.pop, 1) := by decide +kernel
theorem d_L_law_559 : decode b_L_law 559 = .ok (.aload_n 2, 1) := by decide +kernel
theorem d_L_law_560 : decode b_L_law 560 = .ok (.aload_n 0, 1) := by decide +kernel
theorem d_L_law_561 : decode b_L_law 561 = .ok (.iload_n 3, 1) := by decide +kernel
theorem d_L_law_562 : decode b_L_law 562 = .ok (.iconst 1, 1) := by decide +kernel
theorem d_L_law_563 : decode b_L_law 563 = .ok (.iadd, 1) := by decide +kernel
theorem d_L_law_564 : decode b_L_law 564 = .ok (.iaload, 1) := by decide +kernel
theorem d_L_law_565 : decode b_L_law 565 = .ok (.aload_n 0, 1) := by decide +kernel
theorem d_L_law_566 : decode b_L_law 566 = .ok (.iload_n 3, 1) := by decide +kernel
theorem d_L_law_567 : decode b_L_law 567 = .ok (.iconst 2, 1) := by decide +kernel
theorem d_L_law_568 : decode b_L_law 568 = .ok (.iadd, 1) := by decide +kernel
theorem d_L_law_569 : decode b_L_law 569 = .ok (.iaload, 1) := by decide +kernel
theorem d_L_law_570 : decode b_L_law 570 = .ok (.i2l, 1) := by decide +kernel
theorem d_L_law_571 : decode b_L_law 571 = .ok (.bipush 32, 2) := by decide +kernel
theorem d_L_law_573 : decode b_L_law 573 = .ok (.lshl, 1) := by decide +kernel
theorem d_L_law_574 : decode b_L_law 574 = .ok (.aload_n 0, 1) := by decide +kernel
theorem d_L_law_575 : decode b_L_law 575 = .ok (.iload_n 3, 1) := by decide +kernel
theorem d_L_law_576 : decode b_L_law 576 = .ok (.iconst 3, 1) := by decide +kernel
theorem d_L_law_577 : decode b_L_law 577 = .ok (.iadd, 1) := by decide +kernel
theorem d_L_law_578 : decode b_L_law 578 = .ok (.iaload, 1) := by decide +kernel
theorem d_L_law_579 : decode b_L_law 579 = .ok (.i2l, 1) := by decide +kernel
theorem d_L_law_580 : decode b_L_law 580 = .ok (.ldc2_w 13, 3) := by decide +kernel
theorem d_L_law_583 : decode b_L_law 583 = .ok (.land, 1) := by decide +kernel
theorem d_L_law_584 : decode b_L_law 584 = .ok (.lor, 1) := by decide +kernel
theorem d_L_law_585 : decode b_L_law 585 = .ok (.invokevirtual 61, 3) := by decide +kernel
theorem d_L_law_588 : decode b_L_law 588 = .ok (.pop, 1) := by decide +kernel
theorem d_L_law_589 : decode b_L_law 589 = .ok (.goto 72, 3) := by decide +kernel
theorem d_L_law_592 : decode b_L_law 592 = .ok (.aload_n 1, 1) := by decide +kernel
theorem d_L_law_593 : decode b_L_law 593 = .ok (.aload_n 0, 1) := by decide +kernel
theorem d_L_law_594 : decode b_L_law 594 = .ok (.iload_n 3, 1) := by decide +kernel
theorem d_L_law_595 : decode b_L_law 595 = .ok (.iconst 1, 1) := by decide +kernel
theorem d_L_law_596 : decode b_L_law 596 = .ok (.iadd, 1) := by decide +kernel
theorem d_L_law_597 : decode b_L_law 597 = .ok (.iaload, 1) := by decide +kernel
theorem d_L_law_598 : decode b_L_law 598 = .ok (.aload_n 0, 1) := by decide +kernel
theorem d_L_law_599 : decode b_L_law 599 = .ok (.iload_n 3, 1) := by decide +kernel
theorem d_L_law_600 : decode b_L_law 600 = .ok (.iconst 2, 1) := by decide +kernel
theorem d_L_law_601 : decode b_L_law 601 = .ok (.iadd, 1) := by decide +kernel
theorem d_L_law_602 : decode b_L_law 602 = .ok (.iaload, 1) := by decide +kernel
theorem d_L_law_603 : decode b_L_law 603 = .ok (.invokevirtual 62, 3) := by decide +kernel
theorem d_L_law_606 : decode b_L_law 606 = .ok (.pop, 1) := by decide +kernel
theorem d_L_law_607 : decode b_L_law 607 = .ok (.aload_n 2, 1) := by decide +kernel
theorem d_L_law_608 : decode b_L_law 608 = .ok (.aload_n 0, 1) := by decide +kernel
theorem d_L_law_609 : decode b_L_law 609 = .ok (.iload_n 3, 1) := by decide +kernel
theorem d_L_law_610 : decode b_L_law 610 = .ok (.iconst 1, 1) := by decide +kernel
theorem d_L_law_611 : decode b_L_law 611 = .ok (.iadd, 1) := by decide +kernel
theorem d_L_law_612 : decode b_L_law 612 = .ok (.iaload, 1) := by decide +kernel
theorem d_L_law_613 : decode b_L_law 613 = .ok (.aload_n 0, 1) := by decide +kernel
theorem d_L_law_614 : decode b_L_law 614 = .ok (.iload_n 3, 1) := by decide +kernel
theorem d_L_law_615 : decode b_L_law 615 = .ok (.iconst 2, 1) := by decide +kernel
theorem d_L_law_616 : decode b_L_law 616 = .ok (.iadd, 1) := by decide +kernel
theorem d_L_law_617 : decode b_L_law 617 = .ok (.iaload, 1) := by decide +kernel
theorem d_L_law_618 : decode b_L_law 618 = .ok (.invokevirtual 65, 3) := by decide +kernel
theorem d_L_law_621 : decode b_L_law 621 = .ok (.pop, 1) := by decide +kernel
theorem d_L_law_622 : decode b_L_law 622 = .ok (.goto 39, 3) := by decide +kernel
theorem d_L_law_625 : decode b_L_law 625 = .ok (.aload_n 1, 1) := by decide +kernel
theorem d_L_law_626 : decode b_L_law 626 = .ok (.aload_n 0, 1) := by decide +kernel
theorem d_L_law_627 : decode b_L_law 627 = .ok (.iload_n 3, 1) := by decide +kernel
theorem d_L_law_628 : decode b_L_law 628 = .ok (.iconst 1, 1) := by decide +kernel
theorem d_L_law_629 : decode b_L_law 629 = .ok (.iadd, 1) := by decide +kernel
theorem d_L_law_630 : decode b_L_law 630 = .ok (.iaload, 1) := by decide +kernel
theorem d_L_law_631 : decode b_L_law 631 = .ok (.invokevirtual 66, 3) := by decide +kernel
theorem d_L_law_634 : decode b_L_law 634 = .ok (.pop, 1) := by decide +kernel
theorem d_L_law_635 : decode b_L_law 635 = .ok (.aload_n 2, 1) := by decide +kernel
theorem d_L_law_636 : decode b_L_law 636 = .ok (.aload_n 0, 1) := by decide +kernel
theorem d_L_law_637 : decode b_L_law 637 = .ok (.iload_n 3, 1) := by decide +kernel
theorem d_L_law_638 : decode b_L_law 638 = .ok (.iconst 1, 1) := by decide +kernel
theorem d_L_law_639 : decode b_L_law 639 = .ok (.iadd, 1) := by decide +kernel
theorem d_L_law_640 : decode b_L_law 640 = .ok (.iaload, 1) := by decide +kernel
theorem d_L_law_641 : decode b_L_law 641 = .ok (.invokevirtual 69, 3) := by decide +kernel
theorem d_L_law_644 : decode b_L_law 644 = .ok (.pop, 1) := by decide +kernel
theorem d_L_law_645 : decode b_L_law 645 = .ok (.goto 16, 3) := by decide +kernel
theorem d_L_law_648 : decode b_L_law 648 = .ok (.aload_n 1, 1) := by decide +kernel
theorem d_L_law_649 : decode b_L_law 649 = .ok (.invokevirtual 70, 3) := by decide +kernel
theorem d_L_law_652 : decode b_L_law 652 = .ok (.pop, 1) := by decide +kernel
theorem d_L_law_653 : decode b_L_law 653 = .ok (.aload_n 2, 1) := by decide +kernel
theorem d_L_law_654 : decode b_L_law 654 = .ok (.invokevirtual 74, 3) := by decide +kernel
theorem d_L_law_657 : decode b_L_law 657 = .ok (.pop, 1) := by decide +kernel
theorem d_L_law_658 : decode b_L_law 658 = .ok (.goto 3, 3) := by decide +kernel
theorem d_L_law_661 : decode b_L_law 661 = .ok (.iinc 3 5, 3) := by decide +kernel
theorem d_L_law_664 : decode b_L_law 664 = .ok (.goto (-646), 3) := by decide +kernel
theorem d_L_law_667 : decode b_L_law 667 = .ok (.iconst 1, 1) := by decide +kernel
theorem d_L_law_668 : decode b_L_law 668 = .ok (.ireturn, 1) := by decide +kernel
