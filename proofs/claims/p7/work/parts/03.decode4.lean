theorem d_M_isIn_0 : decode b_M_isIn 0 = .ok (.lload_n 0, 1) := by decide +kernel
theorem d_M_isIn_1 : decode b_M_isIn 1 = .ok (.lload_n 2, 1) := by decide +kernel
theorem d_M_isIn_2 : decode b_M_isIn 2 = .ok (.lcmp, 1) := by decide +kernel
theorem d_M_isIn_3 : decode b_M_isIn 3 = .ok (.ifCond .lt 14, 3) := by decide +kernel
theorem d_M_isIn_6 : decode b_M_isIn 6 = .ok (.lload_n 0, 1) := by decide +kernel
theorem d_M_isIn_7 : decode b_M_isIn 7 = .ok (.lload 4, 2) := by decide +kernel
theorem d_M_isIn_9 : decode b_M_isIn 9 = .ok (.lcmp, 1) := by decide +kernel
theorem d_M_isIn_10 : decode b_M_isIn 10 = .ok (.ifCond .gt 7, 3) := by decide +kernel
theorem d_M_isIn_13 : decode b_M_isIn 13 = .ok (.iconst 1, 1) := by decide +kernel
theorem d_M_isIn_14 : decode b_M_isIn 14 = .ok (.goto 4, 3) := by decide +kernel
theorem d_M_isIn_17 : decode b_M_isIn 17 = .ok (.iconst 0, 1) := by decide +kernel
theorem d_M_isIn_18 : decode b_M_isIn 18 = .ok (.ireturn, 1) := by decide +kernel
theorem d_M_noSensor_0 : decode b_M_noSensor 0 = .ok (.iload_n 1, 1) := by decide +kernel
theorem d_M_noSensor_1 : decode b_M_noSensor 1 = .ok (.ifCond .lt 11, 3) := by decide +kernel
theorem d_M_noSensor_4 : decode b_M_noSensor 4 = .ok (.iload_n 1, 1) := by decide +kernel
theorem d_M_noSensor_5 : decode b_M_noSensor 5 = .ok (.aload_n 0, 1) := by decide +kernel
theorem d_M_noSensor_6 : decode b_M_noSensor 6 = .ok (.getfield 93, 3) := by decide +kernel
theorem d_M_noSensor_9 : decode b_M_noSensor 9 = .ok (.if_icmp .lt 7, 3) := by decide +kernel
theorem d_M_noSensor_12 : decode b_M_noSensor 12 = .ok (.iconst 1, 1) := by decide +kernel
theorem d_M_noSensor_13 : decode b_M_noSensor 13 = .ok (.goto 4, 3) := by decide +kernel
theorem d_M_noSensor_16 : decode b_M_noSensor 16 = .ok (.iconst 0, 1) := by decide +kernel
theorem d_M_noSensor_17 : decode b_M_noSensor 17 = .ok (.ireturn, 1) := by decide +kernel
theorem d_M_stands_0 : decode b_M_stands 0 = .ok (.iconst 0, 1) := by decide +kernel
theorem d_M_stands_1 : decode b_M_stands 1 = .ok (.istore_n 1, 1) := by decide +kernel
theorem d_M_stands_2 : decode b_M_stands 2 = .ok (.iconst 0, 1) := by decide +kernel
theorem d_M_stands_3 : decode b_M_stands 3 = .ok (.istore_n 2, 1) := by decide +kernel
theorem d_M_stands_4 : decode b_M_stands 4 = .ok (.iconst 1, 1) := by decide +kernel
theorem d_M_stands_5 : decode b_M_stands 5 = .ok (.istore_n 3, 1) := by decide +kernel
theorem d_M_stands_6 : decode b_M_stands 6 = .ok (.iload_n 3, 1) := by decide +kernel
theorem d_M_stands_7 : decode b_M_stands 7 = .ok (.aload_n 0, 1) := by decide +kernel
theorem d_M_stands_8 : decode b_M_stands 8 = .ok (.getfield 97, 3) := by decide +kernel
theorem d_M_stands_11 : decode b_M_stands 11 = .ok (.if_icmp .gt 54, 3) := by decide +kernel
theorem d_M_stands_14 : decode b_M_stands 14 = .ok (.aload_n 0, 1) := by decide +kernel
theorem d_M_stands_15 : decode b_M_stands 15 = .ok (.getfield 72, 3) := by decide +kernel
theorem d_M_stands_18 : decode b_M_stands 18 = .ok (.iload_n 3, 1) := by decide +kernel
theorem d_M_stands_19 : decode b_M_stands 19 = .ok (.baload, 1) := by decide +kernel
theorem d_M_stands_20 : decode b_M_stands 20 = .ok (.ifCond .eq 7, 3) := by decide +kernel
theorem d_M_stands_23 : decode b_M_stands 23 = .ok (.iload_n 1, 1) := by decide +kernel
theorem d_M_stands_24 : decode b_M_stands 24 = .ok (.goto 6, 3) := by decide +kernel
theorem d_M_stands_27 : decode b_M_stands 27 = .ok (.iload_n 1, 1) := by decide +kernel
theorem d_M_stands_28 : decode b_M_stands 28 = .ok (.iconst 1, 1) := by decide +kernel
theorem d_M_stands_29 : decode b_M_stands 29 = .ok (.iadd, 1) := by decide +kernel
theorem d_M_stands_30 : decode b_M_stands 30 = .ok (.istore_n 1, 1) := by decide +kernel
theorem d_M_stands_31 : decode b_M_stands 31 = .ok (.iload_n 2, 1) := by decide +kernel
theorem d_M_stands_32 : decode b_M_stands 32 = .ok (.ifCond .ne 21, 3) := by decide +kernel
theorem d_M_stands_35 : decode b_M_stands 35 = .ok (.aload_n 0, 1) := by decide +kernel
theorem d_M_stands_36 : decode b_M_stands 36 = .ok (.getfield 60, 3) := by decide +kernel
theorem d_M_stands_39 : decode b_M_stands 39 = .ok (.iload_n 3, 1) := by decide +kernel
theorem d_M_stands_40 : decode b_M_stands 40 = .ok (.baload, 1) := by decide +kernel
theorem d_M_stands_41 : decode b_M_stands 41 = .ok (.ifCond .eq 16, 3) := by decide +kernel
theorem d_M_stands_44 : decode b_M_stands 44 = .ok (.aload_n 0, 1) := by decide +kernel
theorem d_M_stands_45 : decode b_M_stands 45 = .ok (.getfield 72, 3) := by decide +kernel
theorem d_M_stands_48 : decode b_M_stands 48 = .ok (.iload_n 3, 1) := by decide +kernel
theorem d_M_stands_49 : decode b_M_stands 49 = .ok (.baload, 1) := by decide +kernel
theorem d_M_stands_50 : decode b_M_stands 50 = .ok (.ifCond .ne 7, 3) := by decide +kernel
theorem d_M_stands_53 : decode b_M_stands 53 = .ok (.iconst 1, 1) := by decide +kernel
theorem d_M_stands_54 : decode b_M_stands 54 = .ok (.goto 4, 3) := by decide +kernel
theorem d_M_stands_57 : decode b_M_stands 57 = .ok (.iconst 0, 1) := by decide +kernel
theorem d_M_stands_58 : decode b_M_stands 58 = .ok (.istore_n 2, 1) := by decide +kernel
theorem d_M_stands_59 : decode b_M_stands 59 = .ok (.iinc 3 1, 3) := by decide +kernel
theorem d_M_stands_62 : decode b_M_stands 62 = .ok (.goto (-56), 3) := by decide +kernel
theorem d_M_stands_65 : decode b_M_stands 65 = .ok (.iload_n 2, 1) := by decide +kernel
theorem d_M_stands_66 : decode b_M_stands 66 = .ok (.ifCond .ne 8, 3) := by decide +kernel
theorem d_M_stands_69 : decode b_M_stands 69 = .ok (.iload_n 1, 1) := by decide +kernel
theorem d_M_stands_70 : decode b_M_stands 70 = .ok (.iconst 5, 1) := by decide +kernel
theorem d_M_stands_71 : decode b_M_stands 71 = .ok (.if_icmp .le 7, 3) := by decide +kernel
theorem d_M_stands_74 : decode b_M_stands 74 = .ok (.iconst 1, 1) := by decide +kernel
theorem d_M_stands_75 : decode b_M_stands 75 = .ok (.goto 4, 3) := by decide +kernel
theorem d_M_stands_78 : decode b_M_stands 78 = .ok (.iconst 0, 1) := by decide +kernel
theorem d_M_stands_79 : decode b_M_stands 79 = .ok (.ireturn, 1) := by decide +kernel
theorem d_M_sensor_0 : decode b_M_sensor 0 = .ok (.lload_n 1, 1) := by decide +kernel
theorem d_M_sensor_1 : decode b_M_sensor 1 = .ok (.ldc2_w 100, 3) := by decide +kernel
theorem d_M_sensor_4 : decode b_M_sensor 4 = .ok (.lcmp, 1) := by decide +kernel
theorem d_M_sensor_5 : decode b_M_sensor 5 = .ok (.ifCond .gt 38, 3) := by decide +kernel
theorem d_M_sensor_8 : decode b_M_sensor 8 = .ok (.lload_n 1, 1) := by decide +kernel
theorem d_M_sensor_9 : decode b_M_sensor 9 = .ok (.aload_n 0, 1) := by decide +kernel
theorem d_M_sensor_10 : decode b_M_sensor 10 = .ok (.getfield 93, 3) := by decide +kernel
theorem d_M_sensor_13 : decode b_M_sensor 13 = .ok (.ifCond .ne 7, 3) := by decide +kernel
theorem d_M_sensor_16 : decode b_M_sensor 16 = .ok (.lconst 0, 1) := by decide +kernel
theorem d_M_sensor_17 : decode b_M_sensor 17 = .ok (.goto 14, 3) := by decide +kernel
theorem d_M_sensor_20 : decode b_M_sensor 20 = .ok (.aload_n 0, 1) := by decide +kernel
theorem d_M_sensor_21 : decode b_M_sensor 21 = .ok (.getfield 7, 3) := by decide +kernel
theorem d_M_sensor_24 : decode b_M_sensor 24 = .ok (.aload_n 0, 1) := by decide +kernel
theorem d_M_sensor_25 : decode b_M_sensor 25 = .ok (.getfield 93, 3) := by decide +kernel
theorem d_M_sensor_28 : decode b_M_sensor 28 = .ok (.iconst 1, 1) := by decide +kernel
theorem d_M_sensor_29 : decode b_M_sensor 29 = .ok (.isub, 1) := by decide +kernel
theorem d_M_sensor_30 : decode b_M_sensor 30 = .ok (.laload, 1) := by decide +kernel
theorem d_M_sensor_31 : decode b_M_sensor 31 = .ok (.ldc2_w 102, 3) := by decide +kernel
theorem d_M_sensor_34 : decode b_M_sensor 34 = .ok (.ladd, 1) := by decide +kernel
theorem d_M_sensor_35 : decode b_M_sensor 35 = .ok (.lcmp, 1) := by decide +kernel
theorem d_M_sensor_36 : decode b_M_sensor 36 = .ok (.ifCond .lt 7, 3) := by decide +kernel
theorem d_M_sensor_39 : decode b_M_sensor 39 = .ok (.iconst 1, 1) := by decide +kernel
theorem d_M_sensor_40 : decode b_M_sensor 40 = .ok (.goto 4, 3) := by decide +kernel
theorem d_M_sensor_43 : decode b_M_sensor 43 = .ok (.iconst 0, 1) := by decide +kernel
theorem d_M_sensor_44 : decode b_M_sensor 44 = .ok (.istore_n 3, 1) := by decide +kernel
theorem d_M_sensor_45 : decode b_M_sensor 45 = .ok (.iload_n 3, 1) := by decide +kernel
theorem d_M_sensor_46 : decode b_M_sensor 46 = .ok (.ifCond .ne 6, 3) := by decide +kernel
theorem d_M_sensor_49 : decode b_M_sensor 49 = .ok (.bipush (-12), 2) := by decide +kernel
theorem d_M_sensor_51 : decode b_M_sensor 51 = .ok (.ireturn, 1) := by decide +kernel
theorem d_M_sensor_52 : decode b_M_sensor 52 = .ok (.aload_n 0, 1) := by decide +kernel
theorem d_M_sensor_53 : decode b_M_sensor 53 = .ok (.getfield 104, 3) := by decide +kernel
theorem d_M_sensor_56 : decode b_M_sensor 56 = .ok (.ifCond .le 6, 3) := by decide +kernel
theorem d_M_sensor_59 : decode b_M_sensor 59 = .ok (.bipush (-13), 2) := by decide +kernel
theorem d_M_sensor_61 : decode b_M_sensor 61 = .ok (.ireturn, 1) := by decide +kernel
theorem d_M_sensor_62 : decode b_M_sensor 62 = .ok (.aload_n 0, 1) := by decide +kernel
theorem d_M_sensor_63 : decode b_M_sensor 63 = .ok (.getfield 93, 3) := by decide +kernel
theorem d_M_sensor_66 : decode b_M_sensor 66 = .ok (.bipush 8, 2) := by decide +kernel
theorem d_M_sensor_68 : decode b_M_sensor 68 = .ok (.if_icmp .ne 6, 3) := by decide +kernel
theorem d_M_sensor_71 : decode b_M_sensor 71 = .ok (.bipush (-14), 2) := by decide +kernel
theorem d_M_sensor_73 : decode b_M_sensor 73 = .ok (.ireturn, 1) := by decide +kernel
theorem d_M_sensor_74 : decode b_M_sensor 74 = .ok (.aload_n 0, 1) := by decide +kernel
theorem d_M_sensor_75 : decode b_M_sensor 75 = .ok (.getfield 7, 3) := by decide +kernel
theorem d_M_sensor_78 : decode b_M_sensor 78 = .ok (.aload_n 0, 1) := by decide +kernel
theorem d_M_sensor_79 : decode b_M_sensor 79 = .ok (.getfield 93, 3) := by decide +kernel
theorem d_M_sensor_82 : decode b_M_sensor 82 = .ok (.lload_n 1, 1) := by decide +kernel
theorem d_M_sensor_83 : decode b_M_sensor 83 = .ok (.lastore, 1) := by decide +kernel
theorem d_M_sensor_84 : decode b_M_sensor 84 = .ok (.aload_n 0, 1) := by decide +kernel
theorem d_M_sensor_85 : decode b_M_sensor 85 = .ok (.dup, 1) := by decide +kernel
theorem d_M_sensor_86 : decode b_M_sensor 86 = .ok (.getfield 93, 3) := by decide +kernel
theorem d_M_sensor_89 : decode b_M_sensor 89 = .ok (.iconst 1, 1) := by decide +kernel
theorem d_M_sensor_90 : decode b_M_sensor 90 = .ok (.iadd, 1) := by decide +kernel
theorem d_M_sensor_91 : decode b_M_sensor 91 = .ok (.putfield 93, 3) := by decide +kernel
theorem d_M_sensor_94 : decode b_M_sensor 94 = .ok (.aload_n 0, 1) := by decide +kernel
theorem d_M_sensor_95 : decode b_M_sensor 95 = .ok (.getfield 93, 3) := by decide +kernel
theorem d_M_sensor_98 : decode b_M_sensor 98 = .ok (.iconst 1, 1) := by decide +kernel
theorem d_M_sensor_99 : decode b_M_sensor 99 = .ok (.isub, 1) := by decide +kernel
theorem d_M_sensor_100 : decode b_M_sensor 100 = .ok (.ireturn, 1) := by decide +kernel
theorem d_M_item_0 : decode b_M_item 0 = .ok (.lload_n 1, 1) := by decide +kernel
theorem d_M_item_1 : decode b_M_item 1 = .ok (.ldc2_w 107, 3) := by decide +kernel
theorem d_M_item_4 : decode b_M_item 4 = .ok (.ldc2_w 109, 3) := by decide +kernel
theorem d_M_item_7 : decode b_M_item 7 = .ok (.invokestatic 111, 3) := by decide +kernel
theorem d_M_item_10 : decode b_M_item 10 = .ok (.ifCond .eq 56, 3) := by decide +kernel
theorem d_M_item_13 : decode b_M_item 13 = .ok (.lload_n 3, 1) := by decide +kernel
theorem d_M_item_14 : decode b_M_item 14 = .ok (.aload_n 0, 1) := by decide +kernel
theorem d_M_item_15 : decode b_M_item 15 = .ok (.getfield 115, 3) := by decide +kernel
theorem d_M_item_18 : decode b_M_item 18 = .ok (.ldc2_w 119, 3) := by decide +kernel
theorem d_M_item_21 : decode b_M_item 21 = .ok (.invokestatic 111, 3) := by decide +kernel
theorem d_M_item_24 : decode b_M_item 24 = .ok (.ifCond .eq 42, 3) := by decide +kernel
theorem d_M_item_27 : decode b_M_item 27 = .ok (.aload_n 0, 1) := by decide +kernel
theorem d_M_item_28 : decode b_M_item 28 = .ok (.getfield 104, 3) := by decide +kernel
theorem d_M_item_31 : decode b_M_item 31 = .ok (.ifCond .eq 31, 3) := by decide +kernel
theorem d_M_item_34 : decode b_M_item 34 = .ok (.lload_n 3, 1) := by decide +kernel
theorem d_M_item_35 : decode b_M_item 35 = .ok (.aload_n 0, 1) := by decide +kernel
theorem d_M_item_36 : decode b_M_item 36 = .ok (.getfield 33, 3) := by decide +kernel
theorem d_M_item_39 : decode b_M_item 39 = .ok (.aload_n 0, 1) := by decide +kernel
theorem d_M_item_40 : decode b_M_item 40 = .ok (.getfield 104, 3) := by decide +kernel
theorem d_M_item_43 : decode b_M_item 43 = .ok (.laload, 1) := by decide +kernel
theorem d_M_item_44 : decode b_M_item 44 = .ok (.aload_n 0, 1) := by decide +kernel
theorem d_M_item_45 : decode b_M_item 45 = .ok (.getfield 30, 3) := by decide +kernel
theorem d_M_item_48 : decode b_M_item 48 = .ok (.aload_n 0, 1) := by decide +kernel
theorem d_M_item_49 : decode b_M_item 49 = .ok (.getfield 104, 3) := by decide +kernel
theorem d_M_item_52 : decode b_M_item 52 = .ok (.laload, 1) := by decide +kernel
theorem d_M_item_53 : decode b_M_item 53 = .ok (.ladd, 1) := by decide +kernel
theorem d_M_item_54 : decode b_M_item 54 = .ok (.ldc2_w 121, 3) := by decide +kernel
theorem d_M_item_57 : decode b_M_item 57 = .ok (.ladd, 1) := by decide +kernel
theorem d_M_item_58 : decode b_M_item 58 = .ok (.lcmp, 1) := by decide +kernel
theorem d_M_item_59 : decode b_M_item 59 = .ok (.ifCond .lt 7, 3) := by decide +kernel
theorem d_M_item_62 : decode b_M_item 62 = .ok (.iconst 1, 1) := by decide +kernel
theorem d_M_item_63 : decode b_M_item 63 = .ok (.goto 4, 3) := by decide +kernel
theorem d_M_item_66 : decode b_M_item 66 = .ok (.iconst 0, 1) := by decide +kernel
theorem d_M_item_67 : decode b_M_item 67 = .ok (.istore 5, 2) := by decide +kernel
theorem d_M_item_69 : decode b_M_item 69 = .ok (.iload 5, 2) := by decide +kernel
theorem d_M_item_71 : decode b_M_item 71 = .ok (.ifCond .ne 6, 3) := by decide +kernel
theorem d_M_item_74 : decode b_M_item 74 = .ok (.bipush (-12), 2) := by decide +kernel
theorem d_M_item_76 : decode b_M_item 76 = .ok (.ireturn, 1) := by decide +kernel
theorem d_M_item_77 : decode b_M_item 77 = .ok (.aload_n 0, 1) := by decide +kernel
theorem d_M_item_78 : decode b_M_item 78 = .ok (.invokevirtual 123, 3) := by decide +kernel
theorem d_M_item_81 : decode b_M_item 81 = .ok (.ifCond .ne 10, 3) := by decide +kernel
theorem d_M_item_84 : decode b_M_item 84 = .ok (.aload_n 0, 1) := by decide +kernel
theorem d_M_item_85 : decode b_M_item 85 = .ok (.getfield 93, 3) := by decide +kernel
theorem d_M_item_88 : decode b_M_item 88 = .ok (.ifCond .ne 6, 3) := by decide +kernel
theorem d_M_item_91 : decode b_M_item 91 = .ok (.bipush (-13), 2) := by decide +kernel
theorem d_M_item_93 : decode b_M_item 93 = .ok (.ireturn, 1) := by decide +kernel
theorem d_M_item_94 : decode b_M_item 94 = .ok (.aload_n 0, 1) := by decide +kernel
theorem d_M_item_95 : decode b_M_item 95 = .ok (.getfield 104, 3) := by decide +kernel
theorem d_M_item_98 : decode b_M_item 98 = .ok (.bipush 60, 2) := by decide +kernel
theorem d_M_item_100 : decode b_M_item 100 = .ok (.if_icmp .ne 6, 3) := by decide +kernel
theorem d_M_item_103 : decode b_M_item 103 = .ok (.bipush (-14), 2) := by decide +kernel
theorem d_M_item_105 : decode b_M_item 105 = .ok (.ireturn, 1) := by decide +kernel
theorem d_M_item_106 : decode b_M_item 106 = .ok (.aload_n 0, 1) := by decide +kernel
theorem d_M_item_107 : decode b_M_item 107 = .ok (.dup, 1) := by decide +kernel
theorem d_M_item_108 : decode b_M_item 108 = .ok (.getfield 104, 3) := by decide +kernel
theorem d_M_item_111 : decode b_M_item 111 = .ok (.iconst 1, 1) := by decide +kernel
theorem d_M_item_112 : decode b_M_item 112 = .ok (.iadd, 1) := by decide +kernel
theorem d_M_item_113 : decode b_M_item 113 = .ok (.putfield 104, 3) := by decide +kernel
theorem d_M_item_116 : decode b_M_item 116 = .ok (.aload_n 0, 1) := by decide +kernel
theorem d_M_item_117 : decode b_M_item 117 = .ok (.getfield 30, 3) := by decide +kernel
theorem d_M_item_120 : decode b_M_item 120 = .ok (.aload_n 0, 1) := by decide +kernel
theorem d_M_item_121 : decode b_M_item 121 = .ok (.getfield 104, 3) := by decide +kernel
theorem d_M_item_124 : decode b_M_item 124 = .ok (.lload_n 1, 1) := by decide +kernel
theorem d_M_item_125 : decode b_M_item 125 = .ok (.lastore, 1) := by decide +kernel
theorem d_M_item_126 : decode b_M_item 126 = .ok (.aload_n 0, 1) := by decide +kernel
theorem d_M_item_127 : decode b_M_item 127 = .ok (.getfield 33, 3) := by decide +kernel
theorem d_M_item_130 : decode b_M_item 130 = .ok (.aload_n 0, 1) := by decide +kernel
theorem d_M_item_131 : decode b_M_item 131 = .ok (.getfield 104, 3) := by decide +kernel
theorem d_M_item_134 : decode b_M_item 134 = .ok (.lload_n 3, 1) := by decide +kernel
theorem d_M_item_135 : decode b_M_item 135 = .ok (.lastore, 1) := by decide +kernel
theorem d_M_item_136 : decode b_M_item 136 = .ok (.aload_n 0, 1) := by decide +kernel
theorem d_M_item_137 : decode b_M_item 137 = .ok (.getfield 104, 3) := by decide +kernel
theorem d_M_item_140 : decode b_M_item 140 = .ok (.ireturn, 1) := by decide +kernel
theorem d_M_isSeen_0 : decode b_M_isSeen 0 = .ok (.aload_n 0, 1) := by decide +kernel
theorem d_M_isSeen_1 : decode b_M_isSeen 1 = .ok (.getfield 39, 3) := by decide +kernel
theorem d_M_isSeen_4 : decode b_M_isSeen 4 = .ok (.bipush 8, 2) := by decide +kernel
theorem d_M_isSeen_6 : decode b_M_isSeen 6 = .ok (.iload_n 1, 1) := by decide +kernel
theorem d_M_isSeen_7 : decode b_M_isSeen 7 = .ok (.imul, 1) := by decide +kernel
theorem d_M_isSeen_8 : decode b_M_isSeen 8 = .ok (.iload_n 2, 1) := by decide +kernel
theorem d_M_isSeen_9 : decode b_M_isSeen 9 = .ok (.iadd, 1) := by decide +kernel
theorem d_M_isSeen_10 : decode b_M_isSeen 10 = .ok (.baload, 1) := by decide +kernel
theorem d_M_isSeen_11 : decode b_M_isSeen 11 = .ok (.ireturn, 1) := by decide +kernel
theorem d_M_isDoubt_0 : decode b_M_isDoubt 0 = .ok (.aload_n 0, 1) := by decide +kernel
theorem d_M_isDoubt_1 : decode b_M_isDoubt 1 = .ok (.getfield 36, 3) := by decide +kernel
theorem d_M_isDoubt_4 : decode b_M_isDoubt 4 = .ok (.iload_n 1, 1) := by decide +kernel
theorem d_M_isDoubt_5 : decode b_M_isDoubt 5 = .ok (.iaload, 1) := by decide +kernel
theorem d_M_isDoubt_6 : decode b_M_isDoubt 6 = .ok (.ifCond .eq 5, 3) := by decide +kernel
theorem d_M_isDoubt_9 : decode b_M_isDoubt 9 = .ok (.iconst 0, 1) := by decide +kernel
theorem d_M_isDoubt_10 : decode b_M_isDoubt 10 = .ok (.ireturn, 1) := by decide +kernel
theorem d_M_isDoubt_11 : decode b_M_isDoubt 11 = .ok (.iload_n 2, 1) := by decide +kernel
theorem d_M_isDoubt_12 : decode b_M_isDoubt 12 = .ok (.ifCond .ne 22, 3) := by decide +kernel
theorem d_M_isDoubt_15 : decode b_M_isDoubt 15 = .ok (.aload_n 0, 1) := by decide +kernel
theorem d_M_isDoubt_16 : decode b_M_isDoubt 16 = .ok (.getfield 33, 3) := by decide +kernel
theorem d_M_isDoubt_19 : decode b_M_isDoubt 19 = .ok (.iload_n 1, 1) := by decide +kernel
theorem d_M_isDoubt_20 : decode b_M_isDoubt 20 = .ok (.laload, 1) := by decide +kernel
theorem d_M_isDoubt_21 : decode b_M_isDoubt 21 = .ok (.lload_n 3, 1) := by decide +kernel
theorem d_M_isDoubt_22 : decode b_M_isDoubt 22 = .ok (.lcmp, 1) := by decide +kernel
theorem d_M_isDoubt_23 : decode b_M_isDoubt 23 = .ok (.ifCond .gt 7, 3) := by decide +kernel
theorem d_M_isDoubt_26 : decode b_M_isDoubt 26 = .ok (.iconst 1, 1) := by decide +kernel
theorem d_M_isDoubt_27 : decode b_M_isDoubt 27 = .ok (.goto 15, 3) := by decide +kernel
theorem d_M_isDoubt_30 : decode b_M_isDoubt 30 = .ok (.iconst 0, 1) := by decide +kernel
theorem d_M_isDoubt_31 : decode b_M_isDoubt 31 = .ok (.goto 11, 3) := by decide +kernel
theorem d_M_isDoubt_34 : decode b_M_isDoubt 34 = .ok (.aload_n 0, 1) := by decide +kernel
theorem d_M_isDoubt_35 : decode b_M_isDoubt 35 = .ok (.iload_n 1, 1) := by decide +kernel
theorem d_M_isDoubt_36 : decode b_M_isDoubt 36 = .ok (.iload_n 2, 1) := by decide +kernel
theorem d_M_isDoubt_37 : decode b_M_isDoubt 37 = .ok (.iconst 1, 1) := by decide +kernel
theorem d_M_isDoubt_38 : decode b_M_isDoubt 38 = .ok (.isub, 1) := by decide +kernel
theorem d_M_isDoubt_39 : decode b_M_isDoubt 39 = .ok (.invokevirtual 127, 3) := by decide +kernel
theorem d_M_isDoubt_42 : decode b_M_isDoubt 42 = .ok (.istore 5, 2) := by decide +kernel
theorem d_M_isDoubt_44 : decode b_M_isDoubt 44 = .ok (.aload_n 0, 1) := by decide +kernel
theorem d_M_isDoubt_45 : decode b_M_isDoubt 45 = .ok (.iload_n 1, 1) := by decide +kernel
theorem d_M_isDoubt_46 : decode b_M_isDoubt 46 = .ok (.iload_n 2, 1) := by decide +kernel
theorem d_M_isDoubt_47 : decode b_M_isDoubt 47 = .ok (.invokevirtual 127, 3) := by decide +kernel
theorem d_M_isDoubt_50 : decode b_M_isDoubt 50 = .ok (.ifCond .eq 22, 3) := by decide +kernel
theorem d_M_isDoubt_53 : decode b_M_isDoubt 53 = .ok (.aload_n 0, 1) := by decide +kernel
theorem d_M_isDoubt_54 : decode b_M_isDoubt 54 = .ok (.getfield 13, 3) := by decide +kernel
theorem d_M_isDoubt_57 : decode b_M_isDoubt 57 = .ok (.iload_n 2, 1) := by decide +kernel
theorem d_M_isDoubt_58 : decode b_M_isDoubt 58 = .ok (.baload, 1) := by decide +kernel
theorem d_M_isDoubt_59 : decode b_M_isDoubt 59 = .ok (.ifCond .eq 17, 3) := by decide +kernel
theorem d_M_isDoubt_62 : decode b_M_isDoubt 62 = .ok (.aload_n 0, 1) := by decide +kernel
theorem d_M_isDoubt_63 : decode b_M_isDoubt 63 = .ok (.getfield 24, 3) := by decide +kernel
theorem d_M_isDoubt_66 : decode b_M_isDoubt 66 = .ok (.iload_n 2, 1) := by decide +kernel
theorem d_M_isDoubt_67 : decode b_M_isDoubt 67 = .ok (.iaload, 1) := by decide +kernel
theorem d_M_isDoubt_68 : decode b_M_isDoubt 68 = .ok (.iload_n 1, 1) := by decide +kernel
theorem d_M_isDoubt_69 : decode b_M_isDoubt 69 = .ok (.if_icmp .ne 7, 3) := by decide +kernel
theorem d_M_isDoubt_72 : decode b_M_isDoubt 72 = .ok (.iconst 1, 1) := by decide +kernel
theorem d_M_isDoubt_73 : decode b_M_isDoubt 73 = .ok (.goto 4, 3) := by decide +kernel
theorem d_M_isDoubt_76 : decode b_M_isDoubt 76 = .ok (.iconst 0, 1) := by decide +kernel
theorem d_M_isDoubt_77 : decode b_M_isDoubt 77 = .ok (.istore 6, 2) := by decide +kernel
theorem d_M_isDoubt_79 : decode b_M_isDoubt 79 = .ok (.iload 6, 2) := by decide +kernel
theorem d_M_isDoubt_81 : decode b_M_isDoubt 81 = .ok (.ifCond .eq 21, 3) := by decide +kernel
theorem d_M_isDoubt_84 : decode b_M_isDoubt 84 = .ok (.iload 5, 2) := by decide +kernel
theorem d_M_isDoubt_86 : decode b_M_isDoubt 86 = .ok (.ifCond .ne 12, 3) := by decide +kernel
theorem d_M_isDoubt_89 : decode b_M_isDoubt 89 = .ok (.aload_n 0, 1) := by decide +kernel
theorem d_M_isDoubt_90 : decode b_M_isDoubt 90 = .ok (.iload_n 1, 1) := by decide +kernel
theorem d_M_isDoubt_91 : decode b_M_isDoubt 91 = .ok (.iload_n 2, 1) := by decide +kernel
theorem d_M_isDoubt_92 : decode b_M_isDoubt 92 = .ok (.invokevirtual 127, 3) := by decide +kernel
theorem d_M_isDoubt_95 : decode b_M_isDoubt 95 = .ok (.ifCond .eq 7, 3) := by decide +kernel
theorem d_M_isDoubt_98 : decode b_M_isDoubt 98 = .ok (.iconst 1, 1) := by decide +kernel
theorem d_M_isDoubt_99 : decode b_M_isDoubt 99 = .ok (.goto 4, 3) := by decide +kernel
theorem d_M_isDoubt_102 : decode b_M_isDoubt 102 = .ok (.iconst 0, 1) := by decide +kernel
theorem d_M_isDoubt_103 : decode b_M_isDoubt 103 = .ok (.ireturn, 1) := by decide +kernel
theorem d_M_tell_0 : decode b_M_tell 0 = .ok (.aload_n 0, 1) := by decide +kernel
theorem d_M_tell_1 : decode b_M_tell 1 = .ok (.getfield 97, 3) := by decide +kernel
theorem d_M_tell_4 : decode b_M_tell 4 = .ok (.bipush 40, 2) := by decide +kernel
theorem d_M_tell_6 : decode b_M_tell 6 = .ok (.if_icmp .ne 5, 3) := by decide +kernel
theorem d_M_tell_9 : decode b_M_tell 9 = .ok (.iconst 0, 1) := by decide +kernel
theorem d_M_tell_10 : decode b_M_tell 10 = .ok (.ireturn, 1) := by decide +kernel
theorem d_M_tell_11 : decode b_M_tell 11 = .ok (.aload_n 0, 1) := by decide +kernel
theorem d_M_tell_12 : decode b_M_tell 12 = .ok (.dup, 1) := by decide +kernel
theorem d_M_tell_13 : decode b_M_tell 13 = .ok (.getfield 97, 3) := by decide +kernel
theorem d_M_tell_16 : decode b_M_tell 16 = .ok (.iconst 1, 1) := by decide +kernel
theorem d_M_tell_17 : decode b_M_tell 17 = .ok (.iadd, 1) := by decide +kernel
theorem d_M_tell_18 : decode b_M_tell 18 = .ok (.putfield 97, 3) := by decide +kernel
theorem d_M_tell_21 : decode b_M_tell 21 = .ok (.aload_n 0, 1) := by decide +kernel
theorem d_M_tell_22 : decode b_M_tell 22 = .ok (.getfield 51, 3) := by decide +kernel
theorem d_M_tell_25 : decode b_M_tell 25 = .ok (.aload_n 0, 1) := by decide +kernel
theorem d_M_tell_26 : decode b_M_tell 26 = .ok (.getfield 97, 3) := by decide +kernel
theorem d_M_tell_29 : decode b_M_tell 29 = .ok (.iload_n 1, 1) := by decide +kernel
theorem d_M_tell_30 : decode b_M_tell 30 = .ok (.iastore, 1) := by decide +kernel
theorem d_M_tell_31 : decode b_M_tell 31 = .ok (.aload_n 0, 1) := by decide +kernel
theorem d_M_tell_32 : decode b_M_tell 32 = .ok (.getfield 54, 3) := by decide +kernel
theorem d_M_tell_35 : decode b_M_tell 35 = .ok (.aload_n 0, 1) := by decide +kernel
theorem d_M_tell_36 : decode b_M_tell 36 = .ok (.getfield 97, 3) := by decide +kernel
theorem d_M_tell_39 : decode b_M_tell 39 = .ok (.iload_n 2, 1) := by decide +kernel
theorem d_M_tell_40 : decode b_M_tell 40 = .ok (.iastore, 1) := by decide +kernel
theorem d_M_tell_41 : decode b_M_tell 41 = .ok (.aload_n 0, 1) := by decide +kernel
theorem d_M_tell_42 : decode b_M_tell 42 = .ok (.getfield 57, 3) := by decide +kernel
theorem d_M_tell_45 : decode b_M_tell 45 = .ok (.aload_n 0, 1) := by decide +kernel
theorem d_M_tell_46 : decode b_M_tell 46 = .ok (.getfield 97, 3) := by decide +kernel
theorem d_M_tell_49 : decode b_M_tell 49 = .ok (.lload_n 3, 1) := by decide +kernel
theorem d_M_tell_50 : decode b_M_tell 50 = .ok (.lastore, 1) := by decide +kernel
theorem d_M_tell_51 : decode b_M_tell 51 = .ok (.aload_n 0, 1) := by decide +kernel
theorem d_M_tell_52 : decode b_M_tell 52 = .ok (.getfield 66, 3) := by decide +kernel
theorem d_M_tell_55 : decode b_M_tell 55 = .ok (.aload_n 0, 1) := by decide +kernel
theorem d_M_tell_56 : decode b_M_tell 56 = .ok (.getfield 97, 3) := by decide +kernel
theorem d_M_tell_59 : decode b_M_tell 59 = .ok (.iload 5, 2) := by decide +kernel
theorem d_M_tell_61 : decode b_M_tell 61 = .ok (.bastore, 1) := by decide +kernel
theorem d_M_tell_62 : decode b_M_tell 62 = .ok (.aload_n 0, 1) := by decide +kernel
theorem d_M_tell_63 : decode b_M_tell 63 = .ok (.getfield 63, 3) := by decide +kernel
theorem d_M_tell_66 : decode b_M_tell 66 = .ok (.aload_n 0, 1) := by decide +kernel
theorem d_M_tell_67 : decode b_M_tell 67 = .ok (.getfield 97, 3) := by decide +kernel
theorem d_M_tell_70 : decode b_M_tell 70 = .ok (.aload_n 0, 1) := by decide +kernel
theorem d_M_tell_71 : decode b_M_tell 71 = .ok (.getfield 81, 3) := by decide +kernel
theorem d_M_tell_74 : decode b_M_tell 74 = .ok (.iload_n 1, 1) := by decide +kernel
theorem d_M_tell_75 : decode b_M_tell 75 = .ok (.baload, 1) := by decide +kernel
theorem d_M_tell_76 : decode b_M_tell 76 = .ok (.bastore, 1) := by decide +kernel
theorem d_M_tell_77 : decode b_M_tell 77 = .ok (.aload_n 0, 1) := by decide +kernel
theorem d_M_tell_78 : decode b_M_tell 78 = .ok (.getfield 78, 3) := by decide +kernel
theorem d_M_tell_81 : decode b_M_tell 81 = .ok (.iload_n 1, 1) := by decide +kernel
theorem d_M_tell_82 : decode b_M_tell 82 = .ok (.aload_n 0, 1) := by decide +kernel
theorem d_M_tell_83 : decode b_M_tell 83 = .ok (.getfield 78, 3) := by decide +kernel
theorem d_M_tell_86 : decode b_M_tell 86 = .ok (.iload_n 1, 1) := by decide +kernel
theorem d_M_tell_87 : decode b_M_tell 87 = .ok (.baload, 1) := by decide +kernel
theorem d_M_tell_88 : decode b_M_tell 88 = .ok (.ifCond .ne 12, 3) := by decide +kernel
theorem d_M_tell_91 : decode b_M_tell 91 = .ok (.aload_n 0, 1) := by decide +kernel
theorem d_M_tell_92 : decode b_M_tell 92 = .ok (.getfield 81, 3) := by decide +kernel
theorem d_M_tell_95 : decode b_M_tell 95 = .ok (.iload_n 1, 1) := by decide +kernel
theorem d_M_tell_96 : decode b_M_tell 96 = .ok (.baload, 1) := by decide +kernel
theorem d_M_tell_97 : decode b_M_tell 97 = .ok (.ifCond .eq 7, 3) := by decide +kernel
theorem d_M_tell_100 : decode b_M_tell 100 = .ok (.iconst 1, 1) := by decide +kernel
theorem d_M_tell_101 : decode b_M_tell 101 = .ok (.goto 4, 3) := by decide +kernel
theorem d_M_tell_104 : decode b_M_tell 104 = .ok (.iconst 0, 1) := by decide +kernel
theorem d_M_tell_105 : decode b_M_tell 105 = .ok (.bastore, 1) := by decide +kernel
theorem d_M_tell_106 : decode b_M_tell 106 = .ok (.aload_n 0, 1) := by decide +kernel
theorem d_M_tell_107 : decode b_M_tell 107 = .ok (.getfield 81, 3) := by decide +kernel
theorem d_M_tell_110 : decode b_M_tell 110 = .ok (.iload_n 1, 1) := by decide +kernel
theorem d_M_tell_111 : decode b_M_tell 111 = .ok (.iconst 0, 1) := by decide +kernel
theorem d_M_tell_112 : decode b_M_tell 112 = .ok (.bastore, 1) := by decide +kernel
theorem d_M_tell_113 : decode b_M_tell 113 = .ok (.aload_n 0, 1) := by decide +kernel
theorem d_M_tell_114 : decode b_M_tell 114 = .ok (.getfield 60, 3) := by decide +kernel
theorem d_M_tell_117 : decode b_M_tell 117 = .ok (.aload_n 0, 1) := by decide +kernel
theorem d_M_tell_118 : decode b_M_tell 118 = .ok (.getfield 97, 3) := by decide +kernel
theorem d_M_tell_121 : decode b_M_tell 121 = .ok (.aload_n 0, 1) := by decide +kernel
theorem d_M_tell_122 : decode b_M_tell 122 = .ok (.getfield 78, 3) := by decide +kernel
theorem d_M_tell_125 : decode b_M_tell 125 = .ok (.iload_n 1, 1) := by decide +kernel
theorem d_M_tell_126 : decode b_M_tell 126 = .ok (.baload, 1) := by decide +kernel
theorem d_M_tell_127 : decode b_M_tell 127 = .ok (.bastore, 1) := by decide +kernel
theorem d_M_tell_128 : decode b_M_tell 128 = .ok (.iconst 1, 1) := by decide +kernel
theorem d_M_tell_129 : decode b_M_tell 129 = .ok (.istore 6, 2) := by decide +kernel
theorem d_M_tell_131 : decode b_M_tell 131 = .ok (.iload 6, 2) := by decide +kernel
theorem d_M_tell_133 : decode b_M_tell 133 = .ok (.aload_n 0, 1) := by decide +kernel
theorem d_M_tell_134 : decode b_M_tell 134 = .ok (.getfield 104, 3) := by decide +kernel
theorem d_M_tell_137 : decode b_M_tell 137 = .ok (.if_icmp .gt 44, 3) := by decide +kernel
theorem d_M_tell_140 : decode b_M_tell 140 = .ok (.aload_n 0, 1) := by decide +kernel
theorem d_M_tell_141 : decode b_M_tell 141 = .ok (.getfield 75, 3) := by decide +kernel
theorem d_M_tell_144 : decode b_M_tell 144 = .ok (.bipush 61, 2) := by decide +kernel
theorem d_M_tell_146 : decode b_M_tell 146 = .ok (.aload_n 0, 1) := by decide +kernel
theorem d_M_tell_147 : decode b_M_tell 147 = .ok (.getfield 97, 3) := by decide +kernel
theorem d_M_tell_150 : decode b_M_tell 150 = .ok (.imul, 1) := by decide +kernel
theorem d_M_tell_151 : decode b_M_tell 151 = .ok (.iload 6, 2) := by decide +kernel
theorem d_M_tell_153 : decode b_M_tell 153 = .ok (.iadd, 1) := by decide +kernel
theorem d_M_tell_154 : decode b_M_tell 154 = .ok (.iload_n 2, 1) := by decide +kernel
theorem d_M_tell_155 : decode b_M_tell 155 = .ok (.ifCond .lt 18, 3) := by decide +kernel
theorem d_M_tell_158 : decode b_M_tell 158 = .ok (.aload_n 0, 1) := by decide +kernel
theorem d_M_tell_159 : decode b_M_tell 159 = .ok (.iload 6, 2) := by decide +kernel
theorem d_M_tell_161 : decode b_M_tell 161 = .ok (.iload_n 2, 1) := by decide +kernel
theorem d_M_tell_162 : decode b_M_tell 162 = .ok (.lload_n 3, 1) := by decide +kernel
theorem d_M_tell_163 : decode b_M_tell 163 = .ok (.invokevirtual 131, 3) := by decide +kernel
theorem d_M_tell_166 : decode b_M_tell 166 = .ok (.ifCond .eq 7, 3) := by decide +kernel
theorem d_M_tell_169 : decode b_M_tell 169 = .ok (.iconst 1, 1) := by decide +kernel
theorem d_M_tell_170 : decode b_M_tell 170 = .ok (.goto 4, 3) := by decide +kernel
theorem d_M_tell_173 : decode b_M_tell 173 = .ok (.iconst 0, 1) := by decide +kernel
theorem d_M_tell_174 : decode b_M_tell 174 = .ok (.bastore, 1) := by decide +kernel
theorem d_M_tell_175 : decode b_M_tell 175 = .ok (.iinc 6 1, 3) := by decide +kernel
theorem d_M_tell_178 : decode b_M_tell 178 = .ok (.goto (-47), 3) := by decide +kernel
theorem d_M_tell_181 : decode b_M_tell 181 = .ok (.aload_n 0, 1) := by decide +kernel
theorem d_M_tell_182 : decode b_M_tell 182 = .ok (.aload_n 0, 1) := by decide +kernel
theorem d_M_tell_183 : decode b_M_tell 183 = .ok (.getfield 135, 3) := by decide +kernel
theorem d_M_tell_186 : decode b_M_tell 186 = .ok (.ifCond .ne 10, 3) := by decide +kernel
theorem d_M_tell_189 : decode b_M_tell 189 = .ok (.aload_n 0, 1) := by decide +kernel
theorem d_M_tell_190 : decode b_M_tell 190 = .ok (.getfield 97, 3) := by decide +kernel
theorem d_M_tell_193 : decode b_M_tell 193 = .ok (.goto 7, 3) := by decide +kernel
theorem d_M_tell_196 : decode b_M_tell 196 = .ok (.aload_n 0, 1) := by decide +kernel
theorem d_M_tell_197 : decode b_M_tell 197 = .ok (.getfield 135, 3) := by decide +kernel
theorem d_M_tell_200 : decode b_M_tell 200 = .ok (.putfield 135, 3) := by decide +kernel
theorem d_M_tell_203 : decode b_M_tell 203 = .ok (.aload_n 0, 1) := by decide +kernel
theorem d_M_tell_204 : decode b_M_tell 204 = .ok (.getfield 97, 3) := by decide +kernel
theorem d_M_tell_207 : decode b_M_tell 207 = .ok (.ireturn, 1) := by decide +kernel
theorem d_M_due_0 : decode b_M_due 0 = .ok (.aload_n 0, 1) := by decide +kernel
theorem d_M_due_1 : decode b_M_due 1 = .ok (.getfield 33, 3) := by decide +kernel
theorem d_M_due_4 : decode b_M_due 4 = .ok (.iload_n 1, 1) := by decide +kernel
theorem d_M_due_5 : decode b_M_due 5 = .ok (.laload, 1) := by decide +kernel
theorem d_M_due_6 : decode b_M_due 6 = .ok (.aload_n 0, 1) := by decide +kernel
theorem d_M_due_7 : decode b_M_due 7 = .ok (.getfield 7, 3) := by decide +kernel
theorem d_M_due_10 : decode b_M_due 10 = .ok (.iload_n 2, 1) := by decide +kernel
theorem d_M_due_11 : decode b_M_due 11 = .ok (.laload, 1) := by decide +kernel
theorem d_M_due_12 : decode b_M_due 12 = .ok (.ladd, 1) := by decide +kernel
theorem d_M_due_13 : decode b_M_due 13 = .ok (.lreturn, 1) := by decide +kernel
theorem d_M_next_0 : decode b_M_next 0 = .ok (.iconst 1, 1) := by decide +kernel
theorem d_M_next_1 : decode b_M_next 1 = .ok (.istore_n 2, 1) := by decide +kernel
theorem d_M_next_2 : decode b_M_next 2 = .ok (.iload_n 2, 1) := by decide +kernel
theorem d_M_next_3 : decode b_M_next 3 = .ok (.aload_n 0, 1) := by decide +kernel
theorem d_M_next_4 : decode b_M_next 4 = .ok (.getfield 104, 3) := by decide +kernel
theorem d_M_next_7 : decode b_M_next 7 = .ok (.if_icmp .gt 29, 3) := by decide +kernel
theorem d_M_next_10 : decode b_M_next 10 = .ok (.aload_n 0, 1) := by decide +kernel
theorem d_M_next_11 : decode b_M_next 11 = .ok (.getfield 36, 3) := by decide +kernel
theorem d_M_next_14 : decode b_M_next 14 = .ok (.iload_n 2, 1) := by decide +kernel
theorem d_M_next_15 : decode b_M_next 15 = .ok (.iaload, 1) := by decide +kernel
theorem d_M_next_16 : decode b_M_next 16 = .ok (.ifCond .ne 14, 3) := by decide +kernel
theorem d_M_next_19 : decode b_M_next 19 = .ok (.aload_n 0, 1) := by decide +kernel
theorem d_M_next_20 : decode b_M_next 20 = .ok (.iload_n 2, 1) := by decide +kernel
theorem d_M_next_21 : decode b_M_next 21 = .ok (.iload_n 1, 1) := by decide +kernel
theorem d_M_next_22 : decode b_M_next 22 = .ok (.invokevirtual 127, 3) := by decide +kernel
theorem d_M_next_25 : decode b_M_next 25 = .ok (.ifCond .ne 5, 3) := by decide +kernel
theorem d_M_next_28 : decode b_M_next 28 = .ok (.iload_n 2, 1) := by decide +kernel
theorem d_M_next_29 : decode b_M_next 29 = .ok (.ireturn, 1) := by decide +kernel
theorem d_M_next_30 : decode b_M_next 30 = .ok (.iinc 2 1, 3) := by decide +kernel
theorem d_M_next_33 : decode b_M_next 33 = .ok (.goto (-31), 3) := by decide +kernel
theorem d_M_next_36 : decode b_M_next 36 = .ok (.iconst 0, 1) := by decide +kernel
theorem d_M_next_37 : decode b_M_next 37 = .ok (.ireturn, 1) := by decide +kernel
theorem d_M_jams_0 : decode b_M_jams 0 = .ok (.iconst 0, 1) := by decide +kernel
theorem d_M_jams_1 : decode b_M_jams 1 = .ok (.istore_n 3, 1) := by decide +kernel
theorem d_M_jams_2 : decode b_M_jams 2 = .ok (.iload_n 3, 1) := by decide +kernel
theorem d_M_jams_3 : decode b_M_jams 3 = .ok (.aload_n 0, 1) := by decide +kernel
theorem d_M_jams_4 : decode b_M_jams 4 = .ok (.getfield 93, 3) := by decide +kernel
theorem d_M_jams_7 : decode b_M_jams 7 = .ok (.if_icmp .ge 88, 3) := by decide +kernel
theorem d_M_jams_10 : decode b_M_jams 10 = .ok (.ldc2_w 138, 3) := by decide +kernel
theorem d_M_jams_13 : decode b_M_jams 13 = .ok (.aload_n 0, 1) := by decide +kernel
theorem d_M_jams_14 : decode b_M_jams 14 = .ok (.getfield 24, 3) := by decide +kernel
theorem d_M_jams_17 : decode b_M_jams 17 = .ok (.iload_n 3, 1) := by decide +kernel
theorem d_M_jams_18 : decode b_M_jams 18 = .ok (.iaload, 1) := by decide +kernel
theorem d_M_jams_19 : decode b_M_jams 19 = .ok (.ifCond .le 17, 3) := by decide +kernel
theorem d_M_jams_22 : decode b_M_jams 22 = .ok (.aload_n 0, 1) := by decide +kernel
theorem d_M_jams_23 : decode b_M_jams 23 = .ok (.getfield 30, 3) := by decide +kernel
theorem d_M_jams_26 : decode b_M_jams 26 = .ok (.aload_n 0, 1) := by decide +kernel
theorem d_M_jams_27 : decode b_M_jams 27 = .ok (.getfield 24, 3) := by decide +kernel
theorem d_M_jams_30 : decode b_M_jams 30 = .ok (.iload_n 3, 1) := by decide +kernel
theorem d_M_jams_31 : decode b_M_jams 31 = .ok (.iaload, 1) := by decide +kernel
theorem d_M_jams_32 : decode b_M_jams 32 = .ok (.laload, 1) := by decide +kernel
theorem d_M_jams_33 : decode b_M_jams 33 = .ok (.goto 4, 3) := by decide +kernel
theorem d_M_jams_36 : decode b_M_jams 36 = .ok (.lconst 0, 1) := by decide +kernel
theorem d_M_jams_37 : decode b_M_jams 37 = .ok (.ladd, 1) := by decide +kernel
theorem d_M_jams_38 : decode b_M_jams 38 = .ok (.lstore 4, 2) := by decide +kernel
theorem d_M_jams_40 : decode b_M_jams 40 = .ok (.aload_n 0, 1) := by decide +kernel
theorem d_M_jams_41 : decode b_M_jams 41 = .ok (.getfield 13, 3) := by decide +kernel
theorem d_M_jams_44 : decode b_M_jams 44 = .ok (.iload_n 3, 1) := by decide +kernel
theorem d_M_jams_45 : decode b_M_jams 45 = .ok (.baload, 1) := by decide +kernel
theorem d_M_jams_46 : decode b_M_jams 46 = .ok (.ifCond .eq 43, 3) := by decide +kernel
theorem d_M_jams_49 : decode b_M_jams 49 = .ok (.aload_n 0, 1) := by decide +kernel
theorem d_M_jams_50 : decode b_M_jams 50 = .ok (.getfield 27, 3) := by decide +kernel
theorem d_M_jams_53 : decode b_M_jams 53 = .ok (.iload_n 3, 1) := by decide +kernel
theorem d_M_jams_54 : decode b_M_jams 54 = .ok (.baload, 1) := by decide +kernel
theorem d_M_jams_55 : decode b_M_jams 55 = .ok (.ifCond .ne 34, 3) := by decide +kernel
theorem d_M_jams_58 : decode b_M_jams 58 = .ok (.lload_n 1, 1) := by decide +kernel
theorem d_M_jams_59 : decode b_M_jams 59 = .ok (.aload_n 0, 1) := by decide +kernel
theorem d_M_jams_60 : decode b_M_jams 60 = .ok (.getfield 21, 3) := by decide +kernel
theorem d_M_jams_63 : decode b_M_jams 63 = .ok (.iload_n 3, 1) := by decide +kernel
theorem d_M_jams_64 : decode b_M_jams 64 = .ok (.laload, 1) := by decide +kernel
theorem d_M_jams_65 : decode b_M_jams 65 = .ok (.lsub, 1) := by decide +kernel
theorem d_M_jams_66 : decode b_M_jams 66 = .ok (.lload 4, 2) := by decide +kernel
theorem d_M_jams_68 : decode b_M_jams 68 = .ok (.lcmp, 1) := by decide +kernel
theorem d_M_jams_69 : decode b_M_jams 69 = .ok (.ifCond .le 20, 3) := by decide +kernel
theorem d_M_jams_72 : decode b_M_jams 72 = .ok (.aload_n 0, 1) := by decide +kernel
theorem d_M_jams_73 : decode b_M_jams 73 = .ok (.getfield 27, 3) := by decide +kernel
theorem d_M_jams_76 : decode b_M_jams 76 = .ok (.iload_n 3, 1) := by decide +kernel
theorem d_M_jams_77 : decode b_M_jams 77 = .ok (.iconst 1, 1) := by decide +kernel
theorem d_M_jams_78 : decode b_M_jams 78 = .ok (.bastore, 1) := by decide +kernel
theorem d_M_jams_79 : decode b_M_jams 79 = .ok (.aload_n 0, 1) := by decide +kernel
theorem d_M_jams_80 : decode b_M_jams 80 = .ok (.iconst 5, 1) := by decide +kernel
theorem d_M_jams_81 : decode b_M_jams 81 = .ok (.iload_n 3, 1) := by decide +kernel
theorem d_M_jams_82 : decode b_M_jams 82 = .ok (.lload_n 1, 1) := by decide +kernel
theorem d_M_jams_83 : decode b_M_jams 83 = .ok (.iconst 0, 1) := by decide +kernel
theorem d_M_jams_84 : decode b_M_jams 84 = .ok (.invokevirtual 140, 3) := by decide +kernel
theorem d_M_jams_87 : decode b_M_jams 87 = .ok (.istore 6, 2) := by decide +kernel
theorem d_M_jams_89 : decode b_M_jams 89 = .ok (.iinc 3 1, 3) := by decide +kernel
theorem d_M_jams_92 : decode b_M_jams 92 = .ok (.goto (-90), 3) := by decide +kernel
theorem d_M_jams_95 : decode b_M_jams 95 = .ok (.return_, 1) := by decide +kernel
theorem d_M_darken_0 : decode b_M_darken 0 = .ok (.aload_n 0, 1) := by decide +kernel
theorem d_M_darken_1 : decode b_M_darken 1 = .ok (.getfield 17, 3) := by decide +kernel
theorem d_M_darken_4 : decode b_M_darken 4 = .ok (.iload_n 1, 1) := by decide +kernel
theorem d_M_darken_5 : decode b_M_darken 5 = .ok (.dup2, 1) := by decide +kernel
theorem d_M_darken_6 : decode b_M_darken 6 = .ok (.iaload, 1) := by decide +kernel
theorem d_M_darken_7 : decode b_M_darken 7 = .ok (.iconst 1, 1) := by decide +kernel
theorem d_M_darken_8 : decode b_M_darken 8 = .ok (.iadd, 1) := by decide +kernel
theorem d_M_darken_9 : decode b_M_darken 9 = .ok (.iastore, 1) := by decide +kernel
theorem d_M_darken_10 : decode b_M_darken 10 = .ok (.aload_n 0, 1) := by decide +kernel
theorem d_M_darken_11 : decode b_M_darken 11 = .ok (.iload_n 1, 1) := by decide +kernel
theorem d_M_darken_12 : decode b_M_darken 12 = .ok (.invokevirtual 144, 3) := by decide +kernel
theorem d_M_darken_15 : decode b_M_darken 15 = .ok (.istore 4, 2) := by decide +kernel
theorem d_M_darken_17 : decode b_M_darken 17 = .ok (.iload 4, 2) := by decide +kernel
theorem d_M_darken_19 : decode b_M_darken 19 = .ok (.ifCond .le 47, 3) := by decide +kernel
theorem d_M_darken_22 : decode b_M_darken 22 = .ok (.lload_n 2, 1) := by decide +kernel
theorem d_M_darken_23 : decode b_M_darken 23 = .ok (.aload_n 0, 1) := by decide +kernel
theorem d_M_darken_24 : decode b_M_darken 24 = .ok (.iload 4, 2) := by decide +kernel
theorem d_M_darken_26 : decode b_M_darken 26 = .ok (.iload_n 1, 1) := by decide +kernel
theorem d_M_darken_27 : decode b_M_darken 27 = .ok (.invokevirtual 148, 3) := by decide +kernel
theorem d_M_darken_30 : decode b_M_darken 30 = .ok (.lsub, 1) := by decide +kernel
theorem d_M_darken_31 : decode b_M_darken 31 = .ok (.ldc2_w 152, 3) := by decide +kernel
theorem d_M_darken_34 : decode b_M_darken 34 = .ok (.lcmp, 1) := by decide +kernel
theorem d_M_darken_35 : decode b_M_darken 35 = .ok (.ifCond .lt 31, 3) := by decide +kernel
theorem d_M_darken_38 : decode b_M_darken 38 = .ok (.aload_n 0, 1) := by decide +kernel
theorem d_M_darken_39 : decode b_M_darken 39 = .ok (.iconst 2, 1) := by decide +kernel
theorem d_M_darken_40 : decode b_M_darken 40 = .ok (.iload_n 1, 1) := by decide +kernel
theorem d_M_darken_41 : decode b_M_darken 41 = .ok (.lload_n 2, 1) := by decide +kernel
theorem d_M_darken_42 : decode b_M_darken 42 = .ok (.iconst 0, 1) := by decide +kernel
theorem d_M_darken_43 : decode b_M_darken 43 = .ok (.invokevirtual 140, 3) := by decide +kernel
theorem d_M_darken_46 : decode b_M_darken 46 = .ok (.istore 5, 2) := by decide +kernel
theorem d_M_darken_48 : decode b_M_darken 48 = .ok (.aload_n 0, 1) := by decide +kernel
theorem d_M_darken_49 : decode b_M_darken 49 = .ok (.getfield 36, 3) := by decide +kernel
theorem d_M_darken_52 : decode b_M_darken 52 = .ok (.iload 4, 2) := by decide +kernel
theorem d_M_darken_54 : decode b_M_darken 54 = .ok (.iconst 1, 1) := by decide +kernel
theorem d_M_darken_55 : decode b_M_darken 55 = .ok (.iastore, 1) := by decide +kernel
theorem d_M_darken_56 : decode b_M_darken 56 = .ok (.aload_n 0, 1) := by decide +kernel
theorem d_M_darken_57 : decode b_M_darken 57 = .ok (.iload_n 1, 1) := by decide +kernel
theorem d_M_darken_58 : decode b_M_darken 58 = .ok (.invokevirtual 144, 3) := by decide +kernel
theorem d_M_darken_61 : decode b_M_darken 61 = .ok (.istore 4, 2) := by decide +kernel
theorem d_M_darken_63 : decode b_M_darken 63 = .ok (.goto (-46), 3) := by decide +kernel
theorem d_M_darken_66 : decode b_M_darken 66 = .ok (.aload_n 0, 1) := by decide +kernel
theorem d_M_darken_67 : decode b_M_darken 67 = .ok (.getfield 24, 3) := by decide +kernel
theorem d_M_darken_70 : decode b_M_darken 70 = .ok (.iload_n 1, 1) := by decide +kernel
theorem d_M_darken_71 : decode b_M_darken 71 = .ok (.iconst 0, 1) := by decide +kernel
theorem d_M_darken_72 : decode b_M_darken 72 = .ok (.iastore, 1) := by decide +kernel
theorem d_M_darken_73 : decode b_M_darken 73 = .ok (.iload 4, 2) := by decide +kernel
theorem d_M_darken_75 : decode b_M_darken 75 = .ok (.ifCond .le 48, 3) := by decide +kernel
theorem d_M_darken_78 : decode b_M_darken 78 = .ok (.aload_n 0, 1) := by decide +kernel
theorem d_M_darken_79 : decode b_M_darken 79 = .ok (.iload 4, 2) := by decide +kernel
theorem d_M_darken_81 : decode b_M_darken 81 = .ok (.iload_n 1, 1) := by decide +kernel
theorem d_M_darken_82 : decode b_M_darken 82 = .ok (.invokevirtual 148, 3) := by decide +kernel
theorem d_M_darken_85 : decode b_M_darken 85 = .ok (.lload_n 2, 1) := by decide +kernel
theorem d_M_darken_86 : decode b_M_darken 86 = .ok (.lsub, 1) := by decide +kernel
theorem d_M_darken_87 : decode b_M_darken 87 = .ok (.ldc2_w 154, 3) := by decide +kernel
theorem d_M_darken_90 : decode b_M_darken 90 = .ok (.ldc2_w 156, 3) := by decide +kernel
theorem d_M_darken_93 : decode b_M_darken 93 = .ok (.invokestatic 111, 3) := by decide +kernel
theorem d_M_darken_96 : decode b_M_darken 96 = .ok (.ifCond .eq 27, 3) := by decide +kernel
theorem d_M_darken_99 : decode b_M_darken 99 = .ok (.aload_n 0, 1) := by decide +kernel
theorem d_M_darken_100 : decode b_M_darken 100 = .ok (.getfield 39, 3) := by decide +kernel
theorem d_M_darken_103 : decode b_M_darken 103 = .ok (.bipush 8, 2) := by decide +kernel
theorem d_M_darken_105 : decode b_M_darken 105 = .ok (.iload 4, 2) := by decide +kernel
theorem d_M_darken_107 : decode b_M_darken 107 = .ok (.imul, 1) := by decide +kernel
theorem d_M_darken_108 : decode b_M_darken 108 = .ok (.iload_n 1, 1) := by decide +kernel
theorem d_M_darken_109 : decode b_M_darken 109 = .ok (.iadd, 1) := by decide +kernel
theorem d_M_darken_110 : decode b_M_darken 110 = .ok (.iconst 1, 1) := by decide +kernel
theorem d_M_darken_111 : decode b_M_darken 111 = .ok (.bastore, 1) := by decide +kernel
theorem d_M_darken_112 : decode b_M_darken 112 = .ok (.aload_n 0, 1) := by decide +kernel
theorem d_M_darken_113 : decode b_M_darken 113 = .ok (.getfield 24, 3) := by decide +kernel
theorem d_M_darken_116 : decode b_M_darken 116 = .ok (.iload_n 1, 1) := by decide +kernel
theorem d_M_darken_117 : decode b_M_darken 117 = .ok (.iload 4, 2) := by decide +kernel
theorem d_M_darken_119 : decode b_M_darken 119 = .ok (.iastore, 1) := by decide +kernel
theorem d_M_darken_120 : decode b_M_darken 120 = .ok (.goto 13, 3) := by decide +kernel
theorem d_M_darken_123 : decode b_M_darken 123 = .ok (.aload_n 0, 1) := by decide +kernel
theorem d_M_darken_124 : decode b_M_darken 124 = .ok (.iconst 1, 1) := by decide +kernel
theorem d_M_darken_125 : decode b_M_darken 125 = .ok (.iload_n 1, 1) := by decide +kernel
theorem d_M_darken_126 : decode b_M_darken 126 = .ok (.lload_n 2, 1) := by decide +kernel
theorem d_M_darken_127 : decode b_M_darken 127 = .ok (.iconst 0, 1) := by decide +kernel
theorem d_M_darken_128 : decode b_M_darken 128 = .ok (.invokevirtual 140, 3) := by decide +kernel
theorem d_M_darken_131 : decode b_M_darken 131 = .ok (.istore 5, 2) := by decide +kernel
theorem d_M_darken_133 : decode b_M_darken 133 = .ok (.aload_n 0, 1) := by decide +kernel
theorem d_M_darken_134 : decode b_M_darken 134 = .ok (.getfield 13, 3) := by decide +kernel
theorem d_M_darken_137 : decode b_M_darken 137 = .ok (.iload_n 1, 1) := by decide +kernel
theorem d_M_darken_138 : decode b_M_darken 138 = .ok (.iconst 1, 1) := by decide +kernel
theorem d_M_darken_139 : decode b_M_darken 139 = .ok (.bastore, 1) := by decide +kernel
theorem d_M_darken_140 : decode b_M_darken 140 = .ok (.aload_n 0, 1) := by decide +kernel
theorem d_M_darken_141 : decode b_M_darken 141 = .ok (.getfield 21, 3) := by decide +kernel
theorem d_M_darken_144 : decode b_M_darken 144 = .ok (.iload_n 1, 1) := by decide +kernel
theorem d_M_darken_145 : decode b_M_darken 145 = .ok (.lload_n 2, 1) := by decide +kernel
theorem d_M_darken_146 : decode b_M_darken 146 = .ok (.lastore, 1) := by decide +kernel
theorem d_M_darken_147 : decode b_M_darken 147 = .ok (.aload_n 0, 1) := by decide +kernel
theorem d_M_darken_148 : decode b_M_darken 148 = .ok (.getfield 27, 3) := by decide +kernel
theorem d_M_darken_151 : decode b_M_darken 151 = .ok (.iload_n 1, 1) := by decide +kernel
theorem d_M_darken_152 : decode b_M_darken 152 = .ok (.iconst 0, 1) := by decide +kernel
theorem d_M_darken_153 : decode b_M_darken 153 = .ok (.bastore, 1) := by decide +kernel
theorem d_M_darken_154 : decode b_M_darken 154 = .ok (.return_, 1) := by decide +kernel
