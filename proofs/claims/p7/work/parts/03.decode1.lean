theorem d_J_init_0 : decode b_J_init 0 = .ok (.aload_n 0, 1) := by decide +kernel
theorem d_J_init_1 : decode b_J_init 1 = .ok (.invokespecial 1, 3) := by decide +kernel
theorem d_J_init_4 : decode b_J_init 4 = .ok (.aload_n 0, 1) := by decide +kernel
theorem d_J_init_5 : decode b_J_init 5 = .ok (.bipush 8, 2) := by decide +kernel
theorem d_J_init_7 : decode b_J_init 7 = .ok (.anewarray 9, 3) := by decide +kernel
theorem d_J_init_10 : decode b_J_init 10 = .ok (.putfield 11, 3) := by decide +kernel
theorem d_J_init_13 : decode b_J_init 13 = .ok (.aload_n 0, 1) := by decide +kernel
theorem d_J_init_14 : decode b_J_init 14 = .ok (.iconst 0, 1) := by decide +kernel
theorem d_J_init_15 : decode b_J_init 15 = .ok (.putfield 15, 3) := by decide +kernel
theorem d_J_init_18 : decode b_J_init 18 = .ok (.aload_n 0, 1) := by decide +kernel
theorem d_J_init_19 : decode b_J_init 19 = .ok (.bipush 61, 2) := by decide +kernel
theorem d_J_init_21 : decode b_J_init 21 = .ok (.anewarray 19, 3) := by decide +kernel
theorem d_J_init_24 : decode b_J_init 24 = .ok (.putfield 21, 3) := by decide +kernel
theorem d_J_init_27 : decode b_J_init 27 = .ok (.aload_n 0, 1) := by decide +kernel
theorem d_J_init_28 : decode b_J_init 28 = .ok (.iconst 0, 1) := by decide +kernel
theorem d_J_init_29 : decode b_J_init 29 = .ok (.putfield 25, 3) := by decide +kernel
theorem d_J_init_32 : decode b_J_init 32 = .ok (.aload_n 0, 1) := by decide +kernel
theorem d_J_init_33 : decode b_J_init 33 = .ok (.bipush 41, 2) := by decide +kernel
theorem d_J_init_35 : decode b_J_init 35 = .ok (.anewarray 28, 3) := by decide +kernel
theorem d_J_init_38 : decode b_J_init 38 = .ok (.putfield 30, 3) := by decide +kernel
theorem d_J_init_41 : decode b_J_init 41 = .ok (.aload_n 0, 1) := by decide +kernel
theorem d_J_init_42 : decode b_J_init 42 = .ok (.iconst 0, 1) := by decide +kernel
theorem d_J_init_43 : decode b_J_init 43 = .ok (.putfield 34, 3) := by decide +kernel
theorem d_J_init_46 : decode b_J_init 46 = .ok (.aload_n 0, 1) := by decide +kernel
theorem d_J_init_47 : decode b_J_init 47 = .ok (.iconst 0, 1) := by decide +kernel
theorem d_J_init_48 : decode b_J_init 48 = .ok (.putfield 37, 3) := by decide +kernel
theorem d_J_init_51 : decode b_J_init 51 = .ok (.aload_n 0, 1) := by decide +kernel
theorem d_J_init_52 : decode b_J_init 52 = .ok (.bipush 7, 2) := by decide +kernel
theorem d_J_init_54 : decode b_J_init 54 = .ok (.newarray .boolean, 2) := by decide +kernel
theorem d_J_init_56 : decode b_J_init 56 = .ok (.putfield 40, 3) := by decide +kernel
theorem d_J_init_59 : decode b_J_init 59 = .ok (.aload_n 0, 1) := by decide +kernel
theorem d_J_init_60 : decode b_J_init 60 = .ok (.bipush 7, 2) := by decide +kernel
theorem d_J_init_62 : decode b_J_init 62 = .ok (.newarray .boolean, 2) := by decide +kernel
theorem d_J_init_64 : decode b_J_init 64 = .ok (.putfield 44, 3) := by decide +kernel
theorem d_J_init_67 : decode b_J_init 67 = .ok (.aload_n 0, 1) := by decide +kernel
theorem d_J_init_68 : decode b_J_init 68 = .ok (.bipush 60, 2) := by decide +kernel
theorem d_J_init_70 : decode b_J_init 70 = .ok (.newarray .int, 2) := by decide +kernel
theorem d_J_init_72 : decode b_J_init 72 = .ok (.putfield 47, 3) := by decide +kernel
theorem d_J_init_75 : decode b_J_init 75 = .ok (.aload_n 0, 1) := by decide +kernel
theorem d_J_init_76 : decode b_J_init 76 = .ok (.iconst 0, 1) := by decide +kernel
theorem d_J_init_77 : decode b_J_init 77 = .ok (.putfield 51, 3) := by decide +kernel
theorem d_J_init_80 : decode b_J_init 80 = .ok (.aload_n 0, 1) := by decide +kernel
theorem d_J_init_81 : decode b_J_init 81 = .ok (.lconst 0, 1) := by decide +kernel
theorem d_J_init_82 : decode b_J_init 82 = .ok (.putfield 54, 3) := by decide +kernel
theorem d_J_init_85 : decode b_J_init 85 = .ok (.aload_n 0, 1) := by decide +kernel
theorem d_J_init_86 : decode b_J_init 86 = .ok (.getfield 40, 3) := by decide +kernel
theorem d_J_init_89 : decode b_J_init 89 = .ok (.iconst 5, 1) := by decide +kernel
theorem d_J_init_90 : decode b_J_init 90 = .ok (.iconst 1, 1) := by decide +kernel
theorem d_J_init_91 : decode b_J_init 91 = .ok (.bastore, 1) := by decide +kernel
theorem d_J_init_92 : decode b_J_init 92 = .ok (.aload_n 0, 1) := by decide +kernel
theorem d_J_init_93 : decode b_J_init 93 = .ok (.getfield 40, 3) := by decide +kernel
theorem d_J_init_96 : decode b_J_init 96 = .ok (.bipush 6, 2) := by decide +kernel
theorem d_J_init_98 : decode b_J_init 98 = .ok (.iconst 1, 1) := by decide +kernel
theorem d_J_init_99 : decode b_J_init 99 = .ok (.bastore, 1) := by decide +kernel
theorem d_J_init_100 : decode b_J_init 100 = .ok (.return_, 1) := by decide +kernel
theorem d_J_sensor_0 : decode b_J_sensor 0 = .ok (.aload_n 0, 1) := by decide +kernel
theorem d_J_sensor_1 : decode b_J_sensor 1 = .ok (.getfield 15, 3) := by decide +kernel
theorem d_J_sensor_4 : decode b_J_sensor 4 = .ok (.ifCond .ne 7, 3) := by decide +kernel
theorem d_J_sensor_7 : decode b_J_sensor 7 = .ok (.lconst 0, 1) := by decide +kernel
theorem d_J_sensor_8 : decode b_J_sensor 8 = .ok (.goto 17, 3) := by decide +kernel
theorem d_J_sensor_11 : decode b_J_sensor 11 = .ok (.aload_n 0, 1) := by decide +kernel
theorem d_J_sensor_12 : decode b_J_sensor 12 = .ok (.getfield 11, 3) := by decide +kernel
theorem d_J_sensor_15 : decode b_J_sensor 15 = .ok (.aload_n 0, 1) := by decide +kernel
theorem d_J_sensor_16 : decode b_J_sensor 16 = .ok (.getfield 15, 3) := by decide +kernel
theorem d_J_sensor_19 : decode b_J_sensor 19 = .ok (.iconst 1, 1) := by decide +kernel
theorem d_J_sensor_20 : decode b_J_sensor 20 = .ok (.isub, 1) := by decide +kernel
theorem d_J_sensor_21 : decode b_J_sensor 21 = .ok (.aaload, 1) := by decide +kernel
theorem d_J_sensor_22 : decode b_J_sensor 22 = .ok (.getfield 58, 3) := by decide +kernel
theorem d_J_sensor_25 : decode b_J_sensor 25 = .ok (.lstore_n 3, 1) := by decide +kernel
theorem d_J_sensor_26 : decode b_J_sensor 26 = .ok (.lload_n 1, 1) := by decide +kernel
theorem d_J_sensor_27 : decode b_J_sensor 27 = .ok (.lload_n 3, 1) := by decide +kernel
theorem d_J_sensor_28 : decode b_J_sensor 28 = .ok (.ldc2_w 61, 3) := by decide +kernel
theorem d_J_sensor_31 : decode b_J_sensor 31 = .ok (.ladd, 1) := by decide +kernel
theorem d_J_sensor_32 : decode b_J_sensor 32 = .ok (.lcmp, 1) := by decide +kernel
theorem d_J_sensor_33 : decode b_J_sensor 33 = .ok (.ifCond .lt 11, 3) := by decide +kernel
theorem d_J_sensor_36 : decode b_J_sensor 36 = .ok (.lload_n 1, 1) := by decide +kernel
theorem d_J_sensor_37 : decode b_J_sensor 37 = .ok (.ldc2_w 63, 3) := by decide +kernel
theorem d_J_sensor_40 : decode b_J_sensor 40 = .ok (.lcmp, 1) := by decide +kernel
theorem d_J_sensor_41 : decode b_J_sensor 41 = .ok (.ifCond .le 6, 3) := by decide +kernel
theorem d_J_sensor_44 : decode b_J_sensor 44 = .ok (.bipush (-12), 2) := by decide +kernel
theorem d_J_sensor_46 : decode b_J_sensor 46 = .ok (.ireturn, 1) := by decide +kernel
theorem d_J_sensor_47 : decode b_J_sensor 47 = .ok (.aload_n 0, 1) := by decide +kernel
theorem d_J_sensor_48 : decode b_J_sensor 48 = .ok (.getfield 25, 3) := by decide +kernel
theorem d_J_sensor_51 : decode b_J_sensor 51 = .ok (.ifCond .le 6, 3) := by decide +kernel
theorem d_J_sensor_54 : decode b_J_sensor 54 = .ok (.bipush (-13), 2) := by decide +kernel
theorem d_J_sensor_56 : decode b_J_sensor 56 = .ok (.ireturn, 1) := by decide +kernel
theorem d_J_sensor_57 : decode b_J_sensor 57 = .ok (.aload_n 0, 1) := by decide +kernel
theorem d_J_sensor_58 : decode b_J_sensor 58 = .ok (.getfield 15, 3) := by decide +kernel
theorem d_J_sensor_61 : decode b_J_sensor 61 = .ok (.bipush 8, 2) := by decide +kernel
theorem d_J_sensor_63 : decode b_J_sensor 63 = .ok (.if_icmp .lt 6, 3) := by decide +kernel
theorem d_J_sensor_66 : decode b_J_sensor 66 = .ok (.bipush (-14), 2) := by decide +kernel
theorem d_J_sensor_68 : decode b_J_sensor 68 = .ok (.ireturn, 1) := by decide +kernel
theorem d_J_sensor_69 : decode b_J_sensor 69 = .ok (.aload_n 0, 1) := by decide +kernel
theorem d_J_sensor_70 : decode b_J_sensor 70 = .ok (.getfield 11, 3) := by decide +kernel
theorem d_J_sensor_73 : decode b_J_sensor 73 = .ok (.aload_n 0, 1) := by decide +kernel
theorem d_J_sensor_74 : decode b_J_sensor 74 = .ok (.getfield 15, 3) := by decide +kernel
theorem d_J_sensor_77 : decode b_J_sensor 77 = .ok (.new 9, 3) := by decide +kernel
theorem d_J_sensor_80 : decode b_J_sensor 80 = .ok (.dup, 1) := by decide +kernel
theorem d_J_sensor_81 : decode b_J_sensor 81 = .ok (.lload_n 1, 1) := by decide +kernel
theorem d_J_sensor_82 : decode b_J_sensor 82 = .ok (.invokespecial 65, 3) := by decide +kernel
theorem d_J_sensor_85 : decode b_J_sensor 85 = .ok (.aastore, 1) := by decide +kernel
theorem d_J_sensor_86 : decode b_J_sensor 86 = .ok (.aload_n 0, 1) := by decide +kernel
theorem d_J_sensor_87 : decode b_J_sensor 87 = .ok (.dup, 1) := by decide +kernel
theorem d_J_sensor_88 : decode b_J_sensor 88 = .ok (.getfield 15, 3) := by decide +kernel
theorem d_J_sensor_91 : decode b_J_sensor 91 = .ok (.iconst 1, 1) := by decide +kernel
theorem d_J_sensor_92 : decode b_J_sensor 92 = .ok (.iadd, 1) := by decide +kernel
theorem d_J_sensor_93 : decode b_J_sensor 93 = .ok (.putfield 15, 3) := by decide +kernel
theorem d_J_sensor_96 : decode b_J_sensor 96 = .ok (.aload_n 0, 1) := by decide +kernel
theorem d_J_sensor_97 : decode b_J_sensor 97 = .ok (.getfield 15, 3) := by decide +kernel
theorem d_J_sensor_100 : decode b_J_sensor 100 = .ok (.iconst 1, 1) := by decide +kernel
theorem d_J_sensor_101 : decode b_J_sensor 101 = .ok (.isub, 1) := by decide +kernel
theorem d_J_sensor_102 : decode b_J_sensor 102 = .ok (.ireturn, 1) := by decide +kernel
theorem d_J_item_0 : decode b_J_item 0 = .ok (.lload_n 1, 1) := by decide +kernel
theorem d_J_item_1 : decode b_J_item 1 = .ok (.ldc2_w 68, 3) := by decide +kernel
theorem d_J_item_4 : decode b_J_item 4 = .ok (.lcmp, 1) := by decide +kernel
theorem d_J_item_5 : decode b_J_item 5 = .ok (.ifCond .lt 28, 3) := by decide +kernel
theorem d_J_item_8 : decode b_J_item 8 = .ok (.lload_n 1, 1) := by decide +kernel
theorem d_J_item_9 : decode b_J_item 9 = .ok (.ldc2_w 70, 3) := by decide +kernel
theorem d_J_item_12 : decode b_J_item 12 = .ok (.lcmp, 1) := by decide +kernel
theorem d_J_item_13 : decode b_J_item 13 = .ok (.ifCond .gt 20, 3) := by decide +kernel
theorem d_J_item_16 : decode b_J_item 16 = .ok (.aload_n 0, 1) := by decide +kernel
theorem d_J_item_17 : decode b_J_item 17 = .ok (.lload_n 3, 1) := by decide +kernel
theorem d_J_item_18 : decode b_J_item 18 = .ok (.invokevirtual 72, 3) := by decide +kernel
theorem d_J_item_21 : decode b_J_item 21 = .ok (.ifCond .eq 12, 3) := by decide +kernel
theorem d_J_item_24 : decode b_J_item 24 = .ok (.lload_n 3, 1) := by decide +kernel
theorem d_J_item_25 : decode b_J_item 25 = .ok (.aload_n 0, 1) := by decide +kernel
theorem d_J_item_26 : decode b_J_item 26 = .ok (.invokevirtual 76, 3) := by decide +kernel
theorem d_J_item_29 : decode b_J_item 29 = .ok (.lcmp, 1) := by decide +kernel
theorem d_J_item_30 : decode b_J_item 30 = .ok (.ifCond .ge 6, 3) := by decide +kernel
theorem d_J_item_33 : decode b_J_item 33 = .ok (.bipush (-12), 2) := by decide +kernel
theorem d_J_item_35 : decode b_J_item 35 = .ok (.ireturn, 1) := by decide +kernel
theorem d_J_item_36 : decode b_J_item 36 = .ok (.aload_n 0, 1) := by decide +kernel
theorem d_J_item_37 : decode b_J_item 37 = .ok (.invokevirtual 80, 3) := by decide +kernel
theorem d_J_item_40 : decode b_J_item 40 = .ok (.ifCond .eq 10, 3) := by decide +kernel
theorem d_J_item_43 : decode b_J_item 43 = .ok (.aload_n 0, 1) := by decide +kernel
theorem d_J_item_44 : decode b_J_item 44 = .ok (.getfield 15, 3) := by decide +kernel
theorem d_J_item_47 : decode b_J_item 47 = .ok (.ifCond .ne 6, 3) := by decide +kernel
theorem d_J_item_50 : decode b_J_item 50 = .ok (.bipush (-13), 2) := by decide +kernel
theorem d_J_item_52 : decode b_J_item 52 = .ok (.ireturn, 1) := by decide +kernel
theorem d_J_item_53 : decode b_J_item 53 = .ok (.aload_n 0, 1) := by decide +kernel
theorem d_J_item_54 : decode b_J_item 54 = .ok (.getfield 25, 3) := by decide +kernel
theorem d_J_item_57 : decode b_J_item 57 = .ok (.bipush 60, 2) := by decide +kernel
theorem d_J_item_59 : decode b_J_item 59 = .ok (.if_icmp .lt 6, 3) := by decide +kernel
theorem d_J_item_62 : decode b_J_item 62 = .ok (.bipush (-14), 2) := by decide +kernel
theorem d_J_item_64 : decode b_J_item 64 = .ok (.ireturn, 1) := by decide +kernel
theorem d_J_item_65 : decode b_J_item 65 = .ok (.aload_n 0, 1) := by decide +kernel
theorem d_J_item_66 : decode b_J_item 66 = .ok (.dup, 1) := by decide +kernel
theorem d_J_item_67 : decode b_J_item 67 = .ok (.getfield 25, 3) := by decide +kernel
theorem d_J_item_70 : decode b_J_item 70 = .ok (.iconst 1, 1) := by decide +kernel
theorem d_J_item_71 : decode b_J_item 71 = .ok (.iadd, 1) := by decide +kernel
theorem d_J_item_72 : decode b_J_item 72 = .ok (.putfield 25, 3) := by decide +kernel
theorem d_J_item_75 : decode b_J_item 75 = .ok (.aload_n 0, 1) := by decide +kernel
theorem d_J_item_76 : decode b_J_item 76 = .ok (.getfield 21, 3) := by decide +kernel
theorem d_J_item_79 : decode b_J_item 79 = .ok (.aload_n 0, 1) := by decide +kernel
theorem d_J_item_80 : decode b_J_item 80 = .ok (.getfield 25, 3) := by decide +kernel
theorem d_J_item_83 : decode b_J_item 83 = .ok (.new 19, 3) := by decide +kernel
theorem d_J_item_86 : decode b_J_item 86 = .ok (.dup, 1) := by decide +kernel
theorem d_J_item_87 : decode b_J_item 87 = .ok (.lload_n 1, 1) := by decide +kernel
theorem d_J_item_88 : decode b_J_item 88 = .ok (.lload_n 3, 1) := by decide +kernel
theorem d_J_item_89 : decode b_J_item 89 = .ok (.invokespecial 84, 3) := by decide +kernel
theorem d_J_item_92 : decode b_J_item 92 = .ok (.aastore, 1) := by decide +kernel
theorem d_J_item_93 : decode b_J_item 93 = .ok (.aload_n 0, 1) := by decide +kernel
theorem d_J_item_94 : decode b_J_item 94 = .ok (.getfield 25, 3) := by decide +kernel
theorem d_J_item_97 : decode b_J_item 97 = .ok (.ireturn, 1) := by decide +kernel
theorem d_J_edge_0 : decode b_J_edge 0 = .ok (.aload_n 0, 1) := by decide +kernel
theorem d_J_edge_1 : decode b_J_edge 1 = .ok (.iload_n 1, 1) := by decide +kernel
theorem d_J_edge_2 : decode b_J_edge 2 = .ok (.invokevirtual 87, 3) := by decide +kernel
theorem d_J_edge_5 : decode b_J_edge 5 = .ok (.ifCond .ne 6, 3) := by decide +kernel
theorem d_J_edge_8 : decode b_J_edge 8 = .ok (.bipush (-11), 2) := by decide +kernel
theorem d_J_edge_10 : decode b_J_edge 10 = .ok (.ireturn, 1) := by decide +kernel
theorem d_J_edge_11 : decode b_J_edge 11 = .ok (.aload_n 0, 1) := by decide +kernel
theorem d_J_edge_12 : decode b_J_edge 12 = .ok (.lload_n 3, 1) := by decide +kernel
theorem d_J_edge_13 : decode b_J_edge 13 = .ok (.invokevirtual 72, 3) := by decide +kernel
theorem d_J_edge_16 : decode b_J_edge 16 = .ok (.ifCond .ne 6, 3) := by decide +kernel
theorem d_J_edge_19 : decode b_J_edge 19 = .ok (.bipush (-12), 2) := by decide +kernel
theorem d_J_edge_21 : decode b_J_edge 21 = .ok (.ireturn, 1) := by decide +kernel
theorem d_J_edge_22 : decode b_J_edge 22 = .ok (.aload_n 0, 1) := by decide +kernel
theorem d_J_edge_23 : decode b_J_edge 23 = .ok (.invokevirtual 80, 3) := by decide +kernel
theorem d_J_edge_26 : decode b_J_edge 26 = .ok (.ifCond .eq 16, 3) := by decide +kernel
theorem d_J_edge_29 : decode b_J_edge 29 = .ok (.aload_n 0, 1) := by decide +kernel
theorem d_J_edge_30 : decode b_J_edge 30 = .ok (.getfield 11, 3) := by decide +kernel
theorem d_J_edge_33 : decode b_J_edge 33 = .ok (.iload_n 1, 1) := by decide +kernel
theorem d_J_edge_34 : decode b_J_edge 34 = .ok (.aaload, 1) := by decide +kernel
theorem d_J_edge_35 : decode b_J_edge 35 = .ok (.getfield 91, 3) := by decide +kernel
theorem d_J_edge_38 : decode b_J_edge 38 = .ok (.iload_n 2, 1) := by decide +kernel
theorem d_J_edge_39 : decode b_J_edge 39 = .ok (.if_icmp .ne 6, 3) := by decide +kernel
theorem d_J_edge_42 : decode b_J_edge 42 = .ok (.bipush (-13), 2) := by decide +kernel
theorem d_J_edge_44 : decode b_J_edge 44 = .ok (.ireturn, 1) := by decide +kernel
theorem d_J_edge_45 : decode b_J_edge 45 = .ok (.aload_n 0, 1) := by decide +kernel
theorem d_J_edge_46 : decode b_J_edge 46 = .ok (.lload_n 3, 1) := by decide +kernel
theorem d_J_edge_47 : decode b_J_edge 47 = .ok (.putfield 54, 3) := by decide +kernel
theorem d_J_edge_50 : decode b_J_edge 50 = .ok (.aload_n 0, 1) := by decide +kernel
theorem d_J_edge_51 : decode b_J_edge 51 = .ok (.getfield 34, 3) := by decide +kernel
theorem d_J_edge_54 : decode b_J_edge 54 = .ok (.istore 5, 2) := by decide +kernel
theorem d_J_edge_56 : decode b_J_edge 56 = .ok (.aload_n 0, 1) := by decide +kernel
theorem d_J_edge_57 : decode b_J_edge 57 = .ok (.invokevirtual 95, 3) := by decide +kernel
theorem d_J_edge_60 : decode b_J_edge 60 = .ok (.aload_n 0, 1) := by decide +kernel
theorem d_J_edge_61 : decode b_J_edge 61 = .ok (.invokevirtual 80, 3) := by decide +kernel
theorem d_J_edge_64 : decode b_J_edge 64 = .ok (.ifCond .eq 20, 3) := by decide +kernel
theorem d_J_edge_67 : decode b_J_edge 67 = .ok (.iload_n 2, 1) := by decide +kernel
theorem d_J_edge_68 : decode b_J_edge 68 = .ok (.ifCond .eq 11, 3) := by decide +kernel
theorem d_J_edge_71 : decode b_J_edge 71 = .ok (.aload_n 0, 1) := by decide +kernel
theorem d_J_edge_72 : decode b_J_edge 72 = .ok (.iload_n 1, 1) := by decide +kernel
theorem d_J_edge_73 : decode b_J_edge 73 = .ok (.invokevirtual 98, 3) := by decide +kernel
theorem d_J_edge_76 : decode b_J_edge 76 = .ok (.goto 8, 3) := by decide +kernel
theorem d_J_edge_79 : decode b_J_edge 79 = .ok (.aload_n 0, 1) := by decide +kernel
theorem d_J_edge_80 : decode b_J_edge 80 = .ok (.iload_n 1, 1) := by decide +kernel
theorem d_J_edge_81 : decode b_J_edge 81 = .ok (.invokevirtual 102, 3) := by decide +kernel
theorem d_J_edge_84 : decode b_J_edge 84 = .ok (.aload_n 0, 1) := by decide +kernel
theorem d_J_edge_85 : decode b_J_edge 85 = .ok (.getfield 34, 3) := by decide +kernel
theorem d_J_edge_88 : decode b_J_edge 88 = .ok (.iload 5, 2) := by decide +kernel
theorem d_J_edge_90 : decode b_J_edge 90 = .ok (.if_icmp .le 10, 3) := by decide +kernel
theorem d_J_edge_93 : decode b_J_edge 93 = .ok (.iload 5, 2) := by decide +kernel
theorem d_J_edge_95 : decode b_J_edge 95 = .ok (.iconst 1, 1) := by decide +kernel
theorem d_J_edge_96 : decode b_J_edge 96 = .ok (.iadd, 1) := by decide +kernel
theorem d_J_edge_97 : decode b_J_edge 97 = .ok (.goto 4, 3) := by decide +kernel
theorem d_J_edge_100 : decode b_J_edge 100 = .ok (.iconst 0, 1) := by decide +kernel
theorem d_J_edge_101 : decode b_J_edge 101 = .ok (.ireturn, 1) := by decide +kernel
theorem d_J_doubt_0 : decode b_J_doubt 0 = .ok (.aload_n 0, 1) := by decide +kernel
theorem d_J_doubt_1 : decode b_J_doubt 1 = .ok (.iload_n 1, 1) := by decide +kernel
theorem d_J_doubt_2 : decode b_J_doubt 2 = .ok (.invokevirtual 105, 3) := by decide +kernel
theorem d_J_doubt_5 : decode b_J_doubt 5 = .ok (.ifCond .ne 6, 3) := by decide +kernel
theorem d_J_doubt_8 : decode b_J_doubt 8 = .ok (.bipush (-11), 2) := by decide +kernel
theorem d_J_doubt_10 : decode b_J_doubt 10 = .ok (.ireturn, 1) := by decide +kernel
theorem d_J_doubt_11 : decode b_J_doubt 11 = .ok (.iload_n 2, 1) := by decide +kernel
theorem d_J_doubt_12 : decode b_J_doubt 12 = .ok (.ifCond .ge 5, 3) := by decide +kernel
theorem d_J_doubt_15 : decode b_J_doubt 15 = .ok (.iconst (-1), 1) := by decide +kernel
theorem d_J_doubt_16 : decode b_J_doubt 16 = .ok (.ireturn, 1) := by decide +kernel
theorem d_J_doubt_17 : decode b_J_doubt 17 = .ok (.iload_n 2, 1) := by decide +kernel
theorem d_J_doubt_18 : decode b_J_doubt 18 = .ok (.istore_n 3, 1) := by decide +kernel
theorem d_J_doubt_19 : decode b_J_doubt 19 = .ok (.iconst 1, 1) := by decide +kernel
theorem d_J_doubt_20 : decode b_J_doubt 20 = .ok (.istore 4, 2) := by decide +kernel
theorem d_J_doubt_22 : decode b_J_doubt 22 = .ok (.iload 4, 2) := by decide +kernel
theorem d_J_doubt_24 : decode b_J_doubt 24 = .ok (.aload_n 0, 1) := by decide +kernel
theorem d_J_doubt_25 : decode b_J_doubt 25 = .ok (.getfield 25, 3) := by decide +kernel
theorem d_J_doubt_28 : decode b_J_doubt 28 = .ok (.if_icmp .gt 33, 3) := by decide +kernel
theorem d_J_doubt_31 : decode b_J_doubt 31 = .ok (.aload_n 0, 1) := by decide +kernel
theorem d_J_doubt_32 : decode b_J_doubt 32 = .ok (.getfield 30, 3) := by decide +kernel
theorem d_J_doubt_35 : decode b_J_doubt 35 = .ok (.iload_n 1, 1) := by decide +kernel
theorem d_J_doubt_36 : decode b_J_doubt 36 = .ok (.aaload, 1) := by decide +kernel
theorem d_J_doubt_37 : decode b_J_doubt 37 = .ok (.iload 4, 2) := by decide +kernel
theorem d_J_doubt_39 : decode b_J_doubt 39 = .ok (.invokevirtual 108, 3) := by decide +kernel
theorem d_J_doubt_42 : decode b_J_doubt 42 = .ok (.ifCond .eq 13, 3) := by decide +kernel
theorem d_J_doubt_45 : decode b_J_doubt 45 = .ok (.iload_n 3, 1) := by decide +kernel
theorem d_J_doubt_46 : decode b_J_doubt 46 = .ok (.ifCond .ne 6, 3) := by decide +kernel
theorem d_J_doubt_49 : decode b_J_doubt 49 = .ok (.iload 4, 2) := by decide +kernel
theorem d_J_doubt_51 : decode b_J_doubt 51 = .ok (.ireturn, 1) := by decide +kernel
theorem d_J_doubt_52 : decode b_J_doubt 52 = .ok (.iinc 3 (-1), 3) := by decide +kernel
theorem d_J_doubt_55 : decode b_J_doubt 55 = .ok (.iinc 4 1, 3) := by decide +kernel
theorem d_J_doubt_58 : decode b_J_doubt 58 = .ok (.goto (-36), 3) := by decide +kernel
theorem d_J_doubt_61 : decode b_J_doubt 61 = .ok (.iconst (-1), 1) := by decide +kernel
theorem d_J_doubt_62 : decode b_J_doubt 62 = .ok (.ireturn, 1) := by decide +kernel
theorem d_J_cause_0 : decode b_J_cause 0 = .ok (.aload_n 0, 1) := by decide +kernel
theorem d_J_cause_1 : decode b_J_cause 1 = .ok (.iload_n 1, 1) := by decide +kernel
theorem d_J_cause_2 : decode b_J_cause 2 = .ok (.invokevirtual 105, 3) := by decide +kernel
theorem d_J_cause_5 : decode b_J_cause 5 = .ok (.ifCond .ne 6, 3) := by decide +kernel
theorem d_J_cause_8 : decode b_J_cause 8 = .ok (.bipush (-11), 2) := by decide +kernel
theorem d_J_cause_10 : decode b_J_cause 10 = .ok (.ireturn, 1) := by decide +kernel
theorem d_J_cause_11 : decode b_J_cause 11 = .ok (.aload_n 0, 1) := by decide +kernel
theorem d_J_cause_12 : decode b_J_cause 12 = .ok (.getfield 30, 3) := by decide +kernel
theorem d_J_cause_15 : decode b_J_cause 15 = .ok (.iload_n 1, 1) := by decide +kernel
theorem d_J_cause_16 : decode b_J_cause 16 = .ok (.aaload, 1) := by decide +kernel
theorem d_J_cause_17 : decode b_J_cause 17 = .ok (.astore_n 2, 1) := by decide +kernel
theorem d_J_cause_18 : decode b_J_cause 18 = .ok (.aload_n 2, 1) := by decide +kernel
theorem d_J_cause_19 : decode b_J_cause 19 = .ok (.getfield 111, 3) := by decide +kernel
theorem d_J_cause_22 : decode b_J_cause 22 = .ok (.iconst (-1), 1) := by decide +kernel
theorem d_J_cause_23 : decode b_J_cause 23 = .ok (.if_icmp .ne 20, 3) := by decide +kernel
theorem d_J_cause_26 : decode b_J_cause 26 = .ok (.aload_n 2, 1) := by decide +kernel
theorem d_J_cause_27 : decode b_J_cause 27 = .ok (.getfield 114, 3) := by decide +kernel
theorem d_J_cause_30 : decode b_J_cause 30 = .ok (.bipush 6, 2) := by decide +kernel
theorem d_J_cause_32 : decode b_J_cause 32 = .ok (.if_icmp .eq 11, 3) := by decide +kernel
theorem d_J_cause_35 : decode b_J_cause 35 = .ok (.bipush 90, 2) := by decide +kernel
theorem d_J_cause_37 : decode b_J_cause 37 = .ok (.aload_n 2, 1) := by decide +kernel
theorem d_J_cause_38 : decode b_J_cause 38 = .ok (.getfield 114, 3) := by decide +kernel
theorem d_J_cause_41 : decode b_J_cause 41 = .ok (.iadd, 1) := by decide +kernel
theorem d_J_cause_42 : decode b_J_cause 42 = .ok (.ireturn, 1) := by decide +kernel
theorem d_J_cause_43 : decode b_J_cause 43 = .ok (.bipush 10, 2) := by decide +kernel
theorem d_J_cause_45 : decode b_J_cause 45 = .ok (.aload_n 2, 1) := by decide +kernel
theorem d_J_cause_46 : decode b_J_cause 46 = .ok (.getfield 114, 3) := by decide +kernel
theorem d_J_cause_49 : decode b_J_cause 49 = .ok (.imul, 1) := by decide +kernel
theorem d_J_cause_50 : decode b_J_cause 50 = .ok (.istore_n 3, 1) := by decide +kernel
theorem d_J_cause_51 : decode b_J_cause 51 = .ok (.aload_n 2, 1) := by decide +kernel
theorem d_J_cause_52 : decode b_J_cause 52 = .ok (.getfield 117, 3) := by decide +kernel
theorem d_J_cause_55 : decode b_J_cause 55 = .ok (.ifCond .eq 7, 3) := by decide +kernel
theorem d_J_cause_58 : decode b_J_cause 58 = .ok (.iload_n 3, 1) := by decide +kernel
theorem d_J_cause_59 : decode b_J_cause 59 = .ok (.iconst 2, 1) := by decide +kernel
theorem d_J_cause_60 : decode b_J_cause 60 = .ok (.iadd, 1) := by decide +kernel
theorem d_J_cause_61 : decode b_J_cause 61 = .ok (.ireturn, 1) := by decide +kernel
theorem d_J_cause_62 : decode b_J_cause 62 = .ok (.aload_n 0, 1) := by decide +kernel
theorem d_J_cause_63 : decode b_J_cause 63 = .ok (.iload_n 1, 1) := by decide +kernel
theorem d_J_cause_64 : decode b_J_cause 64 = .ok (.invokevirtual 120, 3) := by decide +kernel
theorem d_J_cause_67 : decode b_J_cause 67 = .ok (.ifCond .eq 9, 3) := by decide +kernel
theorem d_J_cause_70 : decode b_J_cause 70 = .ok (.iload_n 3, 1) := by decide +kernel
theorem d_J_cause_71 : decode b_J_cause 71 = .ok (.iconst 1, 1) := by decide +kernel
theorem d_J_cause_72 : decode b_J_cause 72 = .ok (.iadd, 1) := by decide +kernel
theorem d_J_cause_73 : decode b_J_cause 73 = .ok (.goto 4, 3) := by decide +kernel
theorem d_J_cause_76 : decode b_J_cause 76 = .ok (.iload_n 3, 1) := by decide +kernel
theorem d_J_cause_77 : decode b_J_cause 77 = .ok (.ireturn, 1) := by decide +kernel
theorem d_J_step_0 : decode b_J_step 0 = .ok (.aload_n 0, 1) := by decide +kernel
theorem d_J_step_1 : decode b_J_step 1 = .ok (.iload_n 1, 1) := by decide +kernel
theorem d_J_step_2 : decode b_J_step 2 = .ok (.invokevirtual 105, 3) := by decide +kernel
theorem d_J_step_5 : decode b_J_step 5 = .ok (.ifCond .ne 6, 3) := by decide +kernel
theorem d_J_step_8 : decode b_J_step 8 = .ok (.bipush (-11), 2) := by decide +kernel
theorem d_J_step_10 : decode b_J_step 10 = .ok (.ireturn, 1) := by decide +kernel
theorem d_J_step_11 : decode b_J_step 11 = .ok (.iload_n 2, 1) := by decide +kernel
theorem d_J_step_12 : decode b_J_step 12 = .ok (.iconst 1, 1) := by decide +kernel
theorem d_J_step_13 : decode b_J_step 13 = .ok (.if_icmp .lt 8, 3) := by decide +kernel
theorem d_J_step_16 : decode b_J_step 16 = .ok (.iload_n 2, 1) := by decide +kernel
theorem d_J_step_17 : decode b_J_step 17 = .ok (.iconst 5, 1) := by decide +kernel
theorem d_J_step_18 : decode b_J_step 18 = .ok (.if_icmp .le 6, 3) := by decide +kernel
theorem d_J_step_21 : decode b_J_step 21 = .ok (.bipush (-12), 2) := by decide +kernel
theorem d_J_step_23 : decode b_J_step 23 = .ok (.ireturn, 1) := by decide +kernel
theorem d_J_step_24 : decode b_J_step 24 = .ok (.iload_n 1, 1) := by decide +kernel
theorem d_J_step_25 : decode b_J_step 25 = .ok (.aload_n 0, 1) := by decide +kernel
theorem d_J_step_26 : decode b_J_step 26 = .ok (.getfield 37, 3) := by decide +kernel
theorem d_J_step_29 : decode b_J_step 29 = .ok (.iconst 1, 1) := by decide +kernel
theorem d_J_step_30 : decode b_J_step 30 = .ok (.iadd, 1) := by decide +kernel
theorem d_J_step_31 : decode b_J_step 31 = .ok (.if_icmp .eq 6, 3) := by decide +kernel
theorem d_J_step_34 : decode b_J_step 34 = .ok (.bipush (-13), 2) := by decide +kernel
theorem d_J_step_36 : decode b_J_step 36 = .ok (.ireturn, 1) := by decide +kernel
theorem d_J_step_37 : decode b_J_step 37 = .ok (.aload_n 0, 1) := by decide +kernel
theorem d_J_step_38 : decode b_J_step 38 = .ok (.getfield 30, 3) := by decide +kernel
theorem d_J_step_41 : decode b_J_step 41 = .ok (.iload_n 1, 1) := by decide +kernel
theorem d_J_step_42 : decode b_J_step 42 = .ok (.aaload, 1) := by decide +kernel
theorem d_J_step_43 : decode b_J_step 43 = .ok (.astore_n 3, 1) := by decide +kernel
theorem d_J_step_44 : decode b_J_step 44 = .ok (.aload_n 3, 1) := by decide +kernel
theorem d_J_step_45 : decode b_J_step 45 = .ok (.invokestatic 123, 3) := by decide +kernel
theorem d_J_step_48 : decode b_J_step 48 = .ok (.iload_n 2, 1) := by decide +kernel
theorem d_J_step_49 : decode b_J_step 49 = .ok (.if_icmp .eq 5, 3) := by decide +kernel
theorem d_J_step_52 : decode b_J_step 52 = .ok (.iconst 0, 1) := by decide +kernel
theorem d_J_step_53 : decode b_J_step 53 = .ok (.ireturn, 1) := by decide +kernel
theorem d_J_step_54 : decode b_J_step 54 = .ok (.aload_n 3, 1) := by decide +kernel
theorem d_J_step_55 : decode b_J_step 55 = .ok (.dup, 1) := by decide +kernel
theorem d_J_step_56 : decode b_J_step 56 = .ok (.getfield 127, 3) := by decide +kernel
theorem d_J_step_59 : decode b_J_step 59 = .ok (.iconst 1, 1) := by decide +kernel
theorem d_J_step_60 : decode b_J_step 60 = .ok (.iadd, 1) := by decide +kernel
theorem d_J_step_61 : decode b_J_step 61 = .ok (.putfield 127, 3) := by decide +kernel
theorem d_J_step_64 : decode b_J_step 64 = .ok (.iload_n 2, 1) := by decide +kernel
theorem d_J_step_65 : decode b_J_step 65 = .ok (.iconst 5, 1) := by decide +kernel
theorem d_J_step_66 : decode b_J_step 66 = .ok (.if_icmp .ne 7, 3) := by decide +kernel
theorem d_J_step_69 : decode b_J_step 69 = .ok (.aload_n 0, 1) := by decide +kernel
theorem d_J_step_70 : decode b_J_step 70 = .ok (.invokevirtual 130, 3) := by decide +kernel
theorem d_J_step_73 : decode b_J_step 73 = .ok (.aload_n 3, 1) := by decide +kernel
theorem d_J_step_74 : decode b_J_step 74 = .ok (.invokestatic 123, 3) := by decide +kernel
theorem d_J_step_77 : decode b_J_step 77 = .ok (.ifCond .ne 8, 3) := by decide +kernel
theorem d_J_step_80 : decode b_J_step 80 = .ok (.aload_n 0, 1) := by decide +kernel
theorem d_J_step_81 : decode b_J_step 81 = .ok (.iload_n 1, 1) := by decide +kernel
theorem d_J_step_82 : decode b_J_step 82 = .ok (.invokevirtual 133, 3) := by decide +kernel
theorem d_J_step_85 : decode b_J_step 85 = .ok (.iconst 1, 1) := by decide +kernel
theorem d_J_step_86 : decode b_J_step 86 = .ok (.ireturn, 1) := by decide +kernel
theorem d_J_feed_0 : decode b_J_feed 0 = .ok (.aload_n 0, 1) := by decide +kernel
theorem d_J_feed_1 : decode b_J_feed 1 = .ok (.iload_n 1, 1) := by decide +kernel
theorem d_J_feed_2 : decode b_J_feed 2 = .ok (.invokevirtual 136, 3) := by decide +kernel
theorem d_J_feed_5 : decode b_J_feed 5 = .ok (.ifCond .ne 6, 3) := by decide +kernel
theorem d_J_feed_8 : decode b_J_feed 8 = .ok (.bipush (-11), 2) := by decide +kernel
theorem d_J_feed_10 : decode b_J_feed 10 = .ok (.ireturn, 1) := by decide +kernel
theorem d_J_feed_11 : decode b_J_feed 11 = .ok (.aload_n 0, 1) := by decide +kernel
theorem d_J_feed_12 : decode b_J_feed 12 = .ok (.getfield 21, 3) := by decide +kernel
theorem d_J_feed_15 : decode b_J_feed 15 = .ok (.iload_n 1, 1) := by decide +kernel
theorem d_J_feed_16 : decode b_J_feed 16 = .ok (.aaload, 1) := by decide +kernel
theorem d_J_feed_17 : decode b_J_feed 17 = .ok (.astore_n 2, 1) := by decide +kernel
theorem d_J_feed_18 : decode b_J_feed 18 = .ok (.aload_n 2, 1) := by decide +kernel
theorem d_J_feed_19 : decode b_J_feed 19 = .ok (.getfield 139, 3) := by decide +kernel
theorem d_J_feed_22 : decode b_J_feed 22 = .ok (.ifCond .eq 5, 3) := by decide +kernel
theorem d_J_feed_25 : decode b_J_feed 25 = .ok (.iconst 0, 1) := by decide +kernel
theorem d_J_feed_26 : decode b_J_feed 26 = .ok (.ireturn, 1) := by decide +kernel
theorem d_J_feed_27 : decode b_J_feed 27 = .ok (.aload_n 2, 1) := by decide +kernel
theorem d_J_feed_28 : decode b_J_feed 28 = .ok (.getfield 142, 3) := by decide +kernel
theorem d_J_feed_31 : decode b_J_feed 31 = .ok (.ifCond .ne 6, 3) := by decide +kernel
theorem d_J_feed_34 : decode b_J_feed 34 = .ok (.bipush (-13), 2) := by decide +kernel
theorem d_J_feed_36 : decode b_J_feed 36 = .ok (.ireturn, 1) := by decide +kernel
theorem d_J_feed_37 : decode b_J_feed 37 = .ok (.aload_n 2, 1) := by decide +kernel
theorem d_J_feed_38 : decode b_J_feed 38 = .ok (.iconst 1, 1) := by decide +kernel
theorem d_J_feed_39 : decode b_J_feed 39 = .ok (.putfield 139, 3) := by decide +kernel
theorem d_J_feed_42 : decode b_J_feed 42 = .ok (.aload_n 0, 1) := by decide +kernel
theorem d_J_feed_43 : decode b_J_feed 43 = .ok (.iload_n 1, 1) := by decide +kernel
theorem d_J_feed_44 : decode b_J_feed 44 = .ok (.invokevirtual 145, 3) := by decide +kernel
theorem d_J_feed_47 : decode b_J_feed 47 = .ok (.iconst 1, 1) := by decide +kernel
theorem d_J_feed_48 : decode b_J_feed 48 = .ok (.ireturn, 1) := by decide +kernel
theorem d_J_listed_0 : decode b_J_listed 0 = .ok (.iload_n 1, 1) := by decide +kernel
theorem d_J_listed_1 : decode b_J_listed 1 = .ok (.ifCond .lt 20, 3) := by decide +kernel
theorem d_J_listed_4 : decode b_J_listed 4 = .ok (.iload_n 1, 1) := by decide +kernel
theorem d_J_listed_5 : decode b_J_listed 5 = .ok (.aload_n 0, 1) := by decide +kernel
theorem d_J_listed_6 : decode b_J_listed 6 = .ok (.getfield 51, 3) := by decide +kernel
theorem d_J_listed_9 : decode b_J_listed 9 = .ok (.if_icmp .ge 12, 3) := by decide +kernel
theorem d_J_listed_12 : decode b_J_listed 12 = .ok (.aload_n 0, 1) := by decide +kernel
theorem d_J_listed_13 : decode b_J_listed 13 = .ok (.getfield 47, 3) := by decide +kernel
theorem d_J_listed_16 : decode b_J_listed 16 = .ok (.iload_n 1, 1) := by decide +kernel
theorem d_J_listed_17 : decode b_J_listed 17 = .ok (.iaload, 1) := by decide +kernel
theorem d_J_listed_18 : decode b_J_listed 18 = .ok (.goto 4, 3) := by decide +kernel
theorem d_J_listed_21 : decode b_J_listed 21 = .ok (.iconst (-1), 1) := by decide +kernel
theorem d_J_listed_22 : decode b_J_listed 22 = .ok (.ireturn, 1) := by decide +kernel
theorem d_J_rule_0 : decode b_J_rule 0 = .ok (.iload_n 1, 1) := by decide +kernel
theorem d_J_rule_1 : decode b_J_rule 1 = .ok (.invokestatic 148, 3) := by decide +kernel
theorem d_J_rule_4 : decode b_J_rule 4 = .ok (.ifCond .eq 12, 3) := by decide +kernel
theorem d_J_rule_7 : decode b_J_rule 7 = .ok (.iload_n 2, 1) := by decide +kernel
theorem d_J_rule_8 : decode b_J_rule 8 = .ok (.ifCond .lt 8, 3) := by decide +kernel
theorem d_J_rule_11 : decode b_J_rule 11 = .ok (.iload_n 2, 1) := by decide +kernel
theorem d_J_rule_12 : decode b_J_rule 12 = .ok (.iconst 1, 1) := by decide +kernel
theorem d_J_rule_13 : decode b_J_rule 13 = .ok (.if_icmp .le 6, 3) := by decide +kernel
theorem d_J_rule_16 : decode b_J_rule 16 = .ok (.bipush (-12), 2) := by decide +kernel
theorem d_J_rule_18 : decode b_J_rule 18 = .ok (.ireturn, 1) := by decide +kernel
theorem d_J_rule_19 : decode b_J_rule 19 = .ok (.aload_n 0, 1) := by decide +kernel
theorem d_J_rule_20 : decode b_J_rule 20 = .ok (.getfield 40, 3) := by decide +kernel
theorem d_J_rule_23 : decode b_J_rule 23 = .ok (.iload_n 1, 1) := by decide +kernel
theorem d_J_rule_24 : decode b_J_rule 24 = .ok (.baload, 1) := by decide +kernel
theorem d_J_rule_25 : decode b_J_rule 25 = .ok (.ifCond .eq 7, 3) := by decide +kernel
theorem d_J_rule_28 : decode b_J_rule 28 = .ok (.iconst 1, 1) := by decide +kernel
theorem d_J_rule_29 : decode b_J_rule 29 = .ok (.goto 4, 3) := by decide +kernel
theorem d_J_rule_32 : decode b_J_rule 32 = .ok (.iconst 0, 1) := by decide +kernel
theorem d_J_rule_33 : decode b_J_rule 33 = .ok (.istore 4, 2) := by decide +kernel
theorem d_J_rule_35 : decode b_J_rule 35 = .ok (.aload_n 0, 1) := by decide +kernel
theorem d_J_rule_36 : decode b_J_rule 36 = .ok (.getfield 40, 3) := by decide +kernel
theorem d_J_rule_39 : decode b_J_rule 39 = .ok (.iload_n 1, 1) := by decide +kernel
theorem d_J_rule_40 : decode b_J_rule 40 = .ok (.iload_n 2, 1) := by decide +kernel
theorem d_J_rule_41 : decode b_J_rule 41 = .ok (.iconst 1, 1) := by decide +kernel
theorem d_J_rule_42 : decode b_J_rule 42 = .ok (.if_icmp .ne 7, 3) := by decide +kernel
theorem d_J_rule_45 : decode b_J_rule 45 = .ok (.iconst 1, 1) := by decide +kernel
theorem d_J_rule_46 : decode b_J_rule 46 = .ok (.goto 4, 3) := by decide +kernel
theorem d_J_rule_49 : decode b_J_rule 49 = .ok (.iconst 0, 1) := by decide +kernel
theorem d_J_rule_50 : decode b_J_rule 50 = .ok (.bastore, 1) := by decide +kernel
theorem d_J_rule_51 : decode b_J_rule 51 = .ok (.aload_n 0, 1) := by decide +kernel
theorem d_J_rule_52 : decode b_J_rule 52 = .ok (.getfield 44, 3) := by decide +kernel
theorem d_J_rule_55 : decode b_J_rule 55 = .ok (.iload_n 1, 1) := by decide +kernel
theorem d_J_rule_56 : decode b_J_rule 56 = .ok (.iload_n 3, 1) := by decide +kernel
theorem d_J_rule_57 : decode b_J_rule 57 = .ok (.bastore, 1) := by decide +kernel
theorem d_J_rule_58 : decode b_J_rule 58 = .ok (.iload 4, 2) := by decide +kernel
theorem d_J_rule_60 : decode b_J_rule 60 = .ok (.ireturn, 1) := by decide +kernel
theorem d_J_plant_0 : decode b_J_plant 0 = .ok (.iload_n 1, 1) := by decide +kernel
theorem d_J_plant_1 : decode b_J_plant 1 = .ok (.invokestatic 148, 3) := by decide +kernel
theorem d_J_plant_4 : decode b_J_plant 4 = .ok (.ifCond .eq 11, 3) := by decide +kernel
theorem d_J_plant_7 : decode b_J_plant 7 = .ok (.aload_n 0, 1) := by decide +kernel
theorem d_J_plant_8 : decode b_J_plant 8 = .ok (.lload_n 2, 1) := by decide +kernel
theorem d_J_plant_9 : decode b_J_plant 9 = .ok (.invokevirtual 72, 3) := by decide +kernel
theorem d_J_plant_12 : decode b_J_plant 12 = .ok (.ifCond .ne 6, 3) := by decide +kernel
theorem d_J_plant_15 : decode b_J_plant 15 = .ok (.bipush (-12), 2) := by decide +kernel
theorem d_J_plant_17 : decode b_J_plant 17 = .ok (.ireturn, 1) := by decide +kernel
theorem d_J_plant_18 : decode b_J_plant 18 = .ok (.aload_n 0, 1) := by decide +kernel
theorem d_J_plant_19 : decode b_J_plant 19 = .ok (.invokevirtual 80, 3) := by decide +kernel
theorem d_J_plant_22 : decode b_J_plant 22 = .ok (.ifCond .ne 6, 3) := by decide +kernel
theorem d_J_plant_25 : decode b_J_plant 25 = .ok (.bipush (-13), 2) := by decide +kernel
theorem d_J_plant_27 : decode b_J_plant 27 = .ok (.ireturn, 1) := by decide +kernel
theorem d_J_plant_28 : decode b_J_plant 28 = .ok (.aload_n 0, 1) := by decide +kernel
theorem d_J_plant_29 : decode b_J_plant 29 = .ok (.getfield 34, 3) := by decide +kernel
theorem d_J_plant_32 : decode b_J_plant 32 = .ok (.bipush 40, 2) := by decide +kernel
theorem d_J_plant_34 : decode b_J_plant 34 = .ok (.if_icmp .lt 5, 3) := by decide +kernel
theorem d_J_plant_37 : decode b_J_plant 37 = .ok (.iconst 0, 1) := by decide +kernel
theorem d_J_plant_38 : decode b_J_plant 38 = .ok (.ireturn, 1) := by decide +kernel
theorem d_J_plant_39 : decode b_J_plant 39 = .ok (.aload_n 0, 1) := by decide +kernel
theorem d_J_plant_40 : decode b_J_plant 40 = .ok (.lload_n 2, 1) := by decide +kernel
theorem d_J_plant_41 : decode b_J_plant 41 = .ok (.putfield 54, 3) := by decide +kernel
theorem d_J_plant_44 : decode b_J_plant 44 = .ok (.aload_n 0, 1) := by decide +kernel
theorem d_J_plant_45 : decode b_J_plant 45 = .ok (.iload_n 1, 1) := by decide +kernel
theorem d_J_plant_46 : decode b_J_plant 46 = .ok (.iconst (-1), 1) := by decide +kernel
theorem d_J_plant_47 : decode b_J_plant 47 = .ok (.invokevirtual 151, 3) := by decide +kernel
theorem d_J_plant_50 : decode b_J_plant 50 = .ok (.ireturn, 1) := by decide +kernel
theorem d_J_alarm_0 : decode b_J_alarm 0 = .ok (.iload_n 2, 1) := by decide +kernel
theorem d_J_alarm_1 : decode b_J_alarm 1 = .ok (.ifCond .lt 8, 3) := by decide +kernel
theorem d_J_alarm_4 : decode b_J_alarm 4 = .ok (.iload_n 2, 1) := by decide +kernel
theorem d_J_alarm_5 : decode b_J_alarm 5 = .ok (.iconst 4, 1) := by decide +kernel
theorem d_J_alarm_6 : decode b_J_alarm 6 = .ok (.if_icmp .le 6, 3) := by decide +kernel
theorem d_J_alarm_9 : decode b_J_alarm 9 = .ok (.bipush (-12), 2) := by decide +kernel
theorem d_J_alarm_11 : decode b_J_alarm 11 = .ok (.ireturn, 1) := by decide +kernel
theorem d_J_alarm_12 : decode b_J_alarm 12 = .ok (.aload_n 0, 1) := by decide +kernel
theorem d_J_alarm_13 : decode b_J_alarm 13 = .ok (.iload_n 1, 1) := by decide +kernel
theorem d_J_alarm_14 : decode b_J_alarm 14 = .ok (.invokevirtual 155, 3) := by decide +kernel
theorem d_J_alarm_17 : decode b_J_alarm 17 = .ok (.istore_n 3, 1) := by decide +kernel
theorem d_J_alarm_18 : decode b_J_alarm 18 = .ok (.aload_n 0, 1) := by decide +kernel
theorem d_J_alarm_19 : decode b_J_alarm 19 = .ok (.iload_n 3, 1) := by decide +kernel
theorem d_J_alarm_20 : decode b_J_alarm 20 = .ok (.invokevirtual 105, 3) := by decide +kernel
theorem d_J_alarm_23 : decode b_J_alarm 23 = .ok (.ifCond .ne 5, 3) := by decide +kernel
theorem d_J_alarm_26 : decode b_J_alarm 26 = .ok (.iconst (-1), 1) := by decide +kernel
theorem d_J_alarm_27 : decode b_J_alarm 27 = .ok (.ireturn, 1) := by decide +kernel
theorem d_J_alarm_28 : decode b_J_alarm 28 = .ok (.aload_n 0, 1) := by decide +kernel
theorem d_J_alarm_29 : decode b_J_alarm 29 = .ok (.getfield 30, 3) := by decide +kernel
theorem d_J_alarm_32 : decode b_J_alarm 32 = .ok (.iload_n 3, 1) := by decide +kernel
theorem d_J_alarm_33 : decode b_J_alarm 33 = .ok (.aaload, 1) := by decide +kernel
theorem d_J_alarm_34 : decode b_J_alarm 34 = .ok (.astore 4, 2) := by decide +kernel
theorem d_J_alarm_36 : decode b_J_alarm 36 = .ok (.iload_n 2, 1) := by decide +kernel
theorem d_J_alarm_37 : decode b_J_alarm 37 = .ok (.tableswitch 51 0 3 #[31, 33, 39, 45], 31) := by decide +kernel
theorem d_J_alarm_68 : decode b_J_alarm 68 = .ok (.iload_n 3, 1) := by decide +kernel
theorem d_J_alarm_69 : decode b_J_alarm 69 = .ok (.ireturn, 1) := by decide +kernel
theorem d_J_alarm_70 : decode b_J_alarm 70 = .ok (.aload 4, 2) := by decide +kernel
theorem d_J_alarm_72 : decode b_J_alarm 72 = .ok (.invokevirtual 159, 3) := by decide +kernel
theorem d_J_alarm_75 : decode b_J_alarm 75 = .ok (.ireturn, 1) := by decide +kernel
theorem d_J_alarm_76 : decode b_J_alarm 76 = .ok (.aload 4, 2) := by decide +kernel
theorem d_J_alarm_78 : decode b_J_alarm 78 = .ok (.getfield 114, 3) := by decide +kernel
theorem d_J_alarm_81 : decode b_J_alarm 81 = .ok (.ireturn, 1) := by decide +kernel
theorem d_J_alarm_82 : decode b_J_alarm 82 = .ok (.aload 4, 2) := by decide +kernel
theorem d_J_alarm_84 : decode b_J_alarm 84 = .ok (.getfield 111, 3) := by decide +kernel
theorem d_J_alarm_87 : decode b_J_alarm 87 = .ok (.ireturn, 1) := by decide +kernel
theorem d_J_alarm_88 : decode b_J_alarm 88 = .ok (.aload 4, 2) := by decide +kernel
theorem d_J_alarm_90 : decode b_J_alarm 90 = .ok (.getfield 163, 3) := by decide +kernel
theorem d_J_alarm_93 : decode b_J_alarm 93 = .ok (.l2i, 1) := by decide +kernel
theorem d_J_alarm_94 : decode b_J_alarm 94 = .ok (.ireturn, 1) := by decide +kernel
theorem d_J_count_0 : decode b_J_count 0 = .ok (.aload_n 0, 1) := by decide +kernel
theorem d_J_count_1 : decode b_J_count 1 = .ok (.iload_n 1, 1) := by decide +kernel
theorem d_J_count_2 : decode b_J_count 2 = .ok (.invokevirtual 87, 3) := by decide +kernel
theorem d_J_count_5 : decode b_J_count 5 = .ok (.ifCond .eq 15, 3) := by decide +kernel
theorem d_J_count_8 : decode b_J_count 8 = .ok (.aload_n 0, 1) := by decide +kernel
theorem d_J_count_9 : decode b_J_count 9 = .ok (.getfield 11, 3) := by decide +kernel
theorem d_J_count_12 : decode b_J_count 12 = .ok (.iload_n 1, 1) := by decide +kernel
theorem d_J_count_13 : decode b_J_count 13 = .ok (.aaload, 1) := by decide +kernel
theorem d_J_count_14 : decode b_J_count 14 = .ok (.getfield 166, 3) := by decide +kernel
theorem d_J_count_17 : decode b_J_count 17 = .ok (.goto 5, 3) := by decide +kernel
theorem d_J_count_20 : decode b_J_count 20 = .ok (.bipush (-11), 2) := by decide +kernel
theorem d_J_count_22 : decode b_J_count 22 = .ok (.ireturn, 1) := by decide +kernel
