theorem d_M_lighten_0 : decode b_M_lighten 0 = .ok (.aload_n 0, 1) := by decide +kernel
theorem d_M_lighten_1 : decode b_M_lighten 1 = .ok (.getfield 24, 3) := by decide +kernel
theorem d_M_lighten_4 : decode b_M_lighten 4 = .ok (.iload_n 1, 1) := by decide +kernel
theorem d_M_lighten_5 : decode b_M_lighten 5 = .ok (.iaload, 1) := by decide +kernel
theorem d_M_lighten_6 : decode b_M_lighten 6 = .ok (.istore 4, 2) := by decide +kernel
theorem d_M_lighten_8 : decode b_M_lighten 8 = .ok (.lload_n 2, 1) := by decide +kernel
theorem d_M_lighten_9 : decode b_M_lighten 9 = .ok (.aload_n 0, 1) := by decide +kernel
theorem d_M_lighten_10 : decode b_M_lighten 10 = .ok (.getfield 21, 3) := by decide +kernel
theorem d_M_lighten_13 : decode b_M_lighten 13 = .ok (.iload_n 1, 1) := by decide +kernel
theorem d_M_lighten_14 : decode b_M_lighten 14 = .ok (.laload, 1) := by decide +kernel
theorem d_M_lighten_15 : decode b_M_lighten 15 = .ok (.lsub, 1) := by decide +kernel
theorem d_M_lighten_16 : decode b_M_lighten 16 = .ok (.lstore 5, 2) := by decide +kernel
theorem d_M_lighten_18 : decode b_M_lighten 18 = .ok (.iload 4, 2) := by decide +kernel
theorem d_M_lighten_20 : decode b_M_lighten 20 = .ok (.ifCond .le 77, 3) := by decide +kernel
theorem d_M_lighten_23 : decode b_M_lighten 23 = .ok (.lload 5, 2) := by decide +kernel
theorem d_M_lighten_25 : decode b_M_lighten 25 = .ok (.aload_n 0, 1) := by decide +kernel
theorem d_M_lighten_26 : decode b_M_lighten 26 = .ok (.getfield 30, 3) := by decide +kernel
theorem d_M_lighten_29 : decode b_M_lighten 29 = .ok (.iload 4, 2) := by decide +kernel
theorem d_M_lighten_31 : decode b_M_lighten 31 = .ok (.laload, 1) := by decide +kernel
theorem d_M_lighten_32 : decode b_M_lighten 32 = .ok (.lsub, 1) := by decide +kernel
theorem d_M_lighten_33 : decode b_M_lighten 33 = .ok (.ldc2_w 152, 3) := by decide +kernel
theorem d_M_lighten_36 : decode b_M_lighten 36 = .ok (.lcmp, 1) := by decide +kernel
theorem d_M_lighten_37 : decode b_M_lighten 37 = .ok (.ifCond .lt 60, 3) := by decide +kernel
theorem d_M_lighten_40 : decode b_M_lighten 40 = .ok (.aload_n 0, 1) := by decide +kernel
theorem d_M_lighten_41 : decode b_M_lighten 41 = .ok (.iconst 3, 1) := by decide +kernel
theorem d_M_lighten_42 : decode b_M_lighten 42 = .ok (.iload_n 1, 1) := by decide +kernel
theorem d_M_lighten_43 : decode b_M_lighten 43 = .ok (.lload_n 2, 1) := by decide +kernel
theorem d_M_lighten_44 : decode b_M_lighten 44 = .ok (.iconst 0, 1) := by decide +kernel
theorem d_M_lighten_45 : decode b_M_lighten 45 = .ok (.invokevirtual 140, 3) := by decide +kernel
theorem d_M_lighten_48 : decode b_M_lighten 48 = .ok (.istore 7, 2) := by decide +kernel
theorem d_M_lighten_50 : decode b_M_lighten 50 = .ok (.aload_n 0, 1) := by decide +kernel
theorem d_M_lighten_51 : decode b_M_lighten 51 = .ok (.iload_n 1, 1) := by decide +kernel
theorem d_M_lighten_52 : decode b_M_lighten 52 = .ok (.invokevirtual 144, 3) := by decide +kernel
theorem d_M_lighten_55 : decode b_M_lighten 55 = .ok (.istore 8, 2) := by decide +kernel
theorem d_M_lighten_57 : decode b_M_lighten 57 = .ok (.aload_n 0, 1) := by decide +kernel
theorem d_M_lighten_58 : decode b_M_lighten 58 = .ok (.getfield 36, 3) := by decide +kernel
theorem d_M_lighten_61 : decode b_M_lighten 61 = .ok (.iload 4, 2) := by decide +kernel
theorem d_M_lighten_63 : decode b_M_lighten 63 = .ok (.iconst 1, 1) := by decide +kernel
theorem d_M_lighten_64 : decode b_M_lighten 64 = .ok (.iastore, 1) := by decide +kernel
theorem d_M_lighten_65 : decode b_M_lighten 65 = .ok (.iload 8, 2) := by decide +kernel
theorem d_M_lighten_67 : decode b_M_lighten 67 = .ok (.ifCond .le 27, 3) := by decide +kernel
theorem d_M_lighten_70 : decode b_M_lighten 70 = .ok (.aload_n 0, 1) := by decide +kernel
theorem d_M_lighten_71 : decode b_M_lighten 71 = .ok (.iload 8, 2) := by decide +kernel
theorem d_M_lighten_73 : decode b_M_lighten 73 = .ok (.iload_n 1, 1) := by decide +kernel
theorem d_M_lighten_74 : decode b_M_lighten 74 = .ok (.invokevirtual 148, 3) := by decide +kernel
theorem d_M_lighten_77 : decode b_M_lighten 77 = .ok (.lload_n 2, 1) := by decide +kernel
theorem d_M_lighten_78 : decode b_M_lighten 78 = .ok (.lsub, 1) := by decide +kernel
theorem d_M_lighten_79 : decode b_M_lighten 79 = .ok (.ldc2_w 156, 3) := by decide +kernel
theorem d_M_lighten_82 : decode b_M_lighten 82 = .ok (.lcmp, 1) := by decide +kernel
theorem d_M_lighten_83 : decode b_M_lighten 83 = .ok (.ifCond .gt 11, 3) := by decide +kernel
theorem d_M_lighten_86 : decode b_M_lighten 86 = .ok (.aload_n 0, 1) := by decide +kernel
theorem d_M_lighten_87 : decode b_M_lighten 87 = .ok (.getfield 36, 3) := by decide +kernel
theorem d_M_lighten_90 : decode b_M_lighten 90 = .ok (.iload 8, 2) := by decide +kernel
theorem d_M_lighten_92 : decode b_M_lighten 92 = .ok (.iconst 1, 1) := by decide +kernel
theorem d_M_lighten_93 : decode b_M_lighten 93 = .ok (.iastore, 1) := by decide +kernel
theorem d_M_lighten_94 : decode b_M_lighten 94 = .ok (.goto 35, 3) := by decide +kernel
theorem d_M_lighten_97 : decode b_M_lighten 97 = .ok (.iload 4, 2) := by decide +kernel
theorem d_M_lighten_99 : decode b_M_lighten 99 = .ok (.ifCond .le 30, 3) := by decide +kernel
theorem d_M_lighten_102 : decode b_M_lighten 102 = .ok (.aload_n 0, 1) := by decide +kernel
theorem d_M_lighten_103 : decode b_M_lighten 103 = .ok (.getfield 30, 3) := by decide +kernel
theorem d_M_lighten_106 : decode b_M_lighten 106 = .ok (.iload 4, 2) := by decide +kernel
theorem d_M_lighten_108 : decode b_M_lighten 108 = .ok (.laload, 1) := by decide +kernel
theorem d_M_lighten_109 : decode b_M_lighten 109 = .ok (.lload 5, 2) := by decide +kernel
theorem d_M_lighten_111 : decode b_M_lighten 111 = .ok (.lsub, 1) := by decide +kernel
theorem d_M_lighten_112 : decode b_M_lighten 112 = .ok (.ldc2_w 152, 3) := by decide +kernel
theorem d_M_lighten_115 : decode b_M_lighten 115 = .ok (.lcmp, 1) := by decide +kernel
theorem d_M_lighten_116 : decode b_M_lighten 116 = .ok (.ifCond .lt 13, 3) := by decide +kernel
theorem d_M_lighten_119 : decode b_M_lighten 119 = .ok (.aload_n 0, 1) := by decide +kernel
theorem d_M_lighten_120 : decode b_M_lighten 120 = .ok (.iconst 4, 1) := by decide +kernel
theorem d_M_lighten_121 : decode b_M_lighten 121 = .ok (.iload_n 1, 1) := by decide +kernel
theorem d_M_lighten_122 : decode b_M_lighten 122 = .ok (.lload_n 2, 1) := by decide +kernel
theorem d_M_lighten_123 : decode b_M_lighten 123 = .ok (.iconst 0, 1) := by decide +kernel
theorem d_M_lighten_124 : decode b_M_lighten 124 = .ok (.invokevirtual 140, 3) := by decide +kernel
theorem d_M_lighten_127 : decode b_M_lighten 127 = .ok (.istore 7, 2) := by decide +kernel
theorem d_M_lighten_129 : decode b_M_lighten 129 = .ok (.iload 4, 2) := by decide +kernel
theorem d_M_lighten_131 : decode b_M_lighten 131 = .ok (.ifCond .le 31, 3) := by decide +kernel
theorem d_M_lighten_134 : decode b_M_lighten 134 = .ok (.iload_n 1, 1) := by decide +kernel
theorem d_M_lighten_135 : decode b_M_lighten 135 = .ok (.aload_n 0, 1) := by decide +kernel
theorem d_M_lighten_136 : decode b_M_lighten 136 = .ok (.getfield 93, 3) := by decide +kernel
theorem d_M_lighten_139 : decode b_M_lighten 139 = .ok (.iconst 1, 1) := by decide +kernel
theorem d_M_lighten_140 : decode b_M_lighten 140 = .ok (.isub, 1) := by decide +kernel
theorem d_M_lighten_141 : decode b_M_lighten 141 = .ok (.if_icmp .ne 21, 3) := by decide +kernel
theorem d_M_lighten_144 : decode b_M_lighten 144 = .ok (.aload_n 0, 1) := by decide +kernel
theorem d_M_lighten_145 : decode b_M_lighten 145 = .ok (.getfield 36, 3) := by decide +kernel
theorem d_M_lighten_148 : decode b_M_lighten 148 = .ok (.iload 4, 2) := by decide +kernel
theorem d_M_lighten_150 : decode b_M_lighten 150 = .ok (.iaload, 1) := by decide +kernel
theorem d_M_lighten_151 : decode b_M_lighten 151 = .ok (.ifCond .ne 11, 3) := by decide +kernel
theorem d_M_lighten_154 : decode b_M_lighten 154 = .ok (.aload_n 0, 1) := by decide +kernel
theorem d_M_lighten_155 : decode b_M_lighten 155 = .ok (.getfield 36, 3) := by decide +kernel
theorem d_M_lighten_158 : decode b_M_lighten 158 = .ok (.iload 4, 2) := by decide +kernel
theorem d_M_lighten_160 : decode b_M_lighten 160 = .ok (.iconst 2, 1) := by decide +kernel
theorem d_M_lighten_161 : decode b_M_lighten 161 = .ok (.iastore, 1) := by decide +kernel
theorem d_M_lighten_162 : decode b_M_lighten 162 = .ok (.aload_n 0, 1) := by decide +kernel
theorem d_M_lighten_163 : decode b_M_lighten 163 = .ok (.getfield 13, 3) := by decide +kernel
theorem d_M_lighten_166 : decode b_M_lighten 166 = .ok (.iload_n 1, 1) := by decide +kernel
theorem d_M_lighten_167 : decode b_M_lighten 167 = .ok (.iconst 0, 1) := by decide +kernel
theorem d_M_lighten_168 : decode b_M_lighten 168 = .ok (.bastore, 1) := by decide +kernel
theorem d_M_lighten_169 : decode b_M_lighten 169 = .ok (.aload_n 0, 1) := by decide +kernel
theorem d_M_lighten_170 : decode b_M_lighten 170 = .ok (.getfield 24, 3) := by decide +kernel
theorem d_M_lighten_173 : decode b_M_lighten 173 = .ok (.iload_n 1, 1) := by decide +kernel
theorem d_M_lighten_174 : decode b_M_lighten 174 = .ok (.iconst 0, 1) := by decide +kernel
theorem d_M_lighten_175 : decode b_M_lighten 175 = .ok (.iastore, 1) := by decide +kernel
theorem d_M_lighten_176 : decode b_M_lighten 176 = .ok (.return_, 1) := by decide +kernel
theorem d_M_edge_0 : decode b_M_edge 0 = .ok (.aload_n 0, 1) := by decide +kernel
theorem d_M_edge_1 : decode b_M_edge 1 = .ok (.iload_n 1, 1) := by decide +kernel
theorem d_M_edge_2 : decode b_M_edge 2 = .ok (.invokevirtual 158, 3) := by decide +kernel
theorem d_M_edge_5 : decode b_M_edge 5 = .ok (.ifCond .eq 6, 3) := by decide +kernel
theorem d_M_edge_8 : decode b_M_edge 8 = .ok (.bipush (-11), 2) := by decide +kernel
theorem d_M_edge_10 : decode b_M_edge 10 = .ok (.ireturn, 1) := by decide +kernel
theorem d_M_edge_11 : decode b_M_edge 11 = .ok (.lload_n 3, 1) := by decide +kernel
theorem d_M_edge_12 : decode b_M_edge 12 = .ok (.aload_n 0, 1) := by decide +kernel
theorem d_M_edge_13 : decode b_M_edge 13 = .ok (.getfield 115, 3) := by decide +kernel
theorem d_M_edge_16 : decode b_M_edge 16 = .ok (.ldc2_w 119, 3) := by decide +kernel
theorem d_M_edge_19 : decode b_M_edge 19 = .ok (.invokestatic 111, 3) := by decide +kernel
theorem d_M_edge_22 : decode b_M_edge 22 = .ok (.ifCond .ne 6, 3) := by decide +kernel
theorem d_M_edge_25 : decode b_M_edge 25 = .ok (.bipush (-12), 2) := by decide +kernel
theorem d_M_edge_27 : decode b_M_edge 27 = .ok (.ireturn, 1) := by decide +kernel
theorem d_M_edge_28 : decode b_M_edge 28 = .ok (.aload_n 0, 1) := by decide +kernel
theorem d_M_edge_29 : decode b_M_edge 29 = .ok (.invokevirtual 123, 3) := by decide +kernel
theorem d_M_edge_32 : decode b_M_edge 32 = .ok (.ifCond .ne 13, 3) := by decide +kernel
theorem d_M_edge_35 : decode b_M_edge 35 = .ok (.aload_n 0, 1) := by decide +kernel
theorem d_M_edge_36 : decode b_M_edge 36 = .ok (.getfield 13, 3) := by decide +kernel
theorem d_M_edge_39 : decode b_M_edge 39 = .ok (.iload_n 1, 1) := by decide +kernel
theorem d_M_edge_40 : decode b_M_edge 40 = .ok (.baload, 1) := by decide +kernel
theorem d_M_edge_41 : decode b_M_edge 41 = .ok (.iload_n 2, 1) := by decide +kernel
theorem d_M_edge_42 : decode b_M_edge 42 = .ok (.if_icmp .ne 6, 3) := by decide +kernel
theorem d_M_edge_45 : decode b_M_edge 45 = .ok (.bipush (-13), 2) := by decide +kernel
theorem d_M_edge_47 : decode b_M_edge 47 = .ok (.ireturn, 1) := by decide +kernel
theorem d_M_edge_48 : decode b_M_edge 48 = .ok (.aload_n 0, 1) := by decide +kernel
theorem d_M_edge_49 : decode b_M_edge 49 = .ok (.lload_n 3, 1) := by decide +kernel
theorem d_M_edge_50 : decode b_M_edge 50 = .ok (.putfield 115, 3) := by decide +kernel
theorem d_M_edge_53 : decode b_M_edge 53 = .ok (.aload_n 0, 1) := by decide +kernel
theorem d_M_edge_54 : decode b_M_edge 54 = .ok (.iconst 0, 1) := by decide +kernel
theorem d_M_edge_55 : decode b_M_edge 55 = .ok (.putfield 135, 3) := by decide +kernel
theorem d_M_edge_58 : decode b_M_edge 58 = .ok (.aload_n 0, 1) := by decide +kernel
theorem d_M_edge_59 : decode b_M_edge 59 = .ok (.lload_n 3, 1) := by decide +kernel
theorem d_M_edge_60 : decode b_M_edge 60 = .ok (.invokevirtual 162, 3) := by decide +kernel
theorem d_M_edge_63 : decode b_M_edge 63 = .ok (.aload_n 0, 1) := by decide +kernel
theorem d_M_edge_64 : decode b_M_edge 64 = .ok (.invokevirtual 123, 3) := by decide +kernel
theorem d_M_edge_67 : decode b_M_edge 67 = .ok (.ifCond .ne 22, 3) := by decide +kernel
theorem d_M_edge_70 : decode b_M_edge 70 = .ok (.iload_n 2, 1) := by decide +kernel
theorem d_M_edge_71 : decode b_M_edge 71 = .ok (.ifCond .eq 12, 3) := by decide +kernel
theorem d_M_edge_74 : decode b_M_edge 74 = .ok (.aload_n 0, 1) := by decide +kernel
theorem d_M_edge_75 : decode b_M_edge 75 = .ok (.iload_n 1, 1) := by decide +kernel
theorem d_M_edge_76 : decode b_M_edge 76 = .ok (.lload_n 3, 1) := by decide +kernel
theorem d_M_edge_77 : decode b_M_edge 77 = .ok (.invokevirtual 166, 3) := by decide +kernel
theorem d_M_edge_80 : decode b_M_edge 80 = .ok (.goto 9, 3) := by decide +kernel
theorem d_M_edge_83 : decode b_M_edge 83 = .ok (.aload_n 0, 1) := by decide +kernel
theorem d_M_edge_84 : decode b_M_edge 84 = .ok (.iload_n 1, 1) := by decide +kernel
theorem d_M_edge_85 : decode b_M_edge 85 = .ok (.lload_n 3, 1) := by decide +kernel
theorem d_M_edge_86 : decode b_M_edge 86 = .ok (.invokevirtual 170, 3) := by decide +kernel
theorem d_M_edge_89 : decode b_M_edge 89 = .ok (.aload_n 0, 1) := by decide +kernel
theorem d_M_edge_90 : decode b_M_edge 90 = .ok (.getfield 135, 3) := by decide +kernel
theorem d_M_edge_93 : decode b_M_edge 93 = .ok (.ireturn, 1) := by decide +kernel
theorem d_M_noFault_0 : decode b_M_noFault 0 = .ok (.iload_n 1, 1) := by decide +kernel
theorem d_M_noFault_1 : decode b_M_noFault 1 = .ok (.iconst 1, 1) := by decide +kernel
theorem d_M_noFault_2 : decode b_M_noFault 2 = .ok (.if_icmp .lt 11, 3) := by decide +kernel
theorem d_M_noFault_5 : decode b_M_noFault 5 = .ok (.iload_n 1, 1) := by decide +kernel
theorem d_M_noFault_6 : decode b_M_noFault 6 = .ok (.aload_n 0, 1) := by decide +kernel
theorem d_M_noFault_7 : decode b_M_noFault 7 = .ok (.getfield 97, 3) := by decide +kernel
theorem d_M_noFault_10 : decode b_M_noFault 10 = .ok (.if_icmp .le 7, 3) := by decide +kernel
theorem d_M_noFault_13 : decode b_M_noFault 13 = .ok (.iconst 1, 1) := by decide +kernel
theorem d_M_noFault_14 : decode b_M_noFault 14 = .ok (.goto 4, 3) := by decide +kernel
theorem d_M_noFault_17 : decode b_M_noFault 17 = .ok (.iconst 0, 1) := by decide +kernel
theorem d_M_noFault_18 : decode b_M_noFault 18 = .ok (.ireturn, 1) := by decide +kernel
theorem d_M_doubt_0 : decode b_M_doubt 0 = .ok (.aload_n 0, 1) := by decide +kernel
theorem d_M_doubt_1 : decode b_M_doubt 1 = .ok (.iload_n 1, 1) := by decide +kernel
theorem d_M_doubt_2 : decode b_M_doubt 2 = .ok (.invokevirtual 173, 3) := by decide +kernel
theorem d_M_doubt_5 : decode b_M_doubt 5 = .ok (.ifCond .eq 6, 3) := by decide +kernel
theorem d_M_doubt_8 : decode b_M_doubt 8 = .ok (.bipush (-11), 2) := by decide +kernel
theorem d_M_doubt_10 : decode b_M_doubt 10 = .ok (.ireturn, 1) := by decide +kernel
theorem d_M_doubt_11 : decode b_M_doubt 11 = .ok (.iconst 0, 1) := by decide +kernel
theorem d_M_doubt_12 : decode b_M_doubt 12 = .ok (.istore_n 3, 1) := by decide +kernel
theorem d_M_doubt_13 : decode b_M_doubt 13 = .ok (.iconst 1, 1) := by decide +kernel
theorem d_M_doubt_14 : decode b_M_doubt 14 = .ok (.istore 4, 2) := by decide +kernel
theorem d_M_doubt_16 : decode b_M_doubt 16 = .ok (.iload 4, 2) := by decide +kernel
theorem d_M_doubt_18 : decode b_M_doubt 18 = .ok (.aload_n 0, 1) := by decide +kernel
theorem d_M_doubt_19 : decode b_M_doubt 19 = .ok (.getfield 104, 3) := by decide +kernel
theorem d_M_doubt_22 : decode b_M_doubt 22 = .ok (.if_icmp .gt 35, 3) := by decide +kernel
theorem d_M_doubt_25 : decode b_M_doubt 25 = .ok (.aload_n 0, 1) := by decide +kernel
theorem d_M_doubt_26 : decode b_M_doubt 26 = .ok (.getfield 75, 3) := by decide +kernel
theorem d_M_doubt_29 : decode b_M_doubt 29 = .ok (.bipush 61, 2) := by decide +kernel
theorem d_M_doubt_31 : decode b_M_doubt 31 = .ok (.iload_n 1, 1) := by decide +kernel
theorem d_M_doubt_32 : decode b_M_doubt 32 = .ok (.imul, 1) := by decide +kernel
theorem d_M_doubt_33 : decode b_M_doubt 33 = .ok (.iload 4, 2) := by decide +kernel
theorem d_M_doubt_35 : decode b_M_doubt 35 = .ok (.iadd, 1) := by decide +kernel
theorem d_M_doubt_36 : decode b_M_doubt 36 = .ok (.baload, 1) := by decide +kernel
theorem d_M_doubt_37 : decode b_M_doubt 37 = .ok (.ifCond .eq 14, 3) := by decide +kernel
theorem d_M_doubt_40 : decode b_M_doubt 40 = .ok (.iload_n 3, 1) := by decide +kernel
theorem d_M_doubt_41 : decode b_M_doubt 41 = .ok (.iload_n 2, 1) := by decide +kernel
theorem d_M_doubt_42 : decode b_M_doubt 42 = .ok (.if_icmp .ne 6, 3) := by decide +kernel
theorem d_M_doubt_45 : decode b_M_doubt 45 = .ok (.iload 4, 2) := by decide +kernel
theorem d_M_doubt_47 : decode b_M_doubt 47 = .ok (.ireturn, 1) := by decide +kernel
theorem d_M_doubt_48 : decode b_M_doubt 48 = .ok (.iinc 3 1, 3) := by decide +kernel
theorem d_M_doubt_51 : decode b_M_doubt 51 = .ok (.iinc 4 1, 3) := by decide +kernel
theorem d_M_doubt_54 : decode b_M_doubt 54 = .ok (.goto (-38), 3) := by decide +kernel
theorem d_M_doubt_57 : decode b_M_doubt 57 = .ok (.iconst (-1), 1) := by decide +kernel
theorem d_M_doubt_58 : decode b_M_doubt 58 = .ok (.ireturn, 1) := by decide +kernel
theorem d_M_cause_0 : decode b_M_cause 0 = .ok (.aload_n 0, 1) := by decide +kernel
theorem d_M_cause_1 : decode b_M_cause 1 = .ok (.iload_n 1, 1) := by decide +kernel
theorem d_M_cause_2 : decode b_M_cause 2 = .ok (.invokevirtual 173, 3) := by decide +kernel
theorem d_M_cause_5 : decode b_M_cause 5 = .ok (.ifCond .eq 6, 3) := by decide +kernel
theorem d_M_cause_8 : decode b_M_cause 8 = .ok (.bipush (-11), 2) := by decide +kernel
theorem d_M_cause_10 : decode b_M_cause 10 = .ok (.ireturn, 1) := by decide +kernel
theorem d_M_cause_11 : decode b_M_cause 11 = .ok (.aload_n 0, 1) := by decide +kernel
theorem d_M_cause_12 : decode b_M_cause 12 = .ok (.getfield 51, 3) := by decide +kernel
theorem d_M_cause_15 : decode b_M_cause 15 = .ok (.iload_n 1, 1) := by decide +kernel
theorem d_M_cause_16 : decode b_M_cause 16 = .ok (.iaload, 1) := by decide +kernel
theorem d_M_cause_17 : decode b_M_cause 17 = .ok (.istore_n 2, 1) := by decide +kernel
theorem d_M_cause_18 : decode b_M_cause 18 = .ok (.aload_n 0, 1) := by decide +kernel
theorem d_M_cause_19 : decode b_M_cause 19 = .ok (.getfield 66, 3) := by decide +kernel
theorem d_M_cause_22 : decode b_M_cause 22 = .ok (.iload_n 1, 1) := by decide +kernel
theorem d_M_cause_23 : decode b_M_cause 23 = .ok (.baload, 1) := by decide +kernel
theorem d_M_cause_24 : decode b_M_cause 24 = .ok (.ifCond .eq 14, 3) := by decide +kernel
theorem d_M_cause_27 : decode b_M_cause 27 = .ok (.iload_n 2, 1) := by decide +kernel
theorem d_M_cause_28 : decode b_M_cause 28 = .ok (.bipush 6, 2) := by decide +kernel
theorem d_M_cause_30 : decode b_M_cause 30 = .ok (.if_icmp .eq 8, 3) := by decide +kernel
theorem d_M_cause_33 : decode b_M_cause 33 = .ok (.bipush 90, 2) := by decide +kernel
theorem d_M_cause_35 : decode b_M_cause 35 = .ok (.iload_n 2, 1) := by decide +kernel
theorem d_M_cause_36 : decode b_M_cause 36 = .ok (.iadd, 1) := by decide +kernel
theorem d_M_cause_37 : decode b_M_cause 37 = .ok (.ireturn, 1) := by decide +kernel
theorem d_M_cause_38 : decode b_M_cause 38 = .ok (.iconst 0, 1) := by decide +kernel
theorem d_M_cause_39 : decode b_M_cause 39 = .ok (.istore_n 3, 1) := by decide +kernel
theorem d_M_cause_40 : decode b_M_cause 40 = .ok (.iconst 1, 1) := by decide +kernel
theorem d_M_cause_41 : decode b_M_cause 41 = .ok (.istore 4, 2) := by decide +kernel
theorem d_M_cause_43 : decode b_M_cause 43 = .ok (.iload 4, 2) := by decide +kernel
theorem d_M_cause_45 : decode b_M_cause 45 = .ok (.iload_n 1, 1) := by decide +kernel
theorem d_M_cause_46 : decode b_M_cause 46 = .ok (.if_icmp .ge 104, 3) := by decide +kernel
theorem d_M_cause_49 : decode b_M_cause 49 = .ok (.iload_n 2, 1) := by decide +kernel
theorem d_M_cause_50 : decode b_M_cause 50 = .ok (.bipush 6, 2) := by decide +kernel
theorem d_M_cause_52 : decode b_M_cause 52 = .ok (.if_icmp .ne 23, 3) := by decide +kernel
theorem d_M_cause_55 : decode b_M_cause 55 = .ok (.aload_n 0, 1) := by decide +kernel
theorem d_M_cause_56 : decode b_M_cause 56 = .ok (.getfield 51, 3) := by decide +kernel
theorem d_M_cause_59 : decode b_M_cause 59 = .ok (.iload 4, 2) := by decide +kernel
theorem d_M_cause_61 : decode b_M_cause 61 = .ok (.iaload, 1) := by decide +kernel
theorem d_M_cause_62 : decode b_M_cause 62 = .ok (.bipush 6, 2) := by decide +kernel
theorem d_M_cause_64 : decode b_M_cause 64 = .ok (.if_icmp .ne 7, 3) := by decide +kernel
theorem d_M_cause_67 : decode b_M_cause 67 = .ok (.iconst 1, 1) := by decide +kernel
theorem d_M_cause_68 : decode b_M_cause 68 = .ok (.goto 38, 3) := by decide +kernel
theorem d_M_cause_71 : decode b_M_cause 71 = .ok (.iconst 0, 1) := by decide +kernel
theorem d_M_cause_72 : decode b_M_cause 72 = .ok (.goto 34, 3) := by decide +kernel
theorem d_M_cause_75 : decode b_M_cause 75 = .ok (.aload_n 0, 1) := by decide +kernel
theorem d_M_cause_76 : decode b_M_cause 76 = .ok (.getfield 66, 3) := by decide +kernel
theorem d_M_cause_79 : decode b_M_cause 79 = .ok (.iload 4, 2) := by decide +kernel
theorem d_M_cause_81 : decode b_M_cause 81 = .ok (.baload, 1) := by decide +kernel
theorem d_M_cause_82 : decode b_M_cause 82 = .ok (.ifCond .ne 23, 3) := by decide +kernel
theorem d_M_cause_85 : decode b_M_cause 85 = .ok (.aload_n 0, 1) := by decide +kernel
theorem d_M_cause_86 : decode b_M_cause 86 = .ok (.getfield 54, 3) := by decide +kernel
theorem d_M_cause_89 : decode b_M_cause 89 = .ok (.iload 4, 2) := by decide +kernel
theorem d_M_cause_91 : decode b_M_cause 91 = .ok (.iaload, 1) := by decide +kernel
theorem d_M_cause_92 : decode b_M_cause 92 = .ok (.aload_n 0, 1) := by decide +kernel
theorem d_M_cause_93 : decode b_M_cause 93 = .ok (.getfield 54, 3) := by decide +kernel
theorem d_M_cause_96 : decode b_M_cause 96 = .ok (.iload_n 1, 1) := by decide +kernel
theorem d_M_cause_97 : decode b_M_cause 97 = .ok (.iaload, 1) := by decide +kernel
theorem d_M_cause_98 : decode b_M_cause 98 = .ok (.if_icmp .ne 7, 3) := by decide +kernel
theorem d_M_cause_101 : decode b_M_cause 101 = .ok (.iconst 1, 1) := by decide +kernel
theorem d_M_cause_102 : decode b_M_cause 102 = .ok (.goto 4, 3) := by decide +kernel
theorem d_M_cause_105 : decode b_M_cause 105 = .ok (.iconst 0, 1) := by decide +kernel
theorem d_M_cause_106 : decode b_M_cause 106 = .ok (.istore 5, 2) := by decide +kernel
theorem d_M_cause_108 : decode b_M_cause 108 = .ok (.iload_n 3, 1) := by decide +kernel
theorem d_M_cause_109 : decode b_M_cause 109 = .ok (.ifCond .ne 29, 3) := by decide +kernel
theorem d_M_cause_112 : decode b_M_cause 112 = .ok (.iload 5, 2) := by decide +kernel
theorem d_M_cause_114 : decode b_M_cause 114 = .ok (.ifCond .eq 28, 3) := by decide +kernel
theorem d_M_cause_117 : decode b_M_cause 117 = .ok (.aload_n 0, 1) := by decide +kernel
theorem d_M_cause_118 : decode b_M_cause 118 = .ok (.getfield 57, 3) := by decide +kernel
theorem d_M_cause_121 : decode b_M_cause 121 = .ok (.iload_n 1, 1) := by decide +kernel
theorem d_M_cause_122 : decode b_M_cause 122 = .ok (.laload, 1) := by decide +kernel
theorem d_M_cause_123 : decode b_M_cause 123 = .ok (.aload_n 0, 1) := by decide +kernel
theorem d_M_cause_124 : decode b_M_cause 124 = .ok (.getfield 57, 3) := by decide +kernel
theorem d_M_cause_127 : decode b_M_cause 127 = .ok (.iload 4, 2) := by decide +kernel
theorem d_M_cause_129 : decode b_M_cause 129 = .ok (.laload, 1) := by decide +kernel
theorem d_M_cause_130 : decode b_M_cause 130 = .ok (.lsub, 1) := by decide +kernel
theorem d_M_cause_131 : decode b_M_cause 131 = .ok (.ldc2_w 176, 3) := by decide +kernel
theorem d_M_cause_134 : decode b_M_cause 134 = .ok (.lcmp, 1) := by decide +kernel
theorem d_M_cause_135 : decode b_M_cause 135 = .ok (.ifCond .gt 7, 3) := by decide +kernel
theorem d_M_cause_138 : decode b_M_cause 138 = .ok (.iconst 1, 1) := by decide +kernel
theorem d_M_cause_139 : decode b_M_cause 139 = .ok (.goto 4, 3) := by decide +kernel
theorem d_M_cause_142 : decode b_M_cause 142 = .ok (.iconst 0, 1) := by decide +kernel
theorem d_M_cause_143 : decode b_M_cause 143 = .ok (.istore_n 3, 1) := by decide +kernel
theorem d_M_cause_144 : decode b_M_cause 144 = .ok (.iinc 4 1, 3) := by decide +kernel
theorem d_M_cause_147 : decode b_M_cause 147 = .ok (.goto (-104), 3) := by decide +kernel
theorem d_M_cause_150 : decode b_M_cause 150 = .ok (.bipush 10, 2) := by decide +kernel
theorem d_M_cause_152 : decode b_M_cause 152 = .ok (.iload_n 2, 1) := by decide +kernel
theorem d_M_cause_153 : decode b_M_cause 153 = .ok (.imul, 1) := by decide +kernel
theorem d_M_cause_154 : decode b_M_cause 154 = .ok (.aload_n 0, 1) := by decide +kernel
theorem d_M_cause_155 : decode b_M_cause 155 = .ok (.getfield 63, 3) := by decide +kernel
theorem d_M_cause_158 : decode b_M_cause 158 = .ok (.iload_n 1, 1) := by decide +kernel
theorem d_M_cause_159 : decode b_M_cause 159 = .ok (.baload, 1) := by decide +kernel
theorem d_M_cause_160 : decode b_M_cause 160 = .ok (.ifCond .eq 7, 3) := by decide +kernel
theorem d_M_cause_163 : decode b_M_cause 163 = .ok (.iconst 2, 1) := by decide +kernel
theorem d_M_cause_164 : decode b_M_cause 164 = .ok (.goto 12, 3) := by decide +kernel
theorem d_M_cause_167 : decode b_M_cause 167 = .ok (.iload_n 3, 1) := by decide +kernel
theorem d_M_cause_168 : decode b_M_cause 168 = .ok (.ifCond .eq 7, 3) := by decide +kernel
theorem d_M_cause_171 : decode b_M_cause 171 = .ok (.iconst 1, 1) := by decide +kernel
theorem d_M_cause_172 : decode b_M_cause 172 = .ok (.goto 4, 3) := by decide +kernel
theorem d_M_cause_175 : decode b_M_cause 175 = .ok (.iconst 0, 1) := by decide +kernel
theorem d_M_cause_176 : decode b_M_cause 176 = .ok (.iadd, 1) := by decide +kernel
theorem d_M_cause_177 : decode b_M_cause 177 = .ok (.ireturn, 1) := by decide +kernel
theorem d_M_enlist_0 : decode b_M_enlist 0 = .ok (.aload_n 0, 1) := by decide +kernel
theorem d_M_enlist_1 : decode b_M_enlist 1 = .ok (.getfield 42, 3) := by decide +kernel
theorem d_M_enlist_4 : decode b_M_enlist 4 = .ok (.iload_n 1, 1) := by decide +kernel
theorem d_M_enlist_5 : decode b_M_enlist 5 = .ok (.baload, 1) := by decide +kernel
theorem d_M_enlist_6 : decode b_M_enlist 6 = .ok (.ifCond .ne 39, 3) := by decide +kernel
theorem d_M_enlist_9 : decode b_M_enlist 9 = .ok (.aload_n 0, 1) := by decide +kernel
theorem d_M_enlist_10 : decode b_M_enlist 10 = .ok (.getfield 45, 3) := by decide +kernel
theorem d_M_enlist_13 : decode b_M_enlist 13 = .ok (.iload_n 1, 1) := by decide +kernel
theorem d_M_enlist_14 : decode b_M_enlist 14 = .ok (.baload, 1) := by decide +kernel
theorem d_M_enlist_15 : decode b_M_enlist 15 = .ok (.ifCond .ne 30, 3) := by decide +kernel
theorem d_M_enlist_18 : decode b_M_enlist 18 = .ok (.aload_n 0, 1) := by decide +kernel
theorem d_M_enlist_19 : decode b_M_enlist 19 = .ok (.getfield 42, 3) := by decide +kernel
theorem d_M_enlist_22 : decode b_M_enlist 22 = .ok (.iload_n 1, 1) := by decide +kernel
theorem d_M_enlist_23 : decode b_M_enlist 23 = .ok (.iconst 1, 1) := by decide +kernel
theorem d_M_enlist_24 : decode b_M_enlist 24 = .ok (.bastore, 1) := by decide +kernel
theorem d_M_enlist_25 : decode b_M_enlist 25 = .ok (.aload_n 0, 1) := by decide +kernel
theorem d_M_enlist_26 : decode b_M_enlist 26 = .ok (.getfield 48, 3) := by decide +kernel
theorem d_M_enlist_29 : decode b_M_enlist 29 = .ok (.aload_n 0, 1) := by decide +kernel
theorem d_M_enlist_30 : decode b_M_enlist 30 = .ok (.getfield 178, 3) := by decide +kernel
theorem d_M_enlist_33 : decode b_M_enlist 33 = .ok (.iload_n 1, 1) := by decide +kernel
theorem d_M_enlist_34 : decode b_M_enlist 34 = .ok (.iastore, 1) := by decide +kernel
theorem d_M_enlist_35 : decode b_M_enlist 35 = .ok (.aload_n 0, 1) := by decide +kernel
theorem d_M_enlist_36 : decode b_M_enlist 36 = .ok (.dup, 1) := by decide +kernel
theorem d_M_enlist_37 : decode b_M_enlist 37 = .ok (.getfield 178, 3) := by decide +kernel
theorem d_M_enlist_40 : decode b_M_enlist 40 = .ok (.iconst 1, 1) := by decide +kernel
theorem d_M_enlist_41 : decode b_M_enlist 41 = .ok (.iadd, 1) := by decide +kernel
theorem d_M_enlist_42 : decode b_M_enlist 42 = .ok (.putfield 178, 3) := by decide +kernel
theorem d_M_enlist_45 : decode b_M_enlist 45 = .ok (.return_, 1) := by decide +kernel
theorem d_M_clear_0 : decode b_M_clear 0 = .ok (.aload_n 0, 1) := by decide +kernel
theorem d_M_clear_1 : decode b_M_clear 1 = .ok (.getfield 72, 3) := by decide +kernel
theorem d_M_clear_4 : decode b_M_clear 4 = .ok (.iload_n 1, 1) := by decide +kernel
theorem d_M_clear_5 : decode b_M_clear 5 = .ok (.iconst 1, 1) := by decide +kernel
theorem d_M_clear_6 : decode b_M_clear 6 = .ok (.bastore, 1) := by decide +kernel
theorem d_M_clear_7 : decode b_M_clear 7 = .ok (.iconst 1, 1) := by decide +kernel
theorem d_M_clear_8 : decode b_M_clear 8 = .ok (.istore_n 2, 1) := by decide +kernel
theorem d_M_clear_9 : decode b_M_clear 9 = .ok (.iload_n 2, 1) := by decide +kernel
theorem d_M_clear_10 : decode b_M_clear 10 = .ok (.aload_n 0, 1) := by decide +kernel
theorem d_M_clear_11 : decode b_M_clear 11 = .ok (.getfield 104, 3) := by decide +kernel
theorem d_M_clear_14 : decode b_M_clear 14 = .ok (.if_icmp .gt 63, 3) := by decide +kernel
theorem d_M_clear_17 : decode b_M_clear 17 = .ok (.aload_n 0, 1) := by decide +kernel
theorem d_M_clear_18 : decode b_M_clear 18 = .ok (.getfield 90, 3) := by decide +kernel
theorem d_M_clear_21 : decode b_M_clear 21 = .ok (.iload_n 2, 1) := by decide +kernel
theorem d_M_clear_22 : decode b_M_clear 22 = .ok (.aload_n 0, 1) := by decide +kernel
theorem d_M_clear_23 : decode b_M_clear 23 = .ok (.getfield 60, 3) := by decide +kernel
theorem d_M_clear_26 : decode b_M_clear 26 = .ok (.iload_n 1, 1) := by decide +kernel
theorem d_M_clear_27 : decode b_M_clear 27 = .ok (.baload, 1) := by decide +kernel
theorem d_M_clear_28 : decode b_M_clear 28 = .ok (.ifCond .eq 16, 3) := by decide +kernel
theorem d_M_clear_31 : decode b_M_clear 31 = .ok (.aload_n 0, 1) := by decide +kernel
theorem d_M_clear_32 : decode b_M_clear 32 = .ok (.getfield 36, 3) := by decide +kernel
theorem d_M_clear_35 : decode b_M_clear 35 = .ok (.iload_n 2, 1) := by decide +kernel
theorem d_M_clear_36 : decode b_M_clear 36 = .ok (.iaload, 1) := by decide +kernel
theorem d_M_clear_37 : decode b_M_clear 37 = .ok (.ifCond .ne 7, 3) := by decide +kernel
theorem d_M_clear_40 : decode b_M_clear 40 = .ok (.iconst 1, 1) := by decide +kernel
theorem d_M_clear_41 : decode b_M_clear 41 = .ok (.goto 4, 3) := by decide +kernel
theorem d_M_clear_44 : decode b_M_clear 44 = .ok (.iconst 0, 1) := by decide +kernel
theorem d_M_clear_45 : decode b_M_clear 45 = .ok (.bastore, 1) := by decide +kernel
theorem d_M_clear_46 : decode b_M_clear 46 = .ok (.aload_n 0, 1) := by decide +kernel
theorem d_M_clear_47 : decode b_M_clear 47 = .ok (.getfield 36, 3) := by decide +kernel
theorem d_M_clear_50 : decode b_M_clear 50 = .ok (.iload_n 2, 1) := by decide +kernel
theorem d_M_clear_51 : decode b_M_clear 51 = .ok (.aload_n 0, 1) := by decide +kernel
theorem d_M_clear_52 : decode b_M_clear 52 = .ok (.getfield 90, 3) := by decide +kernel
theorem d_M_clear_55 : decode b_M_clear 55 = .ok (.iload_n 2, 1) := by decide +kernel
theorem d_M_clear_56 : decode b_M_clear 56 = .ok (.baload, 1) := by decide +kernel
theorem d_M_clear_57 : decode b_M_clear 57 = .ok (.ifCond .eq 7, 3) := by decide +kernel
theorem d_M_clear_60 : decode b_M_clear 60 = .ok (.iconst 1, 1) := by decide +kernel
theorem d_M_clear_61 : decode b_M_clear 61 = .ok (.goto 9, 3) := by decide +kernel
theorem d_M_clear_64 : decode b_M_clear 64 = .ok (.aload_n 0, 1) := by decide +kernel
theorem d_M_clear_65 : decode b_M_clear 65 = .ok (.getfield 36, 3) := by decide +kernel
theorem d_M_clear_68 : decode b_M_clear 68 = .ok (.iload_n 2, 1) := by decide +kernel
theorem d_M_clear_69 : decode b_M_clear 69 = .ok (.iaload, 1) := by decide +kernel
theorem d_M_clear_70 : decode b_M_clear 70 = .ok (.iastore, 1) := by decide +kernel
theorem d_M_clear_71 : decode b_M_clear 71 = .ok (.iinc 2 1, 3) := by decide +kernel
theorem d_M_clear_74 : decode b_M_clear 74 = .ok (.goto (-65), 3) := by decide +kernel
theorem d_M_clear_77 : decode b_M_clear 77 = .ok (.iconst 0, 1) := by decide +kernel
theorem d_M_clear_78 : decode b_M_clear 78 = .ok (.istore_n 2, 1) := by decide +kernel
theorem d_M_clear_79 : decode b_M_clear 79 = .ok (.iload_n 2, 1) := by decide +kernel
theorem d_M_clear_80 : decode b_M_clear 80 = .ok (.aload_n 0, 1) := by decide +kernel
theorem d_M_clear_81 : decode b_M_clear 81 = .ok (.getfield 93, 3) := by decide +kernel
theorem d_M_clear_84 : decode b_M_clear 84 = .ok (.if_icmp .ge 32, 3) := by decide +kernel
theorem d_M_clear_87 : decode b_M_clear 87 = .ok (.aload_n 0, 1) := by decide +kernel
theorem d_M_clear_88 : decode b_M_clear 88 = .ok (.getfield 60, 3) := by decide +kernel
theorem d_M_clear_91 : decode b_M_clear 91 = .ok (.iload_n 1, 1) := by decide +kernel
theorem d_M_clear_92 : decode b_M_clear 92 = .ok (.baload, 1) := by decide +kernel
theorem d_M_clear_93 : decode b_M_clear 93 = .ok (.ifCond .eq 23, 3) := by decide +kernel
theorem d_M_clear_96 : decode b_M_clear 96 = .ok (.aload_n 0, 1) := by decide +kernel
theorem d_M_clear_97 : decode b_M_clear 97 = .ok (.getfield 13, 3) := by decide +kernel
theorem d_M_clear_100 : decode b_M_clear 100 = .ok (.iload_n 2, 1) := by decide +kernel
theorem d_M_clear_101 : decode b_M_clear 101 = .ok (.iconst 0, 1) := by decide +kernel
theorem d_M_clear_102 : decode b_M_clear 102 = .ok (.bastore, 1) := by decide +kernel
theorem d_M_clear_103 : decode b_M_clear 103 = .ok (.aload_n 0, 1) := by decide +kernel
theorem d_M_clear_104 : decode b_M_clear 104 = .ok (.getfield 24, 3) := by decide +kernel
theorem d_M_clear_107 : decode b_M_clear 107 = .ok (.iload_n 2, 1) := by decide +kernel
theorem d_M_clear_108 : decode b_M_clear 108 = .ok (.iconst 0, 1) := by decide +kernel
theorem d_M_clear_109 : decode b_M_clear 109 = .ok (.iastore, 1) := by decide +kernel
theorem d_M_clear_110 : decode b_M_clear 110 = .ok (.iinc 2 1, 3) := by decide +kernel
theorem d_M_clear_113 : decode b_M_clear 113 = .ok (.goto (-34), 3) := by decide +kernel
theorem d_M_clear_116 : decode b_M_clear 116 = .ok (.iconst 1, 1) := by decide +kernel
theorem d_M_clear_117 : decode b_M_clear 117 = .ok (.istore_n 2, 1) := by decide +kernel
theorem d_M_clear_118 : decode b_M_clear 118 = .ok (.iload_n 2, 1) := by decide +kernel
theorem d_M_clear_119 : decode b_M_clear 119 = .ok (.aload_n 0, 1) := by decide +kernel
theorem d_M_clear_120 : decode b_M_clear 120 = .ok (.getfield 104, 3) := by decide +kernel
theorem d_M_clear_123 : decode b_M_clear 123 = .ok (.if_icmp .gt 38, 3) := by decide +kernel
theorem d_M_clear_126 : decode b_M_clear 126 = .ok (.aload_n 0, 1) := by decide +kernel
theorem d_M_clear_127 : decode b_M_clear 127 = .ok (.getfield 75, 3) := by decide +kernel
theorem d_M_clear_130 : decode b_M_clear 130 = .ok (.bipush 61, 2) := by decide +kernel
theorem d_M_clear_132 : decode b_M_clear 132 = .ok (.iload_n 1, 1) := by decide +kernel
theorem d_M_clear_133 : decode b_M_clear 133 = .ok (.imul, 1) := by decide +kernel
theorem d_M_clear_134 : decode b_M_clear 134 = .ok (.iload_n 2, 1) := by decide +kernel
theorem d_M_clear_135 : decode b_M_clear 135 = .ok (.iadd, 1) := by decide +kernel
theorem d_M_clear_136 : decode b_M_clear 136 = .ok (.baload, 1) := by decide +kernel
theorem d_M_clear_137 : decode b_M_clear 137 = .ok (.ifCond .eq 18, 3) := by decide +kernel
theorem d_M_clear_140 : decode b_M_clear 140 = .ok (.aload_n 0, 1) := by decide +kernel
theorem d_M_clear_141 : decode b_M_clear 141 = .ok (.getfield 36, 3) := by decide +kernel
theorem d_M_clear_144 : decode b_M_clear 144 = .ok (.iload_n 2, 1) := by decide +kernel
theorem d_M_clear_145 : decode b_M_clear 145 = .ok (.iaload, 1) := by decide +kernel
theorem d_M_clear_146 : decode b_M_clear 146 = .ok (.iconst 1, 1) := by decide +kernel
theorem d_M_clear_147 : decode b_M_clear 147 = .ok (.if_icmp .ne 8, 3) := by decide +kernel
theorem d_M_clear_150 : decode b_M_clear 150 = .ok (.aload_n 0, 1) := by decide +kernel
theorem d_M_clear_151 : decode b_M_clear 151 = .ok (.iload_n 2, 1) := by decide +kernel
theorem d_M_clear_152 : decode b_M_clear 152 = .ok (.invokevirtual 181, 3) := by decide +kernel
theorem d_M_clear_155 : decode b_M_clear 155 = .ok (.iinc 2 1, 3) := by decide +kernel
theorem d_M_clear_158 : decode b_M_clear 158 = .ok (.goto (-40), 3) := by decide +kernel
theorem d_M_clear_161 : decode b_M_clear 161 = .ok (.iconst 1, 1) := by decide +kernel
theorem d_M_clear_162 : decode b_M_clear 162 = .ok (.istore_n 2, 1) := by decide +kernel
theorem d_M_clear_163 : decode b_M_clear 163 = .ok (.iload_n 2, 1) := by decide +kernel
theorem d_M_clear_164 : decode b_M_clear 164 = .ok (.aload_n 0, 1) := by decide +kernel
theorem d_M_clear_165 : decode b_M_clear 165 = .ok (.getfield 104, 3) := by decide +kernel
theorem d_M_clear_168 : decode b_M_clear 168 = .ok (.if_icmp .gt 23, 3) := by decide +kernel
theorem d_M_clear_171 : decode b_M_clear 171 = .ok (.aload_n 0, 1) := by decide +kernel
theorem d_M_clear_172 : decode b_M_clear 172 = .ok (.getfield 90, 3) := by decide +kernel
theorem d_M_clear_175 : decode b_M_clear 175 = .ok (.iload_n 2, 1) := by decide +kernel
theorem d_M_clear_176 : decode b_M_clear 176 = .ok (.baload, 1) := by decide +kernel
theorem d_M_clear_177 : decode b_M_clear 177 = .ok (.ifCond .eq 8, 3) := by decide +kernel
theorem d_M_clear_180 : decode b_M_clear 180 = .ok (.aload_n 0, 1) := by decide +kernel
theorem d_M_clear_181 : decode b_M_clear 181 = .ok (.iload_n 2, 1) := by decide +kernel
theorem d_M_clear_182 : decode b_M_clear 182 = .ok (.invokevirtual 181, 3) := by decide +kernel
theorem d_M_clear_185 : decode b_M_clear 185 = .ok (.iinc 2 1, 3) := by decide +kernel
theorem d_M_clear_188 : decode b_M_clear 188 = .ok (.goto (-25), 3) := by decide +kernel
theorem d_M_clear_191 : decode b_M_clear 191 = .ok (.return_, 1) := by decide +kernel
theorem d_M_step_0 : decode b_M_step 0 = .ok (.aload_n 0, 1) := by decide +kernel
theorem d_M_step_1 : decode b_M_step 1 = .ok (.iload_n 1, 1) := by decide +kernel
theorem d_M_step_2 : decode b_M_step 2 = .ok (.invokevirtual 173, 3) := by decide +kernel
theorem d_M_step_5 : decode b_M_step 5 = .ok (.ifCond .eq 6, 3) := by decide +kernel
theorem d_M_step_8 : decode b_M_step 8 = .ok (.bipush (-11), 2) := by decide +kernel
theorem d_M_step_10 : decode b_M_step 10 = .ok (.ireturn, 1) := by decide +kernel
theorem d_M_step_11 : decode b_M_step 11 = .ok (.iload_n 2, 1) := by decide +kernel
theorem d_M_step_12 : decode b_M_step 12 = .ok (.i2l, 1) := by decide +kernel
theorem d_M_step_13 : decode b_M_step 13 = .ok (.lconst 1, 1) := by decide +kernel
theorem d_M_step_14 : decode b_M_step 14 = .ok (.ldc2_w 185, 3) := by decide +kernel
theorem d_M_step_17 : decode b_M_step 17 = .ok (.invokestatic 111, 3) := by decide +kernel
theorem d_M_step_20 : decode b_M_step 20 = .ok (.ifCond .ne 6, 3) := by decide +kernel
theorem d_M_step_23 : decode b_M_step 23 = .ok (.bipush (-12), 2) := by decide +kernel
theorem d_M_step_25 : decode b_M_step 25 = .ok (.ireturn, 1) := by decide +kernel
theorem d_M_step_26 : decode b_M_step 26 = .ok (.aload_n 0, 1) := by decide +kernel
theorem d_M_step_27 : decode b_M_step 27 = .ok (.getfield 72, 3) := by decide +kernel
theorem d_M_step_30 : decode b_M_step 30 = .ok (.iload_n 1, 1) := by decide +kernel
theorem d_M_step_31 : decode b_M_step 31 = .ok (.baload, 1) := by decide +kernel
theorem d_M_step_32 : decode b_M_step 32 = .ok (.ifCond .ne 7, 3) := by decide +kernel
theorem d_M_step_35 : decode b_M_step 35 = .ok (.iconst 1, 1) := by decide +kernel
theorem d_M_step_36 : decode b_M_step 36 = .ok (.goto 4, 3) := by decide +kernel
theorem d_M_step_39 : decode b_M_step 39 = .ok (.iconst 0, 1) := by decide +kernel
theorem d_M_step_40 : decode b_M_step 40 = .ok (.istore_n 3, 1) := by decide +kernel
theorem d_M_step_41 : decode b_M_step 41 = .ok (.iconst 1, 1) := by decide +kernel
theorem d_M_step_42 : decode b_M_step 42 = .ok (.istore 4, 2) := by decide +kernel
theorem d_M_step_44 : decode b_M_step 44 = .ok (.iload 4, 2) := by decide +kernel
theorem d_M_step_46 : decode b_M_step 46 = .ok (.iload_n 1, 1) := by decide +kernel
theorem d_M_step_47 : decode b_M_step 47 = .ok (.if_icmp .ge 29, 3) := by decide +kernel
theorem d_M_step_50 : decode b_M_step 50 = .ok (.iload_n 3, 1) := by decide +kernel
theorem d_M_step_51 : decode b_M_step 51 = .ok (.ifCond .eq 17, 3) := by decide +kernel
theorem d_M_step_54 : decode b_M_step 54 = .ok (.aload_n 0, 1) := by decide +kernel
theorem d_M_step_55 : decode b_M_step 55 = .ok (.getfield 72, 3) := by decide +kernel
theorem d_M_step_58 : decode b_M_step 58 = .ok (.iload 4, 2) := by decide +kernel
theorem d_M_step_60 : decode b_M_step 60 = .ok (.baload, 1) := by decide +kernel
theorem d_M_step_61 : decode b_M_step 61 = .ok (.ifCond .eq 7, 3) := by decide +kernel
theorem d_M_step_64 : decode b_M_step 64 = .ok (.iconst 1, 1) := by decide +kernel
theorem d_M_step_65 : decode b_M_step 65 = .ok (.goto 4, 3) := by decide +kernel
theorem d_M_step_68 : decode b_M_step 68 = .ok (.iconst 0, 1) := by decide +kernel
theorem d_M_step_69 : decode b_M_step 69 = .ok (.istore_n 3, 1) := by decide +kernel
theorem d_M_step_70 : decode b_M_step 70 = .ok (.iinc 4 1, 3) := by decide +kernel
theorem d_M_step_73 : decode b_M_step 73 = .ok (.goto (-29), 3) := by decide +kernel
theorem d_M_step_76 : decode b_M_step 76 = .ok (.iload_n 3, 1) := by decide +kernel
theorem d_M_step_77 : decode b_M_step 77 = .ok (.ifCond .ne 6, 3) := by decide +kernel
theorem d_M_step_80 : decode b_M_step 80 = .ok (.bipush (-13), 2) := by decide +kernel
theorem d_M_step_82 : decode b_M_step 82 = .ok (.ireturn, 1) := by decide +kernel
theorem d_M_step_83 : decode b_M_step 83 = .ok (.iconst 3, 1) := by decide +kernel
theorem d_M_step_84 : decode b_M_step 84 = .ok (.aload_n 0, 1) := by decide +kernel
theorem d_M_step_85 : decode b_M_step 85 = .ok (.getfield 51, 3) := by decide +kernel
theorem d_M_step_88 : decode b_M_step 88 = .ok (.iload_n 1, 1) := by decide +kernel
theorem d_M_step_89 : decode b_M_step 89 = .ok (.iaload, 1) := by decide +kernel
theorem d_M_step_90 : decode b_M_step 90 = .ok (.imul, 1) := by decide +kernel
theorem d_M_step_91 : decode b_M_step 91 = .ok (.istore 4, 2) := by decide +kernel
theorem d_M_step_93 : decode b_M_step 93 = .ok (.aload_n 0, 1) := by decide +kernel
theorem d_M_step_94 : decode b_M_step 94 = .ok (.getfield 87, 3) := by decide +kernel
theorem d_M_step_97 : decode b_M_step 97 = .ok (.iload 4, 2) := by decide +kernel
theorem d_M_step_99 : decode b_M_step 99 = .ok (.aload_n 0, 1) := by decide +kernel
theorem d_M_step_100 : decode b_M_step 100 = .ok (.getfield 69, 3) := by decide +kernel
theorem d_M_step_103 : decode b_M_step 103 = .ok (.iload_n 1, 1) := by decide +kernel
theorem d_M_step_104 : decode b_M_step 104 = .ok (.iaload, 1) := by decide +kernel
theorem d_M_step_105 : decode b_M_step 105 = .ok (.iadd, 1) := by decide +kernel
theorem d_M_step_106 : decode b_M_step 106 = .ok (.iaload, 1) := by decide +kernel
theorem d_M_step_107 : decode b_M_step 107 = .ok (.iload_n 2, 1) := by decide +kernel
theorem d_M_step_108 : decode b_M_step 108 = .ok (.if_icmp .eq 5, 3) := by decide +kernel
theorem d_M_step_111 : decode b_M_step 111 = .ok (.iconst 0, 1) := by decide +kernel
theorem d_M_step_112 : decode b_M_step 112 = .ok (.ireturn, 1) := by decide +kernel
theorem d_M_step_113 : decode b_M_step 113 = .ok (.aload_n 0, 1) := by decide +kernel
theorem d_M_step_114 : decode b_M_step 114 = .ok (.getfield 69, 3) := by decide +kernel
theorem d_M_step_117 : decode b_M_step 117 = .ok (.iload_n 1, 1) := by decide +kernel
theorem d_M_step_118 : decode b_M_step 118 = .ok (.dup2, 1) := by decide +kernel
theorem d_M_step_119 : decode b_M_step 119 = .ok (.iaload, 1) := by decide +kernel
theorem d_M_step_120 : decode b_M_step 120 = .ok (.iconst 1, 1) := by decide +kernel
theorem d_M_step_121 : decode b_M_step 121 = .ok (.iadd, 1) := by decide +kernel
theorem d_M_step_122 : decode b_M_step 122 = .ok (.iastore, 1) := by decide +kernel
theorem d_M_step_123 : decode b_M_step 123 = .ok (.iload_n 2, 1) := by decide +kernel
theorem d_M_step_124 : decode b_M_step 124 = .ok (.iconst 5, 1) := by decide +kernel
theorem d_M_step_125 : decode b_M_step 125 = .ok (.if_icmp .ne 29, 3) := by decide +kernel
theorem d_M_step_128 : decode b_M_step 128 = .ok (.iconst 0, 1) := by decide +kernel
theorem d_M_step_129 : decode b_M_step 129 = .ok (.istore 5, 2) := by decide +kernel
theorem d_M_step_131 : decode b_M_step 131 = .ok (.iload 5, 2) := by decide +kernel
theorem d_M_step_133 : decode b_M_step 133 = .ok (.aload_n 0, 1) := by decide +kernel
theorem d_M_step_134 : decode b_M_step 134 = .ok (.getfield 93, 3) := by decide +kernel
theorem d_M_step_137 : decode b_M_step 137 = .ok (.if_icmp .ge 17, 3) := by decide +kernel
theorem d_M_step_140 : decode b_M_step 140 = .ok (.aload_n 0, 1) := by decide +kernel
theorem d_M_step_141 : decode b_M_step 141 = .ok (.getfield 17, 3) := by decide +kernel
theorem d_M_step_144 : decode b_M_step 144 = .ok (.iload 5, 2) := by decide +kernel
theorem d_M_step_146 : decode b_M_step 146 = .ok (.iconst 0, 1) := by decide +kernel
theorem d_M_step_147 : decode b_M_step 147 = .ok (.iastore, 1) := by decide +kernel
theorem d_M_step_148 : decode b_M_step 148 = .ok (.iinc 5 1, 3) := by decide +kernel
theorem d_M_step_151 : decode b_M_step 151 = .ok (.goto (-20), 3) := by decide +kernel
theorem d_M_step_154 : decode b_M_step 154 = .ok (.aload_n 0, 1) := by decide +kernel
theorem d_M_step_155 : decode b_M_step 155 = .ok (.getfield 69, 3) := by decide +kernel
theorem d_M_step_158 : decode b_M_step 158 = .ok (.iload_n 1, 1) := by decide +kernel
theorem d_M_step_159 : decode b_M_step 159 = .ok (.iaload, 1) := by decide +kernel
theorem d_M_step_160 : decode b_M_step 160 = .ok (.iconst 3, 1) := by decide +kernel
theorem d_M_step_161 : decode b_M_step 161 = .ok (.if_icmp .eq 20, 3) := by decide +kernel
theorem d_M_step_164 : decode b_M_step 164 = .ok (.aload_n 0, 1) := by decide +kernel
theorem d_M_step_165 : decode b_M_step 165 = .ok (.getfield 87, 3) := by decide +kernel
theorem d_M_step_168 : decode b_M_step 168 = .ok (.iload 4, 2) := by decide +kernel
theorem d_M_step_170 : decode b_M_step 170 = .ok (.aload_n 0, 1) := by decide +kernel
theorem d_M_step_171 : decode b_M_step 171 = .ok (.getfield 69, 3) := by decide +kernel
theorem d_M_step_174 : decode b_M_step 174 = .ok (.iload_n 1, 1) := by decide +kernel
theorem d_M_step_175 : decode b_M_step 175 = .ok (.iaload, 1) := by decide +kernel
theorem d_M_step_176 : decode b_M_step 176 = .ok (.iadd, 1) := by decide +kernel
theorem d_M_step_177 : decode b_M_step 177 = .ok (.iaload, 1) := by decide +kernel
theorem d_M_step_178 : decode b_M_step 178 = .ok (.ifCond .ne 8, 3) := by decide +kernel
theorem d_M_step_181 : decode b_M_step 181 = .ok (.aload_n 0, 1) := by decide +kernel
theorem d_M_step_182 : decode b_M_step 182 = .ok (.iload_n 1, 1) := by decide +kernel
theorem d_M_step_183 : decode b_M_step 183 = .ok (.invokevirtual 187, 3) := by decide +kernel
theorem d_M_step_186 : decode b_M_step 186 = .ok (.iconst 1, 1) := by decide +kernel
theorem d_M_step_187 : decode b_M_step 187 = .ok (.ireturn, 1) := by decide +kernel
