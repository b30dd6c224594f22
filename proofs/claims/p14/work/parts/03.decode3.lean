theorem d_J_cameAgain_0 : decode b_J_cameAgain 0 = .ok (.aload_n 0, 1) := by decide +kernel
theorem d_J_cameAgain_1 : decode b_J_cameAgain 1 = .ok (.getfield 30, 3) := by decide +kernel
theorem d_J_cameAgain_4 : decode b_J_cameAgain 4 = .ok (.iload_n 1, 1) := by decide +kernel
theorem d_J_cameAgain_5 : decode b_J_cameAgain 5 = .ok (.aaload, 1) := by decide +kernel
theorem d_J_cameAgain_6 : decode b_J_cameAgain 6 = .ok (.astore_n 2, 1) := by decide +kernel
theorem d_J_cameAgain_7 : decode b_J_cameAgain 7 = .ok (.iconst 1, 1) := by decide +kernel
theorem d_J_cameAgain_8 : decode b_J_cameAgain 8 = .ok (.istore_n 3, 1) := by decide +kernel
theorem d_J_cameAgain_9 : decode b_J_cameAgain 9 = .ok (.iload_n 3, 1) := by decide +kernel
theorem d_J_cameAgain_10 : decode b_J_cameAgain 10 = .ok (.iload_n 1, 1) := by decide +kernel
theorem d_J_cameAgain_11 : decode b_J_cameAgain 11 = .ok (.if_icmp .ge 45, 3) := by decide +kernel
theorem d_J_cameAgain_14 : decode b_J_cameAgain 14 = .ok (.aload_n 2, 1) := by decide +kernel
theorem d_J_cameAgain_15 : decode b_J_cameAgain 15 = .ok (.getfield 163, 3) := by decide +kernel
theorem d_J_cameAgain_18 : decode b_J_cameAgain 18 = .ok (.aload_n 0, 1) := by decide +kernel
theorem d_J_cameAgain_19 : decode b_J_cameAgain 19 = .ok (.getfield 30, 3) := by decide +kernel
theorem d_J_cameAgain_22 : decode b_J_cameAgain 22 = .ok (.iload_n 3, 1) := by decide +kernel
theorem d_J_cameAgain_23 : decode b_J_cameAgain 23 = .ok (.aaload, 1) := by decide +kernel
theorem d_J_cameAgain_24 : decode b_J_cameAgain 24 = .ok (.getfield 163, 3) := by decide +kernel
theorem d_J_cameAgain_27 : decode b_J_cameAgain 27 = .ok (.lsub, 1) := by decide +kernel
theorem d_J_cameAgain_28 : decode b_J_cameAgain 28 = .ok (.ldc2_w 257, 3) := by decide +kernel
theorem d_J_cameAgain_31 : decode b_J_cameAgain 31 = .ok (.lcmp, 1) := by decide +kernel
theorem d_J_cameAgain_32 : decode b_J_cameAgain 32 = .ok (.ifCond .gt 18, 3) := by decide +kernel
theorem d_J_cameAgain_35 : decode b_J_cameAgain 35 = .ok (.aload_n 0, 1) := by decide +kernel
theorem d_J_cameAgain_36 : decode b_J_cameAgain 36 = .ok (.getfield 30, 3) := by decide +kernel
theorem d_J_cameAgain_39 : decode b_J_cameAgain 39 = .ok (.iload_n 3, 1) := by decide +kernel
theorem d_J_cameAgain_40 : decode b_J_cameAgain 40 = .ok (.aaload, 1) := by decide +kernel
theorem d_J_cameAgain_41 : decode b_J_cameAgain 41 = .ok (.aload_n 2, 1) := by decide +kernel
theorem d_J_cameAgain_42 : decode b_J_cameAgain 42 = .ok (.invokestatic 259, 3) := by decide +kernel
theorem d_J_cameAgain_45 : decode b_J_cameAgain 45 = .ok (.ifCond .eq 5, 3) := by decide +kernel
theorem d_J_cameAgain_48 : decode b_J_cameAgain 48 = .ok (.iconst 1, 1) := by decide +kernel
theorem d_J_cameAgain_49 : decode b_J_cameAgain 49 = .ok (.ireturn, 1) := by decide +kernel
theorem d_J_cameAgain_50 : decode b_J_cameAgain 50 = .ok (.iinc 3 1, 3) := by decide +kernel
theorem d_J_cameAgain_53 : decode b_J_cameAgain 53 = .ok (.goto (-44), 3) := by decide +kernel
theorem d_J_cameAgain_56 : decode b_J_cameAgain 56 = .ok (.iconst 0, 1) := by decide +kernel
theorem d_J_cameAgain_57 : decode b_J_cameAgain 57 = .ok (.ireturn, 1) := by decide +kernel
theorem d_J_isSameTrouble_0 : decode b_J_isSameTrouble 0 = .ok (.aload_n 1, 1) := by decide +kernel
theorem d_J_isSameTrouble_1 : decode b_J_isSameTrouble 1 = .ok (.getfield 114, 3) := by decide +kernel
theorem d_J_isSameTrouble_4 : decode b_J_isSameTrouble 4 = .ok (.bipush 6, 2) := by decide +kernel
theorem d_J_isSameTrouble_6 : decode b_J_isSameTrouble 6 = .ok (.if_icmp .ne 20, 3) := by decide +kernel
theorem d_J_isSameTrouble_9 : decode b_J_isSameTrouble 9 = .ok (.aload_n 0, 1) := by decide +kernel
theorem d_J_isSameTrouble_10 : decode b_J_isSameTrouble 10 = .ok (.getfield 114, 3) := by decide +kernel
theorem d_J_isSameTrouble_13 : decode b_J_isSameTrouble 13 = .ok (.bipush 6, 2) := by decide +kernel
theorem d_J_isSameTrouble_15 : decode b_J_isSameTrouble 15 = .ok (.if_icmp .ne 7, 3) := by decide +kernel
theorem d_J_isSameTrouble_18 : decode b_J_isSameTrouble 18 = .ok (.iconst 1, 1) := by decide +kernel
theorem d_J_isSameTrouble_19 : decode b_J_isSameTrouble 19 = .ok (.goto 23, 3) := by decide +kernel
theorem d_J_isSameTrouble_22 : decode b_J_isSameTrouble 22 = .ok (.iconst 0, 1) := by decide +kernel
theorem d_J_isSameTrouble_23 : decode b_J_isSameTrouble 23 = .ok (.goto 19, 3) := by decide +kernel
theorem d_J_isSameTrouble_26 : decode b_J_isSameTrouble 26 = .ok (.aload_n 0, 1) := by decide +kernel
theorem d_J_isSameTrouble_27 : decode b_J_isSameTrouble 27 = .ok (.getfield 111, 3) := by decide +kernel
theorem d_J_isSameTrouble_30 : decode b_J_isSameTrouble 30 = .ok (.aload_n 1, 1) := by decide +kernel
theorem d_J_isSameTrouble_31 : decode b_J_isSameTrouble 31 = .ok (.getfield 111, 3) := by decide +kernel
theorem d_J_isSameTrouble_34 : decode b_J_isSameTrouble 34 = .ok (.if_icmp .ne 7, 3) := by decide +kernel
theorem d_J_isSameTrouble_37 : decode b_J_isSameTrouble 37 = .ok (.iconst 1, 1) := by decide +kernel
theorem d_J_isSameTrouble_38 : decode b_J_isSameTrouble 38 = .ok (.goto 4, 3) := by decide +kernel
theorem d_J_isSameTrouble_41 : decode b_J_isSameTrouble 41 = .ok (.iconst 0, 1) := by decide +kernel
theorem d_J_isSameTrouble_42 : decode b_J_isSameTrouble 42 = .ok (.ireturn, 1) := by decide +kernel
theorem d_J_faultByRank_0 : decode b_J_faultByRank 0 = .ok (.iload_n 1, 1) := by decide +kernel
theorem d_J_faultByRank_1 : decode b_J_faultByRank 1 = .ok (.ifCond .ge 5, 3) := by decide +kernel
theorem d_J_faultByRank_4 : decode b_J_faultByRank 4 = .ok (.iconst 0, 1) := by decide +kernel
theorem d_J_faultByRank_5 : decode b_J_faultByRank 5 = .ok (.ireturn, 1) := by decide +kernel
theorem d_J_faultByRank_6 : decode b_J_faultByRank 6 = .ok (.iload_n 1, 1) := by decide +kernel
theorem d_J_faultByRank_7 : decode b_J_faultByRank 7 = .ok (.istore_n 2, 1) := by decide +kernel
theorem d_J_faultByRank_8 : decode b_J_faultByRank 8 = .ok (.bipush 9, 2) := by decide +kernel
theorem d_J_faultByRank_10 : decode b_J_faultByRank 10 = .ok (.istore_n 3, 1) := by decide +kernel
theorem d_J_faultByRank_11 : decode b_J_faultByRank 11 = .ok (.iload_n 3, 1) := by decide +kernel
theorem d_J_faultByRank_12 : decode b_J_faultByRank 12 = .ok (.ifCond .le 56, 3) := by decide +kernel
theorem d_J_faultByRank_15 : decode b_J_faultByRank 15 = .ok (.aload_n 0, 1) := by decide +kernel
theorem d_J_faultByRank_16 : decode b_J_faultByRank 16 = .ok (.getfield 37, 3) := by decide +kernel
theorem d_J_faultByRank_19 : decode b_J_faultByRank 19 = .ok (.iconst 1, 1) := by decide +kernel
theorem d_J_faultByRank_20 : decode b_J_faultByRank 20 = .ok (.iadd, 1) := by decide +kernel
theorem d_J_faultByRank_21 : decode b_J_faultByRank 21 = .ok (.istore 4, 2) := by decide +kernel
theorem d_J_faultByRank_23 : decode b_J_faultByRank 23 = .ok (.iload 4, 2) := by decide +kernel
theorem d_J_faultByRank_25 : decode b_J_faultByRank 25 = .ok (.aload_n 0, 1) := by decide +kernel
theorem d_J_faultByRank_26 : decode b_J_faultByRank 26 = .ok (.getfield 34, 3) := by decide +kernel
theorem d_J_faultByRank_29 : decode b_J_faultByRank 29 = .ok (.if_icmp .gt 33, 3) := by decide +kernel
theorem d_J_faultByRank_32 : decode b_J_faultByRank 32 = .ok (.aload_n 0, 1) := by decide +kernel
theorem d_J_faultByRank_33 : decode b_J_faultByRank 33 = .ok (.getfield 30, 3) := by decide +kernel
theorem d_J_faultByRank_36 : decode b_J_faultByRank 36 = .ok (.iload 4, 2) := by decide +kernel
theorem d_J_faultByRank_38 : decode b_J_faultByRank 38 = .ok (.aaload, 1) := by decide +kernel
theorem d_J_faultByRank_39 : decode b_J_faultByRank 39 = .ok (.invokevirtual 159, 3) := by decide +kernel
theorem d_J_faultByRank_42 : decode b_J_faultByRank 42 = .ok (.iload_n 3, 1) := by decide +kernel
theorem d_J_faultByRank_43 : decode b_J_faultByRank 43 = .ok (.if_icmp .ne 13, 3) := by decide +kernel
theorem d_J_faultByRank_46 : decode b_J_faultByRank 46 = .ok (.iload_n 2, 1) := by decide +kernel
theorem d_J_faultByRank_47 : decode b_J_faultByRank 47 = .ok (.ifCond .ne 6, 3) := by decide +kernel
theorem d_J_faultByRank_50 : decode b_J_faultByRank 50 = .ok (.iload 4, 2) := by decide +kernel
theorem d_J_faultByRank_52 : decode b_J_faultByRank 52 = .ok (.ireturn, 1) := by decide +kernel
theorem d_J_faultByRank_53 : decode b_J_faultByRank 53 = .ok (.iinc 2 (-1), 3) := by decide +kernel
theorem d_J_faultByRank_56 : decode b_J_faultByRank 56 = .ok (.iinc 4 1, 3) := by decide +kernel
theorem d_J_faultByRank_59 : decode b_J_faultByRank 59 = .ok (.goto (-36), 3) := by decide +kernel
theorem d_J_faultByRank_62 : decode b_J_faultByRank 62 = .ok (.iinc 3 (-1), 3) := by decide +kernel
theorem d_J_faultByRank_65 : decode b_J_faultByRank 65 = .ok (.goto (-54), 3) := by decide +kernel
theorem d_J_faultByRank_68 : decode b_J_faultByRank 68 = .ok (.iconst 0, 1) := by decide +kernel
theorem d_J_faultByRank_69 : decode b_J_faultByRank 69 = .ok (.ireturn, 1) := by decide +kernel
theorem d_J_nextStep_0 : decode b_J_nextStep 0 = .ok (.aload_n 0, 1) := by decide +kernel
theorem d_J_nextStep_1 : decode b_J_nextStep 1 = .ok (.getfield 127, 3) := by decide +kernel
theorem d_J_nextStep_4 : decode b_J_nextStep 4 = .ok (.iconst 3, 1) := by decide +kernel
theorem d_J_nextStep_5 : decode b_J_nextStep 5 = .ok (.if_icmp .lt 5, 3) := by decide +kernel
theorem d_J_nextStep_8 : decode b_J_nextStep 8 = .ok (.iconst 0, 1) := by decide +kernel
theorem d_J_nextStep_9 : decode b_J_nextStep 9 = .ok (.ireturn, 1) := by decide +kernel
theorem d_J_nextStep_10 : decode b_J_nextStep 10 = .ok (.getstatic 263, 3) := by decide +kernel
theorem d_J_nextStep_13 : decode b_J_nextStep 13 = .ok (.aload_n 0, 1) := by decide +kernel
theorem d_J_nextStep_14 : decode b_J_nextStep 14 = .ok (.getfield 114, 3) := by decide +kernel
theorem d_J_nextStep_17 : decode b_J_nextStep 17 = .ok (.iconst 1, 1) := by decide +kernel
theorem d_J_nextStep_18 : decode b_J_nextStep 18 = .ok (.isub, 1) := by decide +kernel
theorem d_J_nextStep_19 : decode b_J_nextStep 19 = .ok (.iconst 3, 1) := by decide +kernel
theorem d_J_nextStep_20 : decode b_J_nextStep 20 = .ok (.imul, 1) := by decide +kernel
theorem d_J_nextStep_21 : decode b_J_nextStep 21 = .ok (.aload_n 0, 1) := by decide +kernel
theorem d_J_nextStep_22 : decode b_J_nextStep 22 = .ok (.getfield 127, 3) := by decide +kernel
theorem d_J_nextStep_25 : decode b_J_nextStep 25 = .ok (.iadd, 1) := by decide +kernel
theorem d_J_nextStep_26 : decode b_J_nextStep 26 = .ok (.iaload, 1) := by decide +kernel
theorem d_J_nextStep_27 : decode b_J_nextStep 27 = .ok (.ireturn, 1) := by decide +kernel
theorem d_J_resetCounts_0 : decode b_J_resetCounts 0 = .ok (.iconst 0, 1) := by decide +kernel
theorem d_J_resetCounts_1 : decode b_J_resetCounts 1 = .ok (.istore_n 1, 1) := by decide +kernel
theorem d_J_resetCounts_2 : decode b_J_resetCounts 2 = .ok (.iload_n 1, 1) := by decide +kernel
theorem d_J_resetCounts_3 : decode b_J_resetCounts 3 = .ok (.aload_n 0, 1) := by decide +kernel
theorem d_J_resetCounts_4 : decode b_J_resetCounts 4 = .ok (.getfield 15, 3) := by decide +kernel
theorem d_J_resetCounts_7 : decode b_J_resetCounts 7 = .ok (.if_icmp .ge 19, 3) := by decide +kernel
theorem d_J_resetCounts_10 : decode b_J_resetCounts 10 = .ok (.aload_n 0, 1) := by decide +kernel
theorem d_J_resetCounts_11 : decode b_J_resetCounts 11 = .ok (.getfield 11, 3) := by decide +kernel
theorem d_J_resetCounts_14 : decode b_J_resetCounts 14 = .ok (.iload_n 1, 1) := by decide +kernel
theorem d_J_resetCounts_15 : decode b_J_resetCounts 15 = .ok (.aaload, 1) := by decide +kernel
theorem d_J_resetCounts_16 : decode b_J_resetCounts 16 = .ok (.iconst 0, 1) := by decide +kernel
theorem d_J_resetCounts_17 : decode b_J_resetCounts 17 = .ok (.putfield 166, 3) := by decide +kernel
theorem d_J_resetCounts_20 : decode b_J_resetCounts 20 = .ok (.iinc 1 1, 3) := by decide +kernel
theorem d_J_resetCounts_23 : decode b_J_resetCounts 23 = .ok (.goto (-21), 3) := by decide +kernel
theorem d_J_resetCounts_26 : decode b_J_resetCounts 26 = .ok (.return_, 1) := by decide +kernel
theorem d_J_clear_0 : decode b_J_clear 0 = .ok (.aload_n 0, 1) := by decide +kernel
theorem d_J_clear_1 : decode b_J_clear 1 = .ok (.getfield 30, 3) := by decide +kernel
theorem d_J_clear_4 : decode b_J_clear 4 = .ok (.iload_n 1, 1) := by decide +kernel
theorem d_J_clear_5 : decode b_J_clear 5 = .ok (.aaload, 1) := by decide +kernel
theorem d_J_clear_6 : decode b_J_clear 6 = .ok (.astore_n 2, 1) := by decide +kernel
theorem d_J_clear_7 : decode b_J_clear 7 = .ok (.aload_n 0, 1) := by decide +kernel
theorem d_J_clear_8 : decode b_J_clear 8 = .ok (.iload_n 1, 1) := by decide +kernel
theorem d_J_clear_9 : decode b_J_clear 9 = .ok (.putfield 37, 3) := by decide +kernel
theorem d_J_clear_12 : decode b_J_clear 12 = .ok (.aload_n 2, 1) := by decide +kernel
theorem d_J_clear_13 : decode b_J_clear 13 = .ok (.getfield 169, 3) := by decide +kernel
theorem d_J_clear_16 : decode b_J_clear 16 = .ok (.ifCond .eq 8, 3) := by decide +kernel
theorem d_J_clear_19 : decode b_J_clear 19 = .ok (.aload_n 0, 1) := by decide +kernel
theorem d_J_clear_20 : decode b_J_clear 20 = .ok (.iload_n 1, 1) := by decide +kernel
theorem d_J_clear_21 : decode b_J_clear 21 = .ok (.invokevirtual 266, 3) := by decide +kernel
theorem d_J_clear_24 : decode b_J_clear 24 = .ok (.iconst 1, 1) := by decide +kernel
theorem d_J_clear_25 : decode b_J_clear 25 = .ok (.istore_n 3, 1) := by decide +kernel
theorem d_J_clear_26 : decode b_J_clear 26 = .ok (.iload_n 3, 1) := by decide +kernel
theorem d_J_clear_27 : decode b_J_clear 27 = .ok (.aload_n 0, 1) := by decide +kernel
theorem d_J_clear_28 : decode b_J_clear 28 = .ok (.getfield 25, 3) := by decide +kernel
theorem d_J_clear_31 : decode b_J_clear 31 = .ok (.if_icmp .gt 34, 3) := by decide +kernel
theorem d_J_clear_34 : decode b_J_clear 34 = .ok (.aload_n 2, 1) := by decide +kernel
theorem d_J_clear_35 : decode b_J_clear 35 = .ok (.iload_n 3, 1) := by decide +kernel
theorem d_J_clear_36 : decode b_J_clear 36 = .ok (.invokevirtual 108, 3) := by decide +kernel
theorem d_J_clear_39 : decode b_J_clear 39 = .ok (.ifCond .eq 20, 3) := by decide +kernel
theorem d_J_clear_42 : decode b_J_clear 42 = .ok (.aload_n 0, 1) := by decide +kernel
theorem d_J_clear_43 : decode b_J_clear 43 = .ok (.getfield 21, 3) := by decide +kernel
theorem d_J_clear_46 : decode b_J_clear 46 = .ok (.iload_n 3, 1) := by decide +kernel
theorem d_J_clear_47 : decode b_J_clear 47 = .ok (.aaload, 1) := by decide +kernel
theorem d_J_clear_48 : decode b_J_clear 48 = .ok (.invokevirtual 269, 3) := by decide +kernel
theorem d_J_clear_51 : decode b_J_clear 51 = .ok (.ifCond .eq 8, 3) := by decide +kernel
theorem d_J_clear_54 : decode b_J_clear 54 = .ok (.aload_n 0, 1) := by decide +kernel
theorem d_J_clear_55 : decode b_J_clear 55 = .ok (.iload_n 3, 1) := by decide +kernel
theorem d_J_clear_56 : decode b_J_clear 56 = .ok (.invokevirtual 272, 3) := by decide +kernel
theorem d_J_clear_59 : decode b_J_clear 59 = .ok (.iinc 3 1, 3) := by decide +kernel
theorem d_J_clear_62 : decode b_J_clear 62 = .ok (.goto (-36), 3) := by decide +kernel
theorem d_J_clear_65 : decode b_J_clear 65 = .ok (.aload_n 2, 1) := by decide +kernel
theorem d_J_clear_66 : decode b_J_clear 66 = .ok (.getfield 169, 3) := by decide +kernel
theorem d_J_clear_69 : decode b_J_clear 69 = .ok (.ifCond .eq 8, 3) := by decide +kernel
theorem d_J_clear_72 : decode b_J_clear 72 = .ok (.aload_n 0, 1) := by decide +kernel
theorem d_J_clear_73 : decode b_J_clear 73 = .ok (.iload_n 1, 1) := by decide +kernel
theorem d_J_clear_74 : decode b_J_clear 74 = .ok (.invokevirtual 275, 3) := by decide +kernel
theorem d_J_clear_77 : decode b_J_clear 77 = .ok (.return_, 1) := by decide +kernel
theorem d_J_emptyBelt_0 : decode b_J_emptyBelt 0 = .ok (.iconst 1, 1) := by decide +kernel
theorem d_J_emptyBelt_1 : decode b_J_emptyBelt 1 = .ok (.istore_n 2, 1) := by decide +kernel
theorem d_J_emptyBelt_2 : decode b_J_emptyBelt 2 = .ok (.iload_n 2, 1) := by decide +kernel
theorem d_J_emptyBelt_3 : decode b_J_emptyBelt 3 = .ok (.aload_n 0, 1) := by decide +kernel
theorem d_J_emptyBelt_4 : decode b_J_emptyBelt 4 = .ok (.getfield 25, 3) := by decide +kernel
theorem d_J_emptyBelt_7 : decode b_J_emptyBelt 7 = .ok (.if_icmp .gt 31, 3) := by decide +kernel
theorem d_J_emptyBelt_10 : decode b_J_emptyBelt 10 = .ok (.aload_n 0, 1) := by decide +kernel
theorem d_J_emptyBelt_11 : decode b_J_emptyBelt 11 = .ok (.getfield 21, 3) := by decide +kernel
theorem d_J_emptyBelt_14 : decode b_J_emptyBelt 14 = .ok (.iload_n 2, 1) := by decide +kernel
theorem d_J_emptyBelt_15 : decode b_J_emptyBelt 15 = .ok (.aaload, 1) := by decide +kernel
theorem d_J_emptyBelt_16 : decode b_J_emptyBelt 16 = .ok (.invokevirtual 238, 3) := by decide +kernel
theorem d_J_emptyBelt_19 : decode b_J_emptyBelt 19 = .ok (.ifCond .eq 13, 3) := by decide +kernel
theorem d_J_emptyBelt_22 : decode b_J_emptyBelt 22 = .ok (.aload_n 0, 1) := by decide +kernel
theorem d_J_emptyBelt_23 : decode b_J_emptyBelt 23 = .ok (.getfield 21, 3) := by decide +kernel
theorem d_J_emptyBelt_26 : decode b_J_emptyBelt 26 = .ok (.iload_n 2, 1) := by decide +kernel
theorem d_J_emptyBelt_27 : decode b_J_emptyBelt 27 = .ok (.aaload, 1) := by decide +kernel
theorem d_J_emptyBelt_28 : decode b_J_emptyBelt 28 = .ok (.iload_n 1, 1) := by decide +kernel
theorem d_J_emptyBelt_29 : decode b_J_emptyBelt 29 = .ok (.invokevirtual 223, 3) := by decide +kernel
theorem d_J_emptyBelt_32 : decode b_J_emptyBelt 32 = .ok (.iinc 2 1, 3) := by decide +kernel
theorem d_J_emptyBelt_35 : decode b_J_emptyBelt 35 = .ok (.goto (-33), 3) := by decide +kernel
theorem d_J_emptyBelt_38 : decode b_J_emptyBelt 38 = .ok (.iconst 0, 1) := by decide +kernel
theorem d_J_emptyBelt_39 : decode b_J_emptyBelt 39 = .ok (.istore_n 2, 1) := by decide +kernel
theorem d_J_emptyBelt_40 : decode b_J_emptyBelt 40 = .ok (.iload_n 2, 1) := by decide +kernel
theorem d_J_emptyBelt_41 : decode b_J_emptyBelt 41 = .ok (.aload_n 0, 1) := by decide +kernel
theorem d_J_emptyBelt_42 : decode b_J_emptyBelt 42 = .ok (.getfield 15, 3) := by decide +kernel
theorem d_J_emptyBelt_45 : decode b_J_emptyBelt 45 = .ok (.if_icmp .ge 18, 3) := by decide +kernel
theorem d_J_emptyBelt_48 : decode b_J_emptyBelt 48 = .ok (.aload_n 0, 1) := by decide +kernel
theorem d_J_emptyBelt_49 : decode b_J_emptyBelt 49 = .ok (.getfield 11, 3) := by decide +kernel
theorem d_J_emptyBelt_52 : decode b_J_emptyBelt 52 = .ok (.iload_n 2, 1) := by decide +kernel
theorem d_J_emptyBelt_53 : decode b_J_emptyBelt 53 = .ok (.aaload, 1) := by decide +kernel
theorem d_J_emptyBelt_54 : decode b_J_emptyBelt 54 = .ok (.invokevirtual 233, 3) := by decide +kernel
theorem d_J_emptyBelt_57 : decode b_J_emptyBelt 57 = .ok (.iinc 2 1, 3) := by decide +kernel
theorem d_J_emptyBelt_60 : decode b_J_emptyBelt 60 = .ok (.goto (-20), 3) := by decide +kernel
theorem d_J_emptyBelt_63 : decode b_J_emptyBelt 63 = .ok (.return_, 1) := by decide +kernel
theorem d_J_listOffBy_0 : decode b_J_listOffBy 0 = .ok (.iconst 1, 1) := by decide +kernel
theorem d_J_listOffBy_1 : decode b_J_listOffBy 1 = .ok (.istore_n 2, 1) := by decide +kernel
theorem d_J_listOffBy_2 : decode b_J_listOffBy 2 = .ok (.iload_n 2, 1) := by decide +kernel
theorem d_J_listOffBy_3 : decode b_J_listOffBy 3 = .ok (.aload_n 0, 1) := by decide +kernel
theorem d_J_listOffBy_4 : decode b_J_listOffBy 4 = .ok (.getfield 25, 3) := by decide +kernel
theorem d_J_listOffBy_7 : decode b_J_listOffBy 7 = .ok (.if_icmp .gt 39, 3) := by decide +kernel
theorem d_J_listOffBy_10 : decode b_J_listOffBy 10 = .ok (.aload_n 0, 1) := by decide +kernel
theorem d_J_listOffBy_11 : decode b_J_listOffBy 11 = .ok (.getfield 21, 3) := by decide +kernel
theorem d_J_listOffBy_14 : decode b_J_listOffBy 14 = .ok (.iload_n 2, 1) := by decide +kernel
theorem d_J_listOffBy_15 : decode b_J_listOffBy 15 = .ok (.aaload, 1) := by decide +kernel
theorem d_J_listOffBy_16 : decode b_J_listOffBy 16 = .ok (.invokevirtual 269, 3) := by decide +kernel
theorem d_J_listOffBy_19 : decode b_J_listOffBy 19 = .ok (.ifCond .eq 21, 3) := by decide +kernel
theorem d_J_listOffBy_22 : decode b_J_listOffBy 22 = .ok (.aload_n 0, 1) := by decide +kernel
theorem d_J_listOffBy_23 : decode b_J_listOffBy 23 = .ok (.getfield 21, 3) := by decide +kernel
theorem d_J_listOffBy_26 : decode b_J_listOffBy 26 = .ok (.iload_n 2, 1) := by decide +kernel
theorem d_J_listOffBy_27 : decode b_J_listOffBy 27 = .ok (.aaload, 1) := by decide +kernel
theorem d_J_listOffBy_28 : decode b_J_listOffBy 28 = .ok (.getfield 278, 3) := by decide +kernel
theorem d_J_listOffBy_31 : decode b_J_listOffBy 31 = .ok (.iload_n 1, 1) := by decide +kernel
theorem d_J_listOffBy_32 : decode b_J_listOffBy 32 = .ok (.if_icmp .ne 8, 3) := by decide +kernel
theorem d_J_listOffBy_35 : decode b_J_listOffBy 35 = .ok (.aload_n 0, 1) := by decide +kernel
theorem d_J_listOffBy_36 : decode b_J_listOffBy 36 = .ok (.iload_n 2, 1) := by decide +kernel
theorem d_J_listOffBy_37 : decode b_J_listOffBy 37 = .ok (.invokevirtual 272, 3) := by decide +kernel
theorem d_J_listOffBy_40 : decode b_J_listOffBy 40 = .ok (.iinc 2 1, 3) := by decide +kernel
theorem d_J_listOffBy_43 : decode b_J_listOffBy 43 = .ok (.goto (-41), 3) := by decide +kernel
theorem d_J_listOffBy_46 : decode b_J_listOffBy 46 = .ok (.return_, 1) := by decide +kernel
theorem d_J_putOnList_0 : decode b_J_putOnList 0 = .ok (.aload_n 0, 1) := by decide +kernel
theorem d_J_putOnList_1 : decode b_J_putOnList 1 = .ok (.getfield 21, 3) := by decide +kernel
theorem d_J_putOnList_4 : decode b_J_putOnList 4 = .ok (.iload_n 1, 1) := by decide +kernel
theorem d_J_putOnList_5 : decode b_J_putOnList 5 = .ok (.aaload, 1) := by decide +kernel
theorem d_J_putOnList_6 : decode b_J_putOnList 6 = .ok (.getfield 142, 3) := by decide +kernel
theorem d_J_putOnList_9 : decode b_J_putOnList 9 = .ok (.ifCond .ne 42, 3) := by decide +kernel
theorem d_J_putOnList_12 : decode b_J_putOnList 12 = .ok (.aload_n 0, 1) := by decide +kernel
theorem d_J_putOnList_13 : decode b_J_putOnList 13 = .ok (.getfield 51, 3) := by decide +kernel
theorem d_J_putOnList_16 : decode b_J_putOnList 16 = .ok (.bipush 60, 2) := by decide +kernel
theorem d_J_putOnList_18 : decode b_J_putOnList 18 = .ok (.if_icmp .ge 33, 3) := by decide +kernel
theorem d_J_putOnList_21 : decode b_J_putOnList 21 = .ok (.aload_n 0, 1) := by decide +kernel
theorem d_J_putOnList_22 : decode b_J_putOnList 22 = .ok (.getfield 21, 3) := by decide +kernel
theorem d_J_putOnList_25 : decode b_J_putOnList 25 = .ok (.iload_n 1, 1) := by decide +kernel
theorem d_J_putOnList_26 : decode b_J_putOnList 26 = .ok (.aaload, 1) := by decide +kernel
theorem d_J_putOnList_27 : decode b_J_putOnList 27 = .ok (.iconst 1, 1) := by decide +kernel
theorem d_J_putOnList_28 : decode b_J_putOnList 28 = .ok (.putfield 142, 3) := by decide +kernel
theorem d_J_putOnList_31 : decode b_J_putOnList 31 = .ok (.aload_n 0, 1) := by decide +kernel
theorem d_J_putOnList_32 : decode b_J_putOnList 32 = .ok (.getfield 47, 3) := by decide +kernel
theorem d_J_putOnList_35 : decode b_J_putOnList 35 = .ok (.aload_n 0, 1) := by decide +kernel
theorem d_J_putOnList_36 : decode b_J_putOnList 36 = .ok (.getfield 51, 3) := by decide +kernel
theorem d_J_putOnList_39 : decode b_J_putOnList 39 = .ok (.iload_n 1, 1) := by decide +kernel
theorem d_J_putOnList_40 : decode b_J_putOnList 40 = .ok (.iastore, 1) := by decide +kernel
theorem d_J_putOnList_41 : decode b_J_putOnList 41 = .ok (.aload_n 0, 1) := by decide +kernel
theorem d_J_putOnList_42 : decode b_J_putOnList 42 = .ok (.dup, 1) := by decide +kernel
theorem d_J_putOnList_43 : decode b_J_putOnList 43 = .ok (.getfield 51, 3) := by decide +kernel
theorem d_J_putOnList_46 : decode b_J_putOnList 46 = .ok (.iconst 1, 1) := by decide +kernel
theorem d_J_putOnList_47 : decode b_J_putOnList 47 = .ok (.iadd, 1) := by decide +kernel
theorem d_J_putOnList_48 : decode b_J_putOnList 48 = .ok (.putfield 51, 3) := by decide +kernel
theorem d_J_putOnList_51 : decode b_J_putOnList 51 = .ok (.return_, 1) := by decide +kernel
theorem d_J_takeOffList_0 : decode b_J_takeOffList 0 = .ok (.iconst 0, 1) := by decide +kernel
theorem d_J_takeOffList_1 : decode b_J_takeOffList 1 = .ok (.istore_n 2, 1) := by decide +kernel
theorem d_J_takeOffList_2 : decode b_J_takeOffList 2 = .ok (.iconst 0, 1) := by decide +kernel
theorem d_J_takeOffList_3 : decode b_J_takeOffList 3 = .ok (.istore_n 3, 1) := by decide +kernel
theorem d_J_takeOffList_4 : decode b_J_takeOffList 4 = .ok (.iload_n 3, 1) := by decide +kernel
theorem d_J_takeOffList_5 : decode b_J_takeOffList 5 = .ok (.aload_n 0, 1) := by decide +kernel
theorem d_J_takeOffList_6 : decode b_J_takeOffList 6 = .ok (.getfield 51, 3) := by decide +kernel
theorem d_J_takeOffList_9 : decode b_J_takeOffList 9 = .ok (.if_icmp .ge 34, 3) := by decide +kernel
theorem d_J_takeOffList_12 : decode b_J_takeOffList 12 = .ok (.aload_n 0, 1) := by decide +kernel
theorem d_J_takeOffList_13 : decode b_J_takeOffList 13 = .ok (.getfield 47, 3) := by decide +kernel
theorem d_J_takeOffList_16 : decode b_J_takeOffList 16 = .ok (.iload_n 3, 1) := by decide +kernel
theorem d_J_takeOffList_17 : decode b_J_takeOffList 17 = .ok (.iaload, 1) := by decide +kernel
theorem d_J_takeOffList_18 : decode b_J_takeOffList 18 = .ok (.iload_n 1, 1) := by decide +kernel
theorem d_J_takeOffList_19 : decode b_J_takeOffList 19 = .ok (.if_icmp .eq 18, 3) := by decide +kernel
theorem d_J_takeOffList_22 : decode b_J_takeOffList 22 = .ok (.aload_n 0, 1) := by decide +kernel
theorem d_J_takeOffList_23 : decode b_J_takeOffList 23 = .ok (.getfield 47, 3) := by decide +kernel
theorem d_J_takeOffList_26 : decode b_J_takeOffList 26 = .ok (.iload_n 2, 1) := by decide +kernel
theorem d_J_takeOffList_27 : decode b_J_takeOffList 27 = .ok (.aload_n 0, 1) := by decide +kernel
theorem d_J_takeOffList_28 : decode b_J_takeOffList 28 = .ok (.getfield 47, 3) := by decide +kernel
theorem d_J_takeOffList_31 : decode b_J_takeOffList 31 = .ok (.iload_n 3, 1) := by decide +kernel
theorem d_J_takeOffList_32 : decode b_J_takeOffList 32 = .ok (.iaload, 1) := by decide +kernel
theorem d_J_takeOffList_33 : decode b_J_takeOffList 33 = .ok (.iastore, 1) := by decide +kernel
theorem d_J_takeOffList_34 : decode b_J_takeOffList 34 = .ok (.iinc 2 1, 3) := by decide +kernel
theorem d_J_takeOffList_37 : decode b_J_takeOffList 37 = .ok (.iinc 3 1, 3) := by decide +kernel
theorem d_J_takeOffList_40 : decode b_J_takeOffList 40 = .ok (.goto (-36), 3) := by decide +kernel
theorem d_J_takeOffList_43 : decode b_J_takeOffList 43 = .ok (.aload_n 0, 1) := by decide +kernel
theorem d_J_takeOffList_44 : decode b_J_takeOffList 44 = .ok (.iload_n 2, 1) := by decide +kernel
theorem d_J_takeOffList_45 : decode b_J_takeOffList 45 = .ok (.putfield 51, 3) := by decide +kernel
theorem d_J_takeOffList_48 : decode b_J_takeOffList 48 = .ok (.return_, 1) := by decide +kernel
theorem d_F_init_0 : decode b_F_init 0 = .ok (.aload_n 0, 1) := by decide +kernel
theorem d_F_init_1 : decode b_F_init 1 = .ok (.invokespecial 3, 3) := by decide +kernel
theorem d_F_init_4 : decode b_F_init 4 = .ok (.aload_n 0, 1) := by decide +kernel
theorem d_F_init_5 : decode b_F_init 5 = .ok (.iconst 0, 1) := by decide +kernel
theorem d_F_init_6 : decode b_F_init 6 = .ok (.putfield 9, 3) := by decide +kernel
theorem d_F_init_9 : decode b_F_init 9 = .ok (.aload_n 0, 1) := by decide +kernel
theorem d_F_init_10 : decode b_F_init 10 = .ok (.iconst 0, 1) := by decide +kernel
theorem d_F_init_11 : decode b_F_init 11 = .ok (.putfield 15, 3) := by decide +kernel
theorem d_F_init_14 : decode b_F_init 14 = .ok (.aload_n 0, 1) := by decide +kernel
theorem d_F_init_15 : decode b_F_init 15 = .ok (.lconst 0, 1) := by decide +kernel
theorem d_F_init_16 : decode b_F_init 16 = .ok (.putfield 18, 3) := by decide +kernel
theorem d_F_init_19 : decode b_F_init 19 = .ok (.aload_n 0, 1) := by decide +kernel
theorem d_F_init_20 : decode b_F_init 20 = .ok (.iconst 0, 1) := by decide +kernel
theorem d_F_init_21 : decode b_F_init 21 = .ok (.putfield 22, 3) := by decide +kernel
theorem d_F_init_24 : decode b_F_init 24 = .ok (.aload_n 0, 1) := by decide +kernel
theorem d_F_init_25 : decode b_F_init 25 = .ok (.iload_n 1, 1) := by decide +kernel
theorem d_F_init_26 : decode b_F_init 26 = .ok (.putfield 26, 3) := by decide +kernel
theorem d_F_init_29 : decode b_F_init 29 = .ok (.aload_n 0, 1) := by decide +kernel
theorem d_F_init_30 : decode b_F_init 30 = .ok (.iload_n 2, 1) := by decide +kernel
theorem d_F_init_31 : decode b_F_init 31 = .ok (.putfield 29, 3) := by decide +kernel
theorem d_F_init_34 : decode b_F_init 34 = .ok (.aload_n 0, 1) := by decide +kernel
theorem d_F_init_35 : decode b_F_init 35 = .ok (.lload_n 3, 1) := by decide +kernel
theorem d_F_init_36 : decode b_F_init 36 = .ok (.putfield 32, 3) := by decide +kernel
theorem d_F_init_39 : decode b_F_init 39 = .ok (.return_, 1) := by decide +kernel
theorem d_F_doubts_0 : decode b_F_doubts 0 = .ok (.aload_n 0, 1) := by decide +kernel
theorem d_F_doubts_1 : decode b_F_doubts 1 = .ok (.getfield 18, 3) := by decide +kernel
theorem d_F_doubts_4 : decode b_F_doubts 4 = .ok (.iload_n 1, 1) := by decide +kernel
theorem d_F_doubts_5 : decode b_F_doubts 5 = .ok (.lshr, 1) := by decide +kernel
theorem d_F_doubts_6 : decode b_F_doubts 6 = .ok (.lconst 1, 1) := by decide +kernel
theorem d_F_doubts_7 : decode b_F_doubts 7 = .ok (.land, 1) := by decide +kernel
theorem d_F_doubts_8 : decode b_F_doubts 8 = .ok (.lconst 0, 1) := by decide +kernel
theorem d_F_doubts_9 : decode b_F_doubts 9 = .ok (.lcmp, 1) := by decide +kernel
theorem d_F_doubts_10 : decode b_F_doubts 10 = .ok (.ifCond .eq 7, 3) := by decide +kernel
theorem d_F_doubts_13 : decode b_F_doubts 13 = .ok (.iconst 1, 1) := by decide +kernel
theorem d_F_doubts_14 : decode b_F_doubts 14 = .ok (.goto 4, 3) := by decide +kernel
theorem d_F_doubts_17 : decode b_F_doubts 17 = .ok (.iconst 0, 1) := by decide +kernel
theorem d_F_doubts_18 : decode b_F_doubts 18 = .ok (.ireturn, 1) := by decide +kernel
theorem d_F_rank_0 : decode b_F_rank 0 = .ok (.aload_n 0, 1) := by decide +kernel
theorem d_F_rank_1 : decode b_F_rank 1 = .ok (.getfield 9, 3) := by decide +kernel
theorem d_F_rank_4 : decode b_F_rank 4 = .ok (.ifCond .eq 8, 3) := by decide +kernel
theorem d_F_rank_7 : decode b_F_rank 7 = .ok (.bipush 9, 2) := by decide +kernel
theorem d_F_rank_9 : decode b_F_rank 9 = .ok (.goto 11, 3) := by decide +kernel
theorem d_F_rank_12 : decode b_F_rank 12 = .ok (.getstatic 35, 3) := by decide +kernel
theorem d_F_rank_15 : decode b_F_rank 15 = .ok (.aload_n 0, 1) := by decide +kernel
theorem d_F_rank_16 : decode b_F_rank 16 = .ok (.getfield 26, 3) := by decide +kernel
theorem d_F_rank_19 : decode b_F_rank 19 = .ok (.iaload, 1) := by decide +kernel
theorem d_F_rank_20 : decode b_F_rank 20 = .ok (.ireturn, 1) := by decide +kernel
theorem d_I_init_0 : decode b_I_init 0 = .ok (.aload_n 0, 1) := by decide +kernel
theorem d_I_init_1 : decode b_I_init 1 = .ok (.invokespecial 3, 3) := by decide +kernel
theorem d_I_init_4 : decode b_I_init 4 = .ok (.aload_n 0, 1) := by decide +kernel
theorem d_I_init_5 : decode b_I_init 5 = .ok (.iconst 0, 1) := by decide +kernel
theorem d_I_init_6 : decode b_I_init 6 = .ok (.putfield 9, 3) := by decide +kernel
theorem d_I_init_9 : decode b_I_init 9 = .ok (.aload_n 0, 1) := by decide +kernel
theorem d_I_init_10 : decode b_I_init 10 = .ok (.iconst 0, 1) := by decide +kernel
theorem d_I_init_11 : decode b_I_init 11 = .ok (.putfield 15, 3) := by decide +kernel
theorem d_I_init_14 : decode b_I_init 14 = .ok (.aload_n 0, 1) := by decide +kernel
theorem d_I_init_15 : decode b_I_init 15 = .ok (.iconst 0, 1) := by decide +kernel
theorem d_I_init_16 : decode b_I_init 16 = .ok (.putfield 19, 3) := by decide +kernel
theorem d_I_init_19 : decode b_I_init 19 = .ok (.aload_n 0, 1) := by decide +kernel
theorem d_I_init_20 : decode b_I_init 20 = .ok (.iconst 0, 1) := by decide +kernel
theorem d_I_init_21 : decode b_I_init 21 = .ok (.putfield 22, 3) := by decide +kernel
theorem d_I_init_24 : decode b_I_init 24 = .ok (.aload_n 0, 1) := by decide +kernel
theorem d_I_init_25 : decode b_I_init 25 = .ok (.iconst 0, 1) := by decide +kernel
theorem d_I_init_26 : decode b_I_init 26 = .ok (.putfield 25, 3) := by decide +kernel
theorem d_I_init_29 : decode b_I_init 29 = .ok (.aload_n 0, 1) := by decide +kernel
theorem d_I_init_30 : decode b_I_init 30 = .ok (.lload_n 1, 1) := by decide +kernel
theorem d_I_init_31 : decode b_I_init 31 = .ok (.putfield 28, 3) := by decide +kernel
theorem d_I_init_34 : decode b_I_init 34 = .ok (.aload_n 0, 1) := by decide +kernel
theorem d_I_init_35 : decode b_I_init 35 = .ok (.lload_n 3, 1) := by decide +kernel
theorem d_I_init_36 : decode b_I_init 36 = .ok (.putfield 32, 3) := by decide +kernel
theorem d_I_init_39 : decode b_I_init 39 = .ok (.return_, 1) := by decide +kernel
theorem d_I_isOnBelt_0 : decode b_I_isOnBelt 0 = .ok (.aload_n 0, 1) := by decide +kernel
theorem d_I_isOnBelt_1 : decode b_I_isOnBelt 1 = .ok (.getfield 22, 3) := by decide +kernel
theorem d_I_isOnBelt_4 : decode b_I_isOnBelt 4 = .ok (.ifCond .ne 7, 3) := by decide +kernel
theorem d_I_isOnBelt_7 : decode b_I_isOnBelt 7 = .ok (.iconst 1, 1) := by decide +kernel
theorem d_I_isOnBelt_8 : decode b_I_isOnBelt 8 = .ok (.goto 4, 3) := by decide +kernel
theorem d_I_isOnBelt_11 : decode b_I_isOnBelt 11 = .ok (.iconst 0, 1) := by decide +kernel
theorem d_I_isOnBelt_12 : decode b_I_isOnBelt 12 = .ok (.ireturn, 1) := by decide +kernel
theorem d_I_isOff_0 : decode b_I_isOff 0 = .ok (.aload_n 0, 1) := by decide +kernel
theorem d_I_isOff_1 : decode b_I_isOff 1 = .ok (.getfield 22, 3) := by decide +kernel
theorem d_I_isOff_4 : decode b_I_isOff 4 = .ok (.iconst 2, 1) := by decide +kernel
theorem d_I_isOff_5 : decode b_I_isOff 5 = .ok (.if_icmp .ne 7, 3) := by decide +kernel
theorem d_I_isOff_8 : decode b_I_isOff 8 = .ok (.iconst 1, 1) := by decide +kernel
theorem d_I_isOff_9 : decode b_I_isOff 9 = .ok (.goto 4, 3) := by decide +kernel
theorem d_I_isOff_12 : decode b_I_isOff 12 = .ok (.iconst 0, 1) := by decide +kernel
theorem d_I_isOff_13 : decode b_I_isOff 13 = .ok (.ireturn, 1) := by decide +kernel
theorem d_I_isSeenBy_0 : decode b_I_isSeenBy 0 = .ok (.aload_n 0, 1) := by decide +kernel
theorem d_I_isSeenBy_1 : decode b_I_isSeenBy 1 = .ok (.getfield 25, 3) := by decide +kernel
theorem d_I_isSeenBy_4 : decode b_I_isSeenBy 4 = .ok (.iload_n 1, 1) := by decide +kernel
theorem d_I_isSeenBy_5 : decode b_I_isSeenBy 5 = .ok (.ishr, 1) := by decide +kernel
theorem d_I_isSeenBy_6 : decode b_I_isSeenBy 6 = .ok (.iconst 1, 1) := by decide +kernel
theorem d_I_isSeenBy_7 : decode b_I_isSeenBy 7 = .ok (.iand, 1) := by decide +kernel
theorem d_I_isSeenBy_8 : decode b_I_isSeenBy 8 = .ok (.ifCond .eq 7, 3) := by decide +kernel
theorem d_I_isSeenBy_11 : decode b_I_isSeenBy 11 = .ok (.iconst 1, 1) := by decide +kernel
theorem d_I_isSeenBy_12 : decode b_I_isSeenBy 12 = .ok (.goto 4, 3) := by decide +kernel
theorem d_I_isSeenBy_15 : decode b_I_isSeenBy 15 = .ok (.iconst 0, 1) := by decide +kernel
theorem d_I_isSeenBy_16 : decode b_I_isSeenBy 16 = .ok (.ireturn, 1) := by decide +kernel
theorem d_I_beSeenBy_0 : decode b_I_beSeenBy 0 = .ok (.aload_n 0, 1) := by decide +kernel
theorem d_I_beSeenBy_1 : decode b_I_beSeenBy 1 = .ok (.dup, 1) := by decide +kernel
theorem d_I_beSeenBy_2 : decode b_I_beSeenBy 2 = .ok (.getfield 25, 3) := by decide +kernel
theorem d_I_beSeenBy_5 : decode b_I_beSeenBy 5 = .ok (.iconst 1, 1) := by decide +kernel
theorem d_I_beSeenBy_6 : decode b_I_beSeenBy 6 = .ok (.iload_n 1, 1) := by decide +kernel
theorem d_I_beSeenBy_7 : decode b_I_beSeenBy 7 = .ok (.ishl, 1) := by decide +kernel
theorem d_I_beSeenBy_8 : decode b_I_beSeenBy 8 = .ok (.ior, 1) := by decide +kernel
theorem d_I_beSeenBy_9 : decode b_I_beSeenBy 9 = .ok (.putfield 25, 3) := by decide +kernel
theorem d_I_beSeenBy_12 : decode b_I_beSeenBy 12 = .ok (.return_, 1) := by decide +kernel
theorem d_I_takeOffBelt_0 : decode b_I_takeOffBelt 0 = .ok (.aload_n 0, 1) := by decide +kernel
theorem d_I_takeOffBelt_1 : decode b_I_takeOffBelt 1 = .ok (.getfield 22, 3) := by decide +kernel
theorem d_I_takeOffBelt_4 : decode b_I_takeOffBelt 4 = .ok (.iconst 2, 1) := by decide +kernel
theorem d_I_takeOffBelt_5 : decode b_I_takeOffBelt 5 = .ok (.if_icmp .eq 13, 3) := by decide +kernel
theorem d_I_takeOffBelt_8 : decode b_I_takeOffBelt 8 = .ok (.aload_n 0, 1) := by decide +kernel
theorem d_I_takeOffBelt_9 : decode b_I_takeOffBelt 9 = .ok (.iconst 2, 1) := by decide +kernel
theorem d_I_takeOffBelt_10 : decode b_I_takeOffBelt 10 = .ok (.putfield 22, 3) := by decide +kernel
theorem d_I_takeOffBelt_13 : decode b_I_takeOffBelt 13 = .ok (.aload_n 0, 1) := by decide +kernel
theorem d_I_takeOffBelt_14 : decode b_I_takeOffBelt 14 = .ok (.iload_n 1, 1) := by decide +kernel
theorem d_I_takeOffBelt_15 : decode b_I_takeOffBelt 15 = .ok (.putfield 9, 3) := by decide +kernel
theorem d_I_takeOffBelt_18 : decode b_I_takeOffBelt 18 = .ok (.return_, 1) := by decide +kernel
theorem d_I_leaveBelt_0 : decode b_I_leaveBelt 0 = .ok (.aload_n 0, 1) := by decide +kernel
theorem d_I_leaveBelt_1 : decode b_I_leaveBelt 1 = .ok (.getfield 22, 3) := by decide +kernel
theorem d_I_leaveBelt_4 : decode b_I_leaveBelt 4 = .ok (.ifCond .ne 8, 3) := by decide +kernel
theorem d_I_leaveBelt_7 : decode b_I_leaveBelt 7 = .ok (.aload_n 0, 1) := by decide +kernel
theorem d_I_leaveBelt_8 : decode b_I_leaveBelt 8 = .ok (.iconst 1, 1) := by decide +kernel
theorem d_I_leaveBelt_9 : decode b_I_leaveBelt 9 = .ok (.putfield 22, 3) := by decide +kernel
theorem d_I_leaveBelt_12 : decode b_I_leaveBelt 12 = .ok (.return_, 1) := by decide +kernel
theorem d_S_init_0 : decode b_S_init 0 = .ok (.aload_n 0, 1) := by decide +kernel
theorem d_S_init_1 : decode b_S_init 1 = .ok (.invokespecial 3, 3) := by decide +kernel
theorem d_S_init_4 : decode b_S_init 4 = .ok (.aload_n 0, 1) := by decide +kernel
theorem d_S_init_5 : decode b_S_init 5 = .ok (.iconst 0, 1) := by decide +kernel
theorem d_S_init_6 : decode b_S_init 6 = .ok (.putfield 9, 3) := by decide +kernel
theorem d_S_init_9 : decode b_S_init 9 = .ok (.aload_n 0, 1) := by decide +kernel
theorem d_S_init_10 : decode b_S_init 10 = .ok (.iconst 0, 1) := by decide +kernel
theorem d_S_init_11 : decode b_S_init 11 = .ok (.putfield 15, 3) := by decide +kernel
theorem d_S_init_14 : decode b_S_init 14 = .ok (.aload_n 0, 1) := by decide +kernel
theorem d_S_init_15 : decode b_S_init 15 = .ok (.iconst 0, 1) := by decide +kernel
theorem d_S_init_16 : decode b_S_init 16 = .ok (.putfield 19, 3) := by decide +kernel
theorem d_S_init_19 : decode b_S_init 19 = .ok (.aload_n 0, 1) := by decide +kernel
theorem d_S_init_20 : decode b_S_init 20 = .ok (.lconst 0, 1) := by decide +kernel
theorem d_S_init_21 : decode b_S_init 21 = .ok (.putfield 22, 3) := by decide +kernel
theorem d_S_init_24 : decode b_S_init 24 = .ok (.aload_n 0, 1) := by decide +kernel
theorem d_S_init_25 : decode b_S_init 25 = .ok (.iconst 0, 1) := by decide +kernel
theorem d_S_init_26 : decode b_S_init 26 = .ok (.putfield 26, 3) := by decide +kernel
theorem d_S_init_29 : decode b_S_init 29 = .ok (.aload_n 0, 1) := by decide +kernel
theorem d_S_init_30 : decode b_S_init 30 = .ok (.lload_n 1, 1) := by decide +kernel
theorem d_S_init_31 : decode b_S_init 31 = .ok (.putfield 29, 3) := by decide +kernel
theorem d_S_init_34 : decode b_S_init 34 = .ok (.return_, 1) := by decide +kernel
theorem d_S_darken_0 : decode b_S_darken 0 = .ok (.aload_n 0, 1) := by decide +kernel
theorem d_S_darken_1 : decode b_S_darken 1 = .ok (.iconst 1, 1) := by decide +kernel
theorem d_S_darken_2 : decode b_S_darken 2 = .ok (.putfield 15, 3) := by decide +kernel
theorem d_S_darken_5 : decode b_S_darken 5 = .ok (.aload_n 0, 1) := by decide +kernel
theorem d_S_darken_6 : decode b_S_darken 6 = .ok (.iload_n 1, 1) := by decide +kernel
theorem d_S_darken_7 : decode b_S_darken 7 = .ok (.putfield 19, 3) := by decide +kernel
theorem d_S_darken_10 : decode b_S_darken 10 = .ok (.aload_n 0, 1) := by decide +kernel
theorem d_S_darken_11 : decode b_S_darken 11 = .ok (.lload_n 2, 1) := by decide +kernel
theorem d_S_darken_12 : decode b_S_darken 12 = .ok (.putfield 22, 3) := by decide +kernel
theorem d_S_darken_15 : decode b_S_darken 15 = .ok (.aload_n 0, 1) := by decide +kernel
theorem d_S_darken_16 : decode b_S_darken 16 = .ok (.iconst 0, 1) := by decide +kernel
theorem d_S_darken_17 : decode b_S_darken 17 = .ok (.putfield 26, 3) := by decide +kernel
theorem d_S_darken_20 : decode b_S_darken 20 = .ok (.return_, 1) := by decide +kernel
theorem d_S_lighten_0 : decode b_S_lighten 0 = .ok (.aload_n 0, 1) := by decide +kernel
theorem d_S_lighten_1 : decode b_S_lighten 1 = .ok (.iconst 0, 1) := by decide +kernel
theorem d_S_lighten_2 : decode b_S_lighten 2 = .ok (.putfield 15, 3) := by decide +kernel
theorem d_S_lighten_5 : decode b_S_lighten 5 = .ok (.aload_n 0, 1) := by decide +kernel
theorem d_S_lighten_6 : decode b_S_lighten 6 = .ok (.iconst 0, 1) := by decide +kernel
theorem d_S_lighten_7 : decode b_S_lighten 7 = .ok (.putfield 19, 3) := by decide +kernel
theorem d_S_lighten_10 : decode b_S_lighten 10 = .ok (.return_, 1) := by decide +kernel
