theorem d_J_cameAgain_0 : decode b_J_cameAgain 0 = .ok (.aload_n 0, 1) := by decide +kernel
theorem d_J_cameAgain_1 : decode b_J_cameAgain 1 = .ok (.getfield 30, 3) := by decide +kernel
theorem d_J_cameAgain_4 : decode b_J_cameAgain 4 = .ok (.iload_n 1, 1) := by decide +kernel
theorem d_J_cameAgain_5 : decode b_J_cameAgain 5 = .ok (.aaload, 1) := by decide +kernel
theorem d_J_cameAgain_6 : decode b_J_cameAgain 6 = .ok (.astore_n 2, 1) := by decide +kernel
theorem d_J_cameAgain_7 : decode b_J_cameAgain 7 = .ok (.iconst 1, 1) := by decide +kernel
theorem d_J_cameAgain_8 : decode b_J_cameAgain 8 = .ok (.istore_n 3, 1) := by decide +kernel
theorem d_J_cameAgain_9 : decode b_J_cameAgain 9 = .ok (.iload_n 3, 1) := by decide +kernel
theorem d_J_cameAgain_10 : decode b_J_cameAgain 10 = .ok (.iload_n 1, 1) := by decide +kernel
theorem d_J_cameAgain_11 : decode b_J_cameAgain 11 = .ok (.if_icmp .ge 45, 3) := by decide +kernel
theorem d_J_cameAgain_14 : decode b_J_cameAgain 14 = .ok (.aload_n 2, 1) := by decide +kernel
theorem d_J_cameAgain_15 : decode b_J_cameAgain 15 = .ok (.getfield 163, 3) := by decide +kernel
theorem d_J_cameAgain_18 : decode b_J_cameAgain 18 = .ok (.aload_n 0, 1) := by decide +kernel
theorem d_J_cameAgain_19 : decode b_J_cameAgain 19 = .ok (.getfield 30, 3) := by decide +kernel
theorem d_J_cameAgain_22 : decode b_J_cameAgain 22 = .ok (.iload_n 3, 1) := by decide +kernel
theorem d_J_cameAgain_23 : decode b_J_cameAgain 23 = .ok (.aaload, 1) := by decide +kernel
theorem d_J_cameAgain_24 : decode b_J_cameAgain 24 = .ok (.getfield 163, 3) := by decide +kernel
theorem d_J_cameAgain_27 : decode b_J_cameAgain 27 = .ok (.lsub, 1) := by decide +kernel
theorem d_J_cameAgain_28 : decode b_J_cameAgain 28 = .ok (.ldc2_w 257, 3) := by decide +kernel
theorem d_J_cameAgain_31 : decode b_J_cameAgain 31 = .ok (.lcmp, 1) := by decide +kernel
theorem d_J_cameAgain_32 : decode b_J_cameAgain 32 = .ok (.ifCond .gt 18, 3) := by decide +kernel
theorem d_J_cameAgain_35 : decode b_J_cameAgain 35 = .ok (.aload_n 0, 1) := by decide +kernel
theorem d_J_cameAgain_36 : decode b_J_cameAgain 36 = .ok (.getfield 30, 3) := by decide +kernel
theorem d_J_cameAgain_39 : decode b_J_cameAgain 39 = .ok (.iload_n 3, 1) := by decide +kernel
theorem d_J_cameAgain_40 : decode b_J_cameAgain 40 = .ok (.aaload, 1) := by decide +kernel
theorem d_J_cameAgain_41 : decode b_J_cameAgain 41 = .ok (.aload_n 2, 1) := by decide +kernel
theorem d_J_cameAgain_42 : decode b_J_cameAgain 42 = .ok (.invokestatic 259, 3) := by decide +kernel
theorem d_J_cameAgain_45 : decode b_J_cameAgain 45 = .ok (.ifCond .eq 5, 3) := by decide +kernel
theorem d_J_cameAgain_48 : decode b_J_cameAgain 48 = .ok (.iconst 1, 1) := by decide +kernel
theorem d_J_cameAgain_49 : decode b_J_cameAgain 49 = .ok (.ireturn, 1) := by decide +kernel
theorem d_J_cameAgain_50 : decode b_J_cameAgain 50 = .ok (.iinc 3 1, 3) := by decide +kernel
theorem d_J_cameAgain_53 : decode b_J_cameAgain 53 = .ok (.goto (-44), 3) := by decide +kernel
theorem d_J_cameAgain_56 : decode b_J_cameAgain 56 = .ok (.iconst 0, 1) := by decide +kernel
theorem d_J_cameAgain_57 : decode b_J_cameAgain 57 = .ok (.ireturn, 1) := by decide +kernel
theorem d_J_isSameTrouble_0 : decode b_J_isSameTrouble 0 = .ok (.aload_n 1, 1) := by decide +kernel
theorem d_J_isSameTrouble_1 : decode b_J_isSameTrouble 1 = .ok (.getfield 114, 3) := by decide +kernel
theorem d_J_isSameTrouble_4 : decode b_J_isSameTrouble 4 = .ok (.bipush 6, 2) := by decide +kernel
theorem d_J_isSameTrouble_6 : decode b_J_isSameTrouble 6 = .ok (.if_icmp .ne 20, 3) := by decide +kernel
theorem d_J_isSameTrouble_9 : decode b_J_isSameTrouble 9 = .ok (.aload_n 0, 1) := by decide +kernel
theorem d_J_isSameTrouble_10 : decode b_J_isSameTrouble 10 = .ok (.getfield 114, 3) := by decide +kernel
theorem d_J_isSameTrouble_13 : decode b_J_isSameTrouble 13 = .ok (.bipush 6, 2) := by decide +kernel
theorem d_J_isSameTrouble_15 : decode b_J_isSameTrouble 15 = .ok (.if_icmp .ne 7, 3) := by decide +kernel
theorem d_J_isSameTrouble_18 : decode b_J_isSameTrouble 18 = .ok (.iconst 1, 1) := by decide +kernel
theorem d_J_isSameTrouble_19 : decode b_J_isSameTrouble 19 = .ok (.goto 23, 3) := by decide +kernel
theorem d_J_isSameTrouble_22 : decode b_J_isSameTrouble 22 = .ok (.iconst 0, 1) := by decide +kernel
theorem d_J_isSameTrouble_23 : decode b_J_isSameTrouble 23 = .ok (.goto 19, 3) := by decide +kernel
theorem d_J_isSameTrouble_26 : decode b_J_isSameTrouble 26 = .ok (.aload_n 0, 1) := by decide +kernel
theorem d_J_isSameTrouble_27 : decode b_J_isSameTrouble 27 = .ok (.getfield 111, 3) := by decide +kernel
theorem d_J_isSameTrouble_30 : decode b_J_isSameTrouble 30 = .ok (.aload_n 1, 1) := by decide +kernel
theorem d_J_isSameTrouble_31 : decode b_J_isSameTrouble 31 = .ok (.getfield 111, 3) := by decide +kernel
theorem d_J_isSameTrouble_34 : decode b_J_isSameTrouble 34 = .ok (.if_icmp .ne 7, 3) := by decide +kernel
theorem d_J_isSameTrouble_37 : decode b_J_isSameTrouble 37 = .ok (.iconst 1, 1) := by decide +kernel
theorem d_J_isSameTrouble_38 : decode b_J_isSameTrouble 38 = .ok (.goto 4, 3) := by decide +kernel
theorem d_J_isSameTrouble_41 : decode b_J_isSameTrouble 41 = .ok (.iconst 0, 1) := by decide +kernel
theorem d_J_isSameTrouble_42 : decode b_J_isSameTrouble 42 = .ok (.ireturn, 1) := by decide +kernel
theorem d_J_faultByRank_0 : decode b_J_faultByRank 0 = .ok (.iload_n 1, 1) := by decide +kernel
theorem d_J_faultByRank_1 : decode b_J_faultByRank 1 = .ok (.ifCond .ge 5, 3) := by decide +kernel
theorem d_J_faultByRank_4 : decode b_J_faultByRank 4 = .ok (.iconst 0, 1) := by decide +kernel
theorem d_J_faultByRank_5 : decode b_J_faultByRank 5 = .ok (.ireturn, 1) := by decide +kernel
theorem d_J_faultByRank_6 : decode b_J_faultByRank 6 = .ok (.iload_n 1, 1) := by decide +kernel
theorem d_J_faultByRank_7 : decode b_J_faultByRank 7 = .ok (.istore_n 2, 1) := by decide +kernel
theorem d_J_faultByRank_8 : decode b_J_faultByRank 8 = .ok (.bipush 9, 2) := by decide +kernel
theorem d_J_faultByRank_10 : decode b_J_faultByRank 10 = .ok (.istore_n 3, 1) := by decide +kernel
theorem d_J_faultByRank_11 : decode b_J_faultByRank 11 = .ok (.iload_n 3, 1) := by decide +kernel
theorem d_J_faultByRank_12 : decode b_J_faultByRank 12 = .ok (.ifCond .le 56, 3) := by decide +kernel
theorem d_J_faultByRank_15 : decode b_J_faultByRank 15 = .ok (.aload_n 0, 1) := by decide +kernel
theorem d_J_faultByRank_16 : decode b_J_faultByRank 16 = .ok (.getfield 37, 3) := by decide +kernel
theorem d_J_faultByRank_19 : decode b_J_faultByRank 19 = .ok (.iconst 1, 1) := by decide +kernel
theorem d_J_faultByRank_20 : decode b_J_faultByRank 20 = .ok (.iadd, 1) := by decide +kernel
theorem d_J_faultByRank_21 : decode b_J_faultByRank 21 = .ok (.istore 4, 2) := by decide +kernel
theorem d_J_faultByRank_23 : decode b_J_faultByRank 23 = .ok (.iload 4, 2) := by decide +kernel
theorem d_J_faultByRank_25 : decode b_J_faultByRank 25 = .ok (.aload_n 0, 1) := by decide +kernel
theorem d_J_faultByRank_26 : decode b_J_faultByRank 26 = .ok (.getfield 34, 3) := by decide +kernel
theorem d_J_faultByRank_29 : decode b_J_faultByRank 29 = .ok (.if_icmp .gt 33, 3) := by decide +kernel
theorem d_J_faultByRank_32 : decode b_J_faultByRank 32 = .ok (.aload_n 0, 1) := by decide +kernel
theorem d_J_faultByRank_33 : decode b_J_faultByRank 33 = .ok (.getfield 30, 3) := by decide +kernel
theorem d_J_faultByRank_36 : decode b_J_faultByRank 36 = .ok (.iload 4, 2) := by decide +kernel
theorem d_J_faultByRank_38 : decode b_J_faultByRank 38 = .ok (.aaload, 1) := by decide +kernel
theorem d_J_faultByRank_39 : decode b_J_faultByRank 39 = .ok (.invokevirtual 159, 3) := by decide +kernel
theorem d_J_faultByRank_42 : decode b_J_faultByRank 42 = .ok (.iload_n 3, 1) := by decide +kernel
theorem d_J_faultByRank_43 : decode b_J_faultByRank 43 = .ok (.if_icmp .ne 13, 3) := by decide +kernel
theorem d_J_faultByRank_46 : decode b_J_faultByRank 46 = .ok (.iload_n 2, 1) := by decide +kernel
theorem d_J_faultByRank_47 : decode b_J_faultByRank 47 = .ok (.ifCond .ne 6, 3) := by decide +kernel
theorem d_J_faultByRank_50 : decode b_J_faultByRank 50 = .ok (.iload 4, 2) := by decide +kernel
theorem d_J_faultByRank_52 : decode b_J_faultByRank 52 = .ok (.ireturn, 1) := by decide +kernel
theorem d_J_faultByRank_53 : decode b_J_faultByRank 53 = .ok (.iinc 2 (-1), 3) := by decide +kernel
theorem d_J_faultByRank_56 : decode b_J_faultByRank 56 = .ok (.iinc 4 1, 3) := by decide +kernel
theorem d_J_faultByRank_59 : decode b_J_faultByRank 59 = .ok (.goto (-36), 3) := by decide +kernel
theorem d_J_faultByRank_62 : decode b_J_faultByRank 62 = .ok (.iinc 3 (-1), 3) := by decide +kernel
theorem d_J_faultByRank_65 : decode b_J_faultByRank 65 = .ok (.goto (-54), 3) := by decide +kernel
theorem d_J_faultByRank_68 : decode b_J_faultByRank 68 = .ok (.iconst 0, 1) := by decide +kernel
theorem d_J_faultByRank_69 : decode b_J_faultByRank 69 = .ok (.ireturn, 1) := by decide +kernel
theorem d_J_nextStep_0 : decode b_J_nextStep 0 = .ok (.aload_n 0, 1) := by decide +kernel
theorem d_J_nextStep_1 : decode b_J_nextStep 1 = .ok (.getfield 127, 3) := by decide +kernel
theorem d_J_nextStep_4 : decode b_J_nextStep 4 = .ok (.iconst 3, 1) := by decide +kernel
theorem d_J_nextStep_5 : decode b_J_nextStep 5 = .ok (.if_icmp .lt 5, 3) := by decide +kernel
theorem d_J_nextStep_8 : decode b_J_nextStep 8 = .ok (.iconst 0, 1) := by decide +kernel
theorem d_J_nextStep_9 : decode b_J_nextStep 9 = .ok (.ireturn, 1) := by decide +kernel
theorem d_J_nextStep_10 : decode b_J_nextStep 10 = .ok (.getstatic 263, 3) := by decide +kernel
theorem d_J_nextStep_13 : decode b_J_nextStep 13 = .ok (.aload_n 0, 1) := by decide +kernel
theorem d_J_nextStep_14 : decode b_J_nextStep 14 = .ok (.getfield 114, 3) := by decide +kernel
theorem d_J_nextStep_17 : decode b_J_nextStep 17 = .ok (.iconst 1, 1) := by decide +kernel
theorem d_J_nextStep_18 : decode b_J_nextStep 18 = .ok (.isub, 1) := by decide +kernel
theorem d_J_nextStep_19 : decode b_J_nextStep 19 = .ok (.iconst 3, 1) := by decide +kernel
theorem d_J_nextStep_20 : decode b_J_nextStep 20 = .ok (.imul, 1) := by decide +kernel
theorem d_J_nextStep_21 : decode b_J_nextStep 21 = .ok (.aload_n 0, 1) := by decide +kernel
theorem d_J_nextStep_22 : decode b_J_nextStep 22 = .ok (.getfield 127, 3) := by decide +kernel
theorem d_J_nextStep_25 : decode b_J_nextStep 25 = .ok (.iadd, 1) := by decide +kernel
theorem d_J_nextStep_26 : decode b_J_nextStep 26 = .ok (.iaload, 1) := by decide +kernel
theorem d_J_nextStep_27 : decode b_J_nextStep 27 = .ok (.ireturn, 1) := by decide +kernel
theorem d_J_resetCounts_0 : decode b_J_resetCounts 0 = .ok (.iconst 0, 1) := by decide +kernel
theorem d_J_resetCounts_1 : decode b_J_resetCounts 1 = .ok (.istore_n 1, 1) := by decide +kernel
theorem d_J_resetCounts_2 : decode b_J_resetCounts 2 = .ok (.iload_n 1, 1) := by decide +kernel
theorem d_J_resetCounts_3 : decode b_J_resetCounts 3 = .ok (.aload_n 0, 1) := by decide +kernel
theorem d_J_resetCounts_4 : decode b_J_resetCounts 4 = .ok (.getfield 15, 3) := by decide +kernel
theorem d_J_resetCounts_7 : decode b_J_resetCounts 7 = .ok (.if_icmp .ge 19, 3) := by decide +kernel
theorem d_J_resetCounts_10 : decode b_J_resetCounts 10 = .ok (.aload_n 0, 1) := by decide +kernel
theorem d_J_resetCounts_11 : decode b_J_resetCounts 11 = .ok (.getfield 11, 3) := by decide +kernel
theorem d_J_resetCounts_14 : decode b_J_resetCounts 14 = .ok (.iload_n 1, 1) := by decide +kernel
theorem d_J_resetCounts_15 : decode b_J_resetCounts 15 = .ok (.aaload, 1) := by decide +kernel
theorem d_J_resetCounts_16 : decode b_J_resetCounts 16 = .ok (.iconst 0, 1) := by decide +kernel
theorem d_J_resetCounts_17 : decode b_J_resetCounts 17 = .ok (.putfield 166, 3) := by decide +kernel
theorem d_J_resetCounts_20 : decode b_J_resetCounts 20 = .ok (.iinc 1 1, 3) := by decide +kernel
theorem d_J_resetCounts_23 : decode b_J_resetCounts 23 = .ok (.goto (-21), 3) := by decide +kernel
theorem d_J_resetCounts_26 : decode b_J_resetCounts 26 = .ok (.return_, 1) := by decide +kernel
theorem d_J_clear_0 : decode b_J_clear 0 = .ok (.aload_n 0, 1) := by decide +kernel
theorem d_J_clear_1 : decode b_J_clear 1 = .ok (.getfield 30, 3) := by decide +kernel
theorem d_J_clear_4 : decode b_J_clear 4 = .ok (.iload_n 1, 1) := by decide +kernel
theorem d_J_clear_5 : decode b_J_clear 5 = .ok (.aaload, 1) := by decide +kernel
theorem d_J_clear_6 : decode b_J_clear 6 = .ok (.astore_n 2, 1) := by decide +kernel
theorem d_J_clear_7 : decode b_J_clear 7 = .ok (.aload_n 0, 1) := by decide +kernel
theorem d_J_clear_8 : decode b_J_clear 8 = .ok (.iload_n 1, 1) := by decide +kernel
theorem d_J_clear_9 : decode b_J_clear 9 = .ok (.putfield 37, 3) := by decide +kernel
theorem d_J_clear_12 : decode b_J_clear 12 = .ok (.aload_n 2, 1) := by decide +kernel
theorem d_J_clear_13 : decode b_J_clear 13 = .ok (.getfield 169, 3) := by decide +kernel
theorem d_J_clear_16 : decode b_J_clear 16 = .ok (.ifCond .eq 8, 3) := by decide +kernel
theorem d_J_clear_19 : decode b_J_clear 19 = .ok (.aload_n 0, 1) := by decide +kernel
theorem d_J_clear_20 : decode b_J_clear 20 = .ok (.iload_n 1, 1) := by decide +kernel
theorem d_J_clear_21 : decode b_J_clear 21 = .ok (.invokevirtual 266, 3) := by decide +kernel
theorem d_J_clear_24 : decode b_J_clear 24 = .ok (.iconst 1, 1) := by decide +kernel
theorem d_J_clear_25 : decode b_J_clear 25 = .ok (.istore_n 3, 1) := by decide +kernel
theorem d_J_clear_26 : decode b_J_clear 26 = .ok (.iload_n 3, 1) := by decide +kernel
theorem d_J_clear_27 : decode b_J_clear 27 = .ok (.aload_n 0, 1) := by decide +kernel
theorem d_J_clear_28 : decode b_J_clear 28 = .ok (.getfield 25, 3) := by decide +kernel
theorem d_J_clear_31 : decode b_J_clear 31 = .ok (.if_icmp .gt 34, 3) := by decide +kernel
theorem d_J_clear_34 : decode b_J_clear 34 = .ok (.aload_n 2, 1) := by decide +kernel
theorem d_J_clear_35 : decode b_J_clear 35 = .ok (.iload_n 3, 1) := by decide +kernel
theorem d_J_clear_36 : decode b_J_clear 36 = .ok (.invokevirtual 108, 3) := by decide +kernel
theorem d_J_clear_39 : decode b_J_clear 39 = .ok (.ifCond .eq 20, 3) := by decide +kernel
theorem d_J_clear_42 : decode b_J_clear 42 = .ok (.aload_n 0, 1) := by decide +kernel
theorem d_J_clear_43 : decode b_J_clear 43 = .ok (.getfield 21, 3) := by decide +kernel
theorem d_J_clear_46 : decode b_J_clear 46 = .ok (.iload_n 3, 1) := by decide +kernel
theorem d_J_clear_47 : decode b_J_clear 47 = .ok (.aaload, 1) := by decide +kernel
theorem d_J_clear_48 : decode b_J_clear 48 = .ok (.invokevirtual 269, 3) := by decide +kernel
theorem d_J_clear_51 : decode b_J_clear 51 = .ok (.ifCond .eq 8, 3) := by decide +kernel
theorem d_J_clear_54 : decode b_J_clear 54 = .ok (.aload_n 0, 1) := by decide +kernel
theorem d_J_clear_55 : decode b_J_clear 55 = .ok (.iload_n 3, 1) := by decide +kernel
theorem d_J_clear_56 : decode b_J_clear 56 = .ok (.invokevirtual 272, 3) := by decide +kernel
theorem d_J_clear_59 : decode b_J_clear 59 = .ok (.iinc 3 1, 3) := by decide +kernel
theorem d_J_clear_62 : decode b_J_clear 62 = .ok (.goto (-36), 3) := by decide +kernel
theorem d_J_clear_65 : decode b_J_clear 65 = .ok (.aload_n 2, 1) := by decide +kernel
theorem d_J_clear_66 : decode b_J_clear 66 = .ok (.getfield 169, 3) := by decide +kernel
theorem d_J_clear_69 : decode b_J_clear 69 = .ok (.ifCond .eq 8, 3) := by decide +kernel
theorem d_J_clear_72 : decode b_J_clear 72 = .ok (.aload_n 0, 1) := by decide +kernel
theorem d_J_clear_73 : decode b_J_clear 73 = .ok (.iload_n 1, 1) := by decide +kernel
theorem d_J_clear_74 : decode b_J_clear 74 = .ok (.invokevirtual 275, 3) := by decide +kernel
theorem d_J_clear_77 : decode b_J_clear 77 = .ok (.return_, 1) := by decide +kernel
theorem d_J_emptyBelt_0 : decode b_J_emptyBelt 0 = .ok (.iconst 1, 1) := by decide +kernel
theorem d_J_emptyBelt_1 : decode b_J_emptyBelt 1 = .ok (.istore_n 2, 1) := by decide +kernel
theorem d_J_emptyBelt_2 : decode b_J_emptyBelt 2 = .ok (.iload_n 2, 1) := by decide +kernel
theorem d_J_emptyBelt_3 : decode b_J_emptyBelt 3 = .ok (.aload_n 0, 1) := by decide +kernel
theorem d_J_emptyBelt_4 : decode b_J_emptyBelt 4 = .ok (.getfield 25, 3) := by decide +kernel
theorem d_J_emptyBelt_7 : decode b_J_emptyBelt 7 = .ok (.if_icmp .gt 31, 3) := by decide +kernel
theorem d_J_emptyBelt_10 : decode b_J_emptyBelt 10 = .ok (.aload_n 0, 1) := by decide +kernel
theorem d_J_emptyBelt_11 : decode b_J_emptyBelt 11 = .ok (.getfield 21, 3) := by decide +kernel
theorem d_J_emptyBelt_14 : decode b_J_emptyBelt 14 = .ok (.iload_n 2, 1) := by decide +kernel
theorem d_J_emptyBelt_15 : decode b_J_emptyBelt 15 = .ok (.aaload, 1) := by decide +kernel
theorem d_J_emptyBelt_16 : decode b_J_emptyBelt 16 = .ok (.invokevirtual 238, 3) := by decide +kernel
theorem d_J_emptyBelt_19 : decode b_J_emptyBelt 19 = .ok (.ifCond .eq 13, 3) := by decide +kernel
theorem d_J_emptyBelt_22 : decode b_J_emptyBelt 22 = .ok (.aload_n 0, 1) := by decide +kernel
theorem d_J_emptyBelt_23 : decode b_J_emptyBelt 23 = .ok (.getfield 21, 3) := by decide +kernel
theorem d_J_emptyBelt_26 : decode b_J_emptyBelt 26 = .ok (.iload_n 2, 1) := by decide +kernel
theorem d_J_emptyBelt_27 : decode b_J_emptyBelt 27 = .ok (.aaload, 1) := by decide +kernel
theorem d_J_emptyBelt_28 : decode b_J_emptyBelt 28 = .ok (.iload_n 1, 1) := by decide +kernel
theorem d_J_emptyBelt_29 : decode b_J_emptyBelt 29 = .ok (.invokevirtual 223, 3) := by decide +kernel
theorem d_J_emptyBelt_32 : decode b_J_emptyBelt 32 = .ok (.iinc 2 1, 3) := by decide +kernel
theorem d_J_emptyBelt_35 : decode b_J_emptyBelt 35 = .ok (.goto (-33), 3) := by decide +kernel
theorem d_J_emptyBelt_38 : decode b_J_emptyBelt 38 = .ok (.iconst 0, 1) := by decide +kernel
theorem d_J_emptyBelt_39 : decode b_J_emptyBelt 39 = .ok (.istore_n 2, 1) := by decide +kernel
theorem d_J_emptyBelt_40 : decode b_J_emptyBelt 40 = .ok (.iload_n 2, 1) := by decide +kernel
theorem d_J_emptyBelt_41 : decode b_J_emptyBelt 41 = .ok (.aload_n 0, 1) := by decide +kernel
theorem d_J_emptyBelt_42 : decode b_J_emptyBelt 42 = .ok (.getfield 15, 3) := by decide +kernel
theorem d_J_emptyBelt_45 : decode b_J_emptyBelt 45 = .ok (.if_icmp .ge 18, 3) := by decide +kernel
theorem d_J_emptyBelt_48 : decode b_J_emptyBelt 48 = .ok (.aload_n 0, 1) := by decide +kernel
theorem d_J_emptyBelt_49 : decode b_J_emptyBelt 49 = .ok (.getfield 11, 3) := by decide +kernel
theorem d_J_emptyBelt_52 : decode b_J_emptyBelt 52 = .ok (.iload_n 2, 1) := by decide +kernel
theorem d_J_emptyBelt_53 : decode b_J_emptyBelt 53 = .ok (.aaload, 1) := by decide +kernel
theorem d_J_emptyBelt_54 : decode b_J_emptyBelt 54 = .ok (.invokevirtual 233, 3) := by decide +kernel
theorem d_J_emptyBelt_57 : decode b_J_emptyBelt 57 = .ok (.iinc 2 1, 3) := by decide +kernel
theorem d_J_emptyBelt_60 : decode b_J_emptyBelt 60 = .ok (.goto (-20), 3) := by decide +kernel
theorem d_J_emptyBelt_63 : decode b_J_emptyBelt 63 = .ok (.return_, 1) := by decide +kernel
theorem d_J_listOffBy_0 : decode b_J_listOffBy 0 = .ok (.iconst 1, 1) := by decide +kernel
theorem d_J_listOffBy_1 : decode b_J_listOffBy 1 = .ok (.istore_n 2, 1) := by decide +kernel
theorem d_J_listOffBy_2 : decode b_J_listOffBy 2 = .ok (.iload_n 2, 1) := by decide +kernel
theorem d_J_listOffBy_3 : decode b_J_listOffBy 3 = .ok (.aload_n 0, 1) := by decide +kernel
theorem d_J_listOffBy_4 : decode b_J_listOffBy 4 = .ok (.getfield 25, 3) := by decide +kernel
theorem d_J_listOffBy_7 : decode b_J_listOffBy 7 = .ok (.if_icmp .gt 39, 3) := by decide +kernel
theorem d_J_listOffBy_10 : decode b_J_listOffBy 10 = .ok (.aload_n 0, 1) := by decide +kernel
theorem d_J_listOffBy_11 : decode b_J_listOffBy 11 = .ok (.getfield 21, 3) := by decide +kernel
theorem d_J_listOffBy_14 : decode b_J_listOffBy 14 = .ok (.iload_n 2, 1) := by decide +kernel
theorem d_J_listOffBy_15 : decode b_J_listOffBy 15 = .ok (.aaload, 1) := by decide +kernel
theorem d_J_listOffBy_16 : decode b_J_listOffBy 16 = .ok (.invokevirtual 269, 3) := by decide +kernel
theorem d_J_listOffBy_19 : decode b_J_listOffBy 19 = .ok (.ifCond .eq 21, 3) := by decide +kernel
theorem d_J_listOffBy_22 : decode b_J_listOffBy 22 = .ok (.aload_n 0, 1) := by decide +kernel
theorem d_J_listOffBy_23 : decode b_J_listOffBy 23 = .ok (.getfield 21, 3) := by decide +kernel
theorem d_J_listOffBy_26 : decode b_J_listOffBy 26 = .ok (.iload_n 2, 1) := by decide +kernel
theorem d_J_listOffBy_27 : decode b_J_listOffBy 27 = .ok (.aaload, 1) := by decide +kernel
theorem d_J_listOffBy_28 : decode b_J_listOffBy 28 = .ok (.getfield 278, 3) := by decide +kernel
theorem d_J_listOffBy_31 : decode b_J_listOffBy 31 = .ok (.iload_n 1, 1) := by decide +kernel
theorem d_J_listOffBy_32 : decode b_J_listOffBy 32 = .ok (.if_icmp .ne 8, 3) := by decide +kernel
theorem d_J_listOffBy_35 : decode b_J_listOffBy 35 = .ok (.aload_n 0, 1) := by decide +kernel
theorem d_J_listOffBy_36 : decode b_J_listOffBy 36 = .ok (.iload_n 2, 1) := by decide +kernel
theorem d_J_listOffBy_37 : decode b_J_listOffBy 37 = .ok (.invokevirtual 272, 3) := by decide +kernel
theorem d_J_listOffBy_40 : decode b_J_listOffBy 40 = .ok (.iinc 2 1, 3) := by decide +kernel
theorem d_J_listOffBy_43 : decode b_J_listOffBy 43 = .ok (.goto (-41), 3) := by decide +kernel
theorem d_J_listOffBy_46 : decode b_J_listOffBy 46 = .ok (.return_, 1) := by decide +kernel
theorem d_J_putOnList_0 : decode b_J_putOnList 0 = .ok (.aload_n 0, 1) := by decide +kernel
theorem d_J_putOnList_1 : decode b_J_putOnList 1 = .ok (.getfield 21, 3) := by decide +kernel
theorem d_J_putOnList_4 : decode b_J_putOnList 4 = .ok (.iload_n 1, 1) := by decide +kernel
theorem d_J_putOnList_5 : decode b_J_putOnList 5 = .ok (.aaload, 1) := by decide +kernel
theorem d_J_putOnList_6 : decode b_J_putOnList 6 = .ok (.getfield 142, 3) := by decide +kernel
theorem d_J_putOnList_9 : decode b_J_putOnList 9 = .ok (.ifCond .ne 42, 3) := by decide +kernel
theorem d_J_putOnList_12 : decode b_J_putOnList 12 = .ok (.aload_n 0, 1) := by decide +kernel
theorem d_J_putOnList_13 : decode b_J_putOnList 13 = .ok (.getfield 51, 3) := by decide +kernel
theorem d_J_putOnList_16 : decode b_J_putOnList 16 = .ok (.bipush 60, 2) := by decide +kernel
theorem d_J_putOnList_18 : decode b_J_putOnList 18 = .ok (.if_icmp .ge 33, 3) := by decide +kernel
theorem d_J_putOnList_21 : decode b_J_putOnList 21 = .ok (.aload_n 0, 1) := by decide +kernel
theorem d_J_putOnList_22 : decode b_J_putOnList 22 = .ok (.getfield 21, 3) := by decide +kernel
theorem d_J_putOnList_25 : decode b_J_putOnList 25 = .ok (.iload_n 1, 1) := by decide +kernel
theorem d_J_putOnList_26 : decode b_J_putOnList 26 = .ok (.aaload, 1) := by decide +kernel
theorem d_J_putOnList_27 : decode b_J_putOnList 27 = .ok (.iconst 1, 1) := by decide +kernel
theorem d_J_putOnList_28 : decode b_J_putOnList 28 = .ok (.putfield 142, 3) := by decide +kernel
theorem d_J_putOnList_31 : decode b_J_putOnList 31 = .ok (.aload_n 0, 1) := by decide +kernel
theorem d_J_putOnList_32 : decode b_J_putOnList 32 = .ok (.getfield 47, 3) := by decide +kernel
theorem d_J_putOnList_35 : decode b_J_putOnList 35 = .ok (.aload_n 0, 1) := by decide +kernel
theorem d_J_putOnList_36 : decode b_J_putOnList 36 = .ok (.getfield 51, 3) := by decide +kernel
theorem d_J_putOnList_39 : decode b_J_putOnList 39 = .ok (.iload_n 1, 1) := by decide +kernel
theorem d_J_putOnList_40 : decode b_J_putOnList 40 = .ok (.iastore, 1) := by decide +kernel
theorem d_J_putOnList_41 : decode b_J_putOnList 41 = .ok (.aload_n 0, 1) := by decide +kernel
theorem d_J_putOnList_42 : decode b_J_putOnList 42 = .ok (.dup, 1) := by decide +kernel
theorem d_J_putOnList_43 : decode b_J_putOnList 43 = .ok (.getfield 51, 3) := by decide +kernel
theorem d_J_putOnList_46 : decode b_J_putOnList 46 = .ok (.iconst 1, 1) := by decide +kernel
theorem d_J_putOnList_47 : decode b_J_putOnList 47 = .ok (.iadd, 1) := by decide +kernel
theorem d_J_putOnList_48 : decode b_J_putOnList 48 = .ok (.putfield 51, 3) := by decide +kernel
theorem d_J_putOnList_51 : decode b_J_putOnList 51 = .ok (.return_, 1) := by decide +kernel
theorem d_J_takeOffList_0 : decode b_J_takeOffList 0 = .ok (.iconst 0, 1) := by decide +kernel
theorem d_J_takeOffList_1 : decode b_J_takeOffList 1 = .ok (.istore_n 2, 1) := by decide +kernel
theorem d_J_takeOffList_2 : decode b_J_takeOffList 2 = .ok (.iconst 0, 1) := by decide +kernel
theorem d_J_takeOffList_3 : decode b_J_takeOffList 3 = .ok (.istore_n 3, 1) := by decide +kernel
theorem d_J_takeOffList_4 : decode b_J_takeOffList 4 = .ok (.iload_n 3, 1) := by decide +kernel
theorem d_J_takeOffList_5 : decode b_J_takeOffList 5 = .ok (.aload_n 0, 1) := by decide +kernel
theorem d_J_takeOffList_6 : decode b_J_takeOffList 6 = .ok (.getfield 51, 3) := by decide +kernel
theorem d_J_takeOffList_9 : decode b_J_takeOffList 9 = .ok (.if_icmp .ge 34, 3) := by decide +kernel
theorem d_J_takeOffList_12 : decode b_J_takeOffList 12 = .ok (.aload_n 0, 1) := by decide +kernel
theorem d_J_takeOffList_13 : decode b_J_takeOffList 13 = .ok (.getfield 47, 3) := by decide +kernel
theorem d_J_takeOffList_16 : decode b_J_takeOffList 16 = .ok (.iload_n 3, 1) := by decide +kernel
theorem d_J_takeOffList_17 : decode b_J_takeOffList 17 = .ok (.iaload, 1) := by decide +kernel
theorem d_J_takeOffList_18 : decode b_J_takeOffList 18 = .ok (.iload_n 1, 1) := by decide +kernel
theorem d_J_takeOffList_19 : decode b_J_takeOffList 19 = .ok (.if_icmp .eq 18, 3) := by decide +kernel
theorem d_J_takeOffList_22 : decode b_J_takeOffList 22 = .ok (.aload_n 0, 1) := by decide +kernel
theorem d_J_takeOffList_23 : decode b_J_takeOffList 23 = .ok (.getfield 47, 3) := by decide +kernel
theorem d_J_takeOffList_26 : decode b_J_takeOffList 26 = .ok (.iload_n 2, 1) := by decide +kernel
theorem d_J_takeOffList_27 : decode b_J_takeOffList 27 = .ok (.aload_n 0, 1) := by decide +kernel
theorem d_J_takeOffList_28 : decode b_J_takeOffList 28 = .ok (.getfield 47, 3) := by decide +kernel
theorem d_J_takeOffList_31 : decode b_J_takeOffList 31 = .ok (.iload_n 3, 1) := by decide +kernel
theorem d_J_takeOffList_32 : decode b_J_takeOffList 32 = .ok (.iaload, 1) := by decide +kernel
theorem d_J_takeOffList_33 : decode b_J_takeOffList 33 = .ok (.iastore, 1) := by decide +kernel
theorem d_J_takeOffList_34 : decode b_J_takeOffList 34 = .ok (.iinc 2 1, 3) := by decide +kernel
theorem d_J_takeOffList_37 : decode b_J_takeOffList 37 = .ok (.iinc 3 1, 3) := by decide +kernel
theorem d_J_takeOffList_40 : decode b_J_takeOffList 40 = .ok (.goto (-36), 3) := by decide +kernel
theorem d_J_takeOffList_43 : decode b_J_takeOffList 43 = .ok (.aload_n 0, 1) := by decide +kernel
theorem d_J_takeOffList_44 : decode b_J_takeOffList 44 = .ok (.iload_n 2, 1) := by decide +kernel
theorem d_J_takeOffList_45 : decode b_J_takeOffList 45 = .ok (.putfield 51, 3) := by decide +kernel
theorem d_J_takeOffList_48 : decode b_J_takeOffList 48 = .ok (.return_, 1) := by decide +kernel
theorem d_M_init_0 : decode b_M_init 0 = .ok (.aload_n 0, 1) := by decide +kernel
theorem d_M_init_1 : decode b_M_init 1 = .ok (.invokespecial 1, 3) := by decide +kernel
theorem d_M_init_4 : decode b_M_init 4 = .ok (.aload_n 0, 1) := by decide +kernel
theorem d_M_init_5 : decode b_M_init 5 = .ok (.bipush 8, 2) := by decide +kernel
theorem d_M_init_7 : decode b_M_init 7 = .ok (.newarray .long, 2) := by decide +kernel
theorem d_M_init_9 : decode b_M_init 9 = .ok (.putfield 7, 3) := by decide +kernel
theorem d_M_init_12 : decode b_M_init 12 = .ok (.aload_n 0, 1) := by decide +kernel
theorem d_M_init_13 : decode b_M_init 13 = .ok (.bipush 8, 2) := by decide +kernel
theorem d_M_init_15 : decode b_M_init 15 = .ok (.newarray .boolean, 2) := by decide +kernel
theorem d_M_init_17 : decode b_M_init 17 = .ok (.putfield 13, 3) := by decide +kernel
theorem d_M_init_20 : decode b_M_init 20 = .ok (.aload_n 0, 1) := by decide +kernel
theorem d_M_init_21 : decode b_M_init 21 = .ok (.bipush 8, 2) := by decide +kernel
theorem d_M_init_23 : decode b_M_init 23 = .ok (.newarray .int, 2) := by decide +kernel
theorem d_M_init_25 : decode b_M_init 25 = .ok (.putfield 17, 3) := by decide +kernel
theorem d_M_init_28 : decode b_M_init 28 = .ok (.aload_n 0, 1) := by decide +kernel
theorem d_M_init_29 : decode b_M_init 29 = .ok (.bipush 8, 2) := by decide +kernel
theorem d_M_init_31 : decode b_M_init 31 = .ok (.newarray .long, 2) := by decide +kernel
theorem d_M_init_33 : decode b_M_init 33 = .ok (.putfield 21, 3) := by decide +kernel
theorem d_M_init_36 : decode b_M_init 36 = .ok (.aload_n 0, 1) := by decide +kernel
theorem d_M_init_37 : decode b_M_init 37 = .ok (.bipush 8, 2) := by decide +kernel
theorem d_M_init_39 : decode b_M_init 39 = .ok (.newarray .int, 2) := by decide +kernel
theorem d_M_init_41 : decode b_M_init 41 = .ok (.putfield 24, 3) := by decide +kernel
theorem d_M_init_44 : decode b_M_init 44 = .ok (.aload_n 0, 1) := by decide +kernel
theorem d_M_init_45 : decode b_M_init 45 = .ok (.bipush 8, 2) := by decide +kernel
theorem d_M_init_47 : decode b_M_init 47 = .ok (.newarray .boolean, 2) := by decide +kernel
theorem d_M_init_49 : decode b_M_init 49 = .ok (.putfield 27, 3) := by decide +kernel
theorem d_M_init_52 : decode b_M_init 52 = .ok (.aload_n 0, 1) := by decide +kernel
theorem d_M_init_53 : decode b_M_init 53 = .ok (.bipush 61, 2) := by decide +kernel
theorem d_M_init_55 : decode b_M_init 55 = .ok (.newarray .long, 2) := by decide +kernel
theorem d_M_init_57 : decode b_M_init 57 = .ok (.putfield 30, 3) := by decide +kernel
theorem d_M_init_60 : decode b_M_init 60 = .ok (.aload_n 0, 1) := by decide +kernel
theorem d_M_init_61 : decode b_M_init 61 = .ok (.bipush 61, 2) := by decide +kernel
theorem d_M_init_63 : decode b_M_init 63 = .ok (.newarray .long, 2) := by decide +kernel
theorem d_M_init_65 : decode b_M_init 65 = .ok (.putfield 33, 3) := by decide +kernel
theorem d_M_init_68 : decode b_M_init 68 = .ok (.aload_n 0, 1) := by decide +kernel
theorem d_M_init_69 : decode b_M_init 69 = .ok (.bipush 61, 2) := by decide +kernel
theorem d_M_init_71 : decode b_M_init 71 = .ok (.newarray .int, 2) := by decide +kernel
theorem d_M_init_73 : decode b_M_init 73 = .ok (.putfield 36, 3) := by decide +kernel
theorem d_M_init_76 : decode b_M_init 76 = .ok (.aload_n 0, 1) := by decide +kernel
theorem d_M_init_77 : decode b_M_init 77 = .ok (.sipush 488, 3) := by decide +kernel
theorem d_M_init_80 : decode b_M_init 80 = .ok (.newarray .boolean, 2) := by decide +kernel
theorem d_M_init_82 : decode b_M_init 82 = .ok (.putfield 39, 3) := by decide +kernel
theorem d_M_init_85 : decode b_M_init 85 = .ok (.aload_n 0, 1) := by decide +kernel
theorem d_M_init_86 : decode b_M_init 86 = .ok (.bipush 61, 2) := by decide +kernel
theorem d_M_init_88 : decode b_M_init 88 = .ok (.newarray .boolean, 2) := by decide +kernel
theorem d_M_init_90 : decode b_M_init 90 = .ok (.putfield 42, 3) := by decide +kernel
theorem d_M_init_93 : decode b_M_init 93 = .ok (.aload_n 0, 1) := by decide +kernel
theorem d_M_init_94 : decode b_M_init 94 = .ok (.bipush 61, 2) := by decide +kernel
theorem d_M_init_96 : decode b_M_init 96 = .ok (.newarray .boolean, 2) := by decide +kernel
theorem d_M_init_98 : decode b_M_init 98 = .ok (.putfield 45, 3) := by decide +kernel
theorem d_M_init_101 : decode b_M_init 101 = .ok (.aload_n 0, 1) := by decide +kernel
theorem d_M_init_102 : decode b_M_init 102 = .ok (.bipush 61, 2) := by decide +kernel
theorem d_M_init_104 : decode b_M_init 104 = .ok (.newarray .int, 2) := by decide +kernel
theorem d_M_init_106 : decode b_M_init 106 = .ok (.putfield 48, 3) := by decide +kernel
theorem d_M_init_109 : decode b_M_init 109 = .ok (.aload_n 0, 1) := by decide +kernel
theorem d_M_init_110 : decode b_M_init 110 = .ok (.bipush 41, 2) := by decide +kernel
theorem d_M_init_112 : decode b_M_init 112 = .ok (.newarray .int, 2) := by decide +kernel
theorem d_M_init_114 : decode b_M_init 114 = .ok (.putfield 51, 3) := by decide +kernel
theorem d_M_init_117 : decode b_M_init 117 = .ok (.aload_n 0, 1) := by decide +kernel
theorem d_M_init_118 : decode b_M_init 118 = .ok (.bipush 41, 2) := by decide +kernel
theorem d_M_init_120 : decode b_M_init 120 = .ok (.newarray .int, 2) := by decide +kernel
theorem d_M_init_122 : decode b_M_init 122 = .ok (.putfield 54, 3) := by decide +kernel
theorem d_M_init_125 : decode b_M_init 125 = .ok (.aload_n 0, 1) := by decide +kernel
theorem d_M_init_126 : decode b_M_init 126 = .ok (.bipush 41, 2) := by decide +kernel
theorem d_M_init_128 : decode b_M_init 128 = .ok (.newarray .long, 2) := by decide +kernel
theorem d_M_init_130 : decode b_M_init 130 = .ok (.putfield 57, 3) := by decide +kernel
theorem d_M_init_133 : decode b_M_init 133 = .ok (.aload_n 0, 1) := by decide +kernel
theorem d_M_init_134 : decode b_M_init 134 = .ok (.bipush 41, 2) := by decide +kernel
theorem d_M_init_136 : decode b_M_init 136 = .ok (.newarray .boolean, 2) := by decide +kernel
theorem d_M_init_138 : decode b_M_init 138 = .ok (.putfield 60, 3) := by decide +kernel
theorem d_M_init_141 : decode b_M_init 141 = .ok (.aload_n 0, 1) := by decide +kernel
theorem d_M_init_142 : decode b_M_init 142 = .ok (.bipush 41, 2) := by decide +kernel
theorem d_M_init_144 : decode b_M_init 144 = .ok (.newarray .boolean, 2) := by decide +kernel
theorem d_M_init_146 : decode b_M_init 146 = .ok (.putfield 63, 3) := by decide +kernel
theorem d_M_init_149 : decode b_M_init 149 = .ok (.aload_n 0, 1) := by decide +kernel
theorem d_M_init_150 : decode b_M_init 150 = .ok (.bipush 41, 2) := by decide +kernel
theorem d_M_init_152 : decode b_M_init 152 = .ok (.newarray .boolean, 2) := by decide +kernel
theorem d_M_init_154 : decode b_M_init 154 = .ok (.putfield 66, 3) := by decide +kernel
theorem d_M_init_157 : decode b_M_init 157 = .ok (.aload_n 0, 1) := by decide +kernel
theorem d_M_init_158 : decode b_M_init 158 = .ok (.bipush 41, 2) := by decide +kernel
theorem d_M_init_160 : decode b_M_init 160 = .ok (.newarray .int, 2) := by decide +kernel
theorem d_M_init_162 : decode b_M_init 162 = .ok (.putfield 69, 3) := by decide +kernel
theorem d_M_init_165 : decode b_M_init 165 = .ok (.aload_n 0, 1) := by decide +kernel
theorem d_M_init_166 : decode b_M_init 166 = .ok (.bipush 41, 2) := by decide +kernel
theorem d_M_init_168 : decode b_M_init 168 = .ok (.newarray .boolean, 2) := by decide +kernel
theorem d_M_init_170 : decode b_M_init 170 = .ok (.putfield 72, 3) := by decide +kernel
theorem d_M_init_173 : decode b_M_init 173 = .ok (.aload_n 0, 1) := by decide +kernel
theorem d_M_init_174 : decode b_M_init 174 = .ok (.sipush 2501, 3) := by decide +kernel
theorem d_M_init_177 : decode b_M_init 177 = .ok (.newarray .boolean, 2) := by decide +kernel
theorem d_M_init_179 : decode b_M_init 179 = .ok (.putfield 75, 3) := by decide +kernel
theorem d_M_init_182 : decode b_M_init 182 = .ok (.aload_n 0, 1) := by decide +kernel
theorem d_M_init_183 : decode b_M_init 183 = .ok (.bipush 7, 2) := by decide +kernel
theorem d_M_init_185 : decode b_M_init 185 = .ok (.newarray .boolean, 2) := by decide +kernel
theorem d_M_init_187 : decode b_M_init 187 = .ok (.putfield 78, 3) := by decide +kernel
theorem d_M_init_190 : decode b_M_init 190 = .ok (.aload_n 0, 1) := by decide +kernel
theorem d_M_init_191 : decode b_M_init 191 = .ok (.bipush 7, 2) := by decide +kernel
theorem d_M_init_193 : decode b_M_init 193 = .ok (.newarray .boolean, 2) := by decide +kernel
theorem d_M_init_195 : decode b_M_init 195 = .ok (.putfield 81, 3) := by decide +kernel
theorem d_M_init_198 : decode b_M_init 198 = .ok (.aload_n 0, 1) := by decide +kernel
theorem d_M_init_199 : decode b_M_init 199 = .ok (.bipush 7, 2) := by decide +kernel
theorem d_M_init_201 : decode b_M_init 201 = .ok (.newarray .int, 2) := by decide +kernel
theorem d_M_init_203 : decode b_M_init 203 = .ok (.dup, 1) := by decide +kernel
theorem d_M_init_204 : decode b_M_init 204 = .ok (.iconst 0, 1) := by decide +kernel
theorem d_M_init_205 : decode b_M_init 205 = .ok (.iconst 0, 1) := by decide +kernel
theorem d_M_init_206 : decode b_M_init 206 = .ok (.iastore, 1) := by decide +kernel
theorem d_M_init_207 : decode b_M_init 207 = .ok (.dup, 1) := by decide +kernel
theorem d_M_init_208 : decode b_M_init 208 = .ok (.iconst 1, 1) := by decide +kernel
theorem d_M_init_209 : decode b_M_init 209 = .ok (.iconst 2, 1) := by decide +kernel
theorem d_M_init_210 : decode b_M_init 210 = .ok (.iastore, 1) := by decide +kernel
theorem d_M_init_211 : decode b_M_init 211 = .ok (.dup, 1) := by decide +kernel
theorem d_M_init_212 : decode b_M_init 212 = .ok (.iconst 2, 1) := by decide +kernel
theorem d_M_init_213 : decode b_M_init 213 = .ok (.iconst 4, 1) := by decide +kernel
theorem d_M_init_214 : decode b_M_init 214 = .ok (.iastore, 1) := by decide +kernel
theorem d_M_init_215 : decode b_M_init 215 = .ok (.dup, 1) := by decide +kernel
theorem d_M_init_216 : decode b_M_init 216 = .ok (.iconst 3, 1) := by decide +kernel
theorem d_M_init_217 : decode b_M_init 217 = .ok (.iconst 3, 1) := by decide +kernel
theorem d_M_init_218 : decode b_M_init 218 = .ok (.iastore, 1) := by decide +kernel
theorem d_M_init_219 : decode b_M_init 219 = .ok (.dup, 1) := by decide +kernel
theorem d_M_init_220 : decode b_M_init 220 = .ok (.iconst 4, 1) := by decide +kernel
theorem d_M_init_221 : decode b_M_init 221 = .ok (.iconst 1, 1) := by decide +kernel
theorem d_M_init_222 : decode b_M_init 222 = .ok (.iastore, 1) := by decide +kernel
theorem d_M_init_223 : decode b_M_init 223 = .ok (.dup, 1) := by decide +kernel
theorem d_M_init_224 : decode b_M_init 224 = .ok (.iconst 5, 1) := by decide +kernel
theorem d_M_init_225 : decode b_M_init 225 = .ok (.bipush 6, 2) := by decide +kernel
theorem d_M_init_227 : decode b_M_init 227 = .ok (.iastore, 1) := by decide +kernel
theorem d_M_init_228 : decode b_M_init 228 = .ok (.dup, 1) := by decide +kernel
theorem d_M_init_229 : decode b_M_init 229 = .ok (.bipush 6, 2) := by decide +kernel
theorem d_M_init_231 : decode b_M_init 231 = .ok (.bipush 7, 2) := by decide +kernel
theorem d_M_init_233 : decode b_M_init 233 = .ok (.iastore, 1) := by decide +kernel
theorem d_M_init_234 : decode b_M_init 234 = .ok (.putfield 84, 3) := by decide +kernel
theorem d_M_init_237 : decode b_M_init 237 = .ok (.aload_n 0, 1) := by decide +kernel
theorem d_M_init_238 : decode b_M_init 238 = .ok (.bipush 21, 2) := by decide +kernel
theorem d_M_init_240 : decode b_M_init 240 = .ok (.newarray .int, 2) := by decide +kernel
theorem d_M_init_242 : decode b_M_init 242 = .ok (.dup, 1) := by decide +kernel
theorem d_M_init_243 : decode b_M_init 243 = .ok (.iconst 0, 1) := by decide +kernel
theorem d_M_init_244 : decode b_M_init 244 = .ok (.iconst 0, 1) := by decide +kernel
theorem d_M_init_245 : decode b_M_init 245 = .ok (.iastore, 1) := by decide +kernel
theorem d_M_init_246 : decode b_M_init 246 = .ok (.dup, 1) := by decide +kernel
theorem d_M_init_247 : decode b_M_init 247 = .ok (.iconst 1, 1) := by decide +kernel
theorem d_M_init_248 : decode b_M_init 248 = .ok (.iconst 0, 1) := by decide +kernel
theorem d_M_init_249 : decode b_M_init 249 = .ok (.iastore, 1) := by decide +kernel
theorem d_M_init_250 : decode b_M_init 250 = .ok (.dup, 1) := by decide +kernel
theorem d_M_init_251 : decode b_M_init 251 = .ok (.iconst 2, 1) := by decide +kernel
theorem d_M_init_252 : decode b_M_init 252 = .ok (.iconst 0, 1) := by decide +kernel
theorem d_M_init_253 : decode b_M_init 253 = .ok (.iastore, 1) := by decide +kernel
theorem d_M_init_254 : decode b_M_init 254 = .ok (.dup, 1) := by decide +kernel
theorem d_M_init_255 : decode b_M_init 255 = .ok (.iconst 3, 1) := by decide +kernel
theorem d_M_init_256 : decode b_M_init 256 = .ok (.iconst 1, 1) := by decide +kernel
theorem d_M_init_257 : decode b_M_init 257 = .ok (.iastore, 1) := by decide +kernel
theorem d_M_init_258 : decode b_M_init 258 = .ok (.dup, 1) := by decide +kernel
theorem d_M_init_259 : decode b_M_init 259 = .ok (.iconst 4, 1) := by decide +kernel
theorem d_M_init_260 : decode b_M_init 260 = .ok (.iconst 0, 1) := by decide +kernel
theorem d_M_init_261 : decode b_M_init 261 = .ok (.iastore, 1) := by decide +kernel
theorem d_M_init_262 : decode b_M_init 262 = .ok (.dup, 1) := by decide +kernel
theorem d_M_init_263 : decode b_M_init 263 = .ok (.iconst 5, 1) := by decide +kernel
theorem d_M_init_264 : decode b_M_init 264 = .ok (.iconst 0, 1) := by decide +kernel
theorem d_M_init_265 : decode b_M_init 265 = .ok (.iastore, 1) := by decide +kernel
theorem d_M_init_266 : decode b_M_init 266 = .ok (.dup, 1) := by decide +kernel
theorem d_M_init_267 : decode b_M_init 267 = .ok (.bipush 6, 2) := by decide +kernel
theorem d_M_init_269 : decode b_M_init 269 = .ok (.iconst 1, 1) := by decide +kernel
theorem d_M_init_270 : decode b_M_init 270 = .ok (.iastore, 1) := by decide +kernel
theorem d_M_init_271 : decode b_M_init 271 = .ok (.dup, 1) := by decide +kernel
theorem d_M_init_272 : decode b_M_init 272 = .ok (.bipush 7, 2) := by decide +kernel
theorem d_M_init_274 : decode b_M_init 274 = .ok (.iconst 2, 1) := by decide +kernel
theorem d_M_init_275 : decode b_M_init 275 = .ok (.iastore, 1) := by decide +kernel
theorem d_M_init_276 : decode b_M_init 276 = .ok (.dup, 1) := by decide +kernel
theorem d_M_init_277 : decode b_M_init 277 = .ok (.bipush 8, 2) := by decide +kernel
theorem d_M_init_279 : decode b_M_init 279 = .ok (.iconst 0, 1) := by decide +kernel
theorem d_M_init_280 : decode b_M_init 280 = .ok (.iastore, 1) := by decide +kernel
theorem d_M_init_281 : decode b_M_init 281 = .ok (.dup, 1) := by decide +kernel
theorem d_M_init_282 : decode b_M_init 282 = .ok (.bipush 9, 2) := by decide +kernel
theorem d_M_init_284 : decode b_M_init 284 = .ok (.iconst 1, 1) := by decide +kernel
theorem d_M_init_285 : decode b_M_init 285 = .ok (.iastore, 1) := by decide +kernel
theorem d_M_init_286 : decode b_M_init 286 = .ok (.dup, 1) := by decide +kernel
theorem d_M_init_287 : decode b_M_init 287 = .ok (.bipush 10, 2) := by decide +kernel
theorem d_M_init_289 : decode b_M_init 289 = .ok (.iconst 3, 1) := by decide +kernel
theorem d_M_init_290 : decode b_M_init 290 = .ok (.iastore, 1) := by decide +kernel
theorem d_M_init_291 : decode b_M_init 291 = .ok (.dup, 1) := by decide +kernel
theorem d_M_init_292 : decode b_M_init 292 = .ok (.bipush 11, 2) := by decide +kernel
theorem d_M_init_294 : decode b_M_init 294 = .ok (.iconst 0, 1) := by decide +kernel
theorem d_M_init_295 : decode b_M_init 295 = .ok (.iastore, 1) := by decide +kernel
theorem d_M_init_296 : decode b_M_init 296 = .ok (.dup, 1) := by decide +kernel
theorem d_M_init_297 : decode b_M_init 297 = .ok (.bipush 12, 2) := by decide +kernel
theorem d_M_init_299 : decode b_M_init 299 = .ok (.iconst 1, 1) := by decide +kernel
theorem d_M_init_300 : decode b_M_init 300 = .ok (.iastore, 1) := by decide +kernel
theorem d_M_init_301 : decode b_M_init 301 = .ok (.dup, 1) := by decide +kernel
theorem d_M_init_302 : decode b_M_init 302 = .ok (.bipush 13, 2) := by decide +kernel
theorem d_M_init_304 : decode b_M_init 304 = .ok (.iconst 0, 1) := by decide +kernel
theorem d_M_init_305 : decode b_M_init 305 = .ok (.iastore, 1) := by decide +kernel
theorem d_M_init_306 : decode b_M_init 306 = .ok (.dup, 1) := by decide +kernel
theorem d_M_init_307 : decode b_M_init 307 = .ok (.bipush 14, 2) := by decide +kernel
theorem d_M_init_309 : decode b_M_init 309 = .ok (.iconst 0, 1) := by decide +kernel
theorem d_M_init_310 : decode b_M_init 310 = .ok (.iastore, 1) := by decide +kernel
theorem d_M_init_311 : decode b_M_init 311 = .ok (.dup, 1) := by decide +kernel
theorem d_M_init_312 : decode b_M_init 312 = .ok (.bipush 15, 2) := by decide +kernel
theorem d_M_init_314 : decode b_M_init 314 = .ok (.iconst 4, 1) := by decide +kernel
theorem d_M_init_315 : decode b_M_init 315 = .ok (.iastore, 1) := by decide +kernel
theorem d_M_init_316 : decode b_M_init 316 = .ok (.dup, 1) := by decide +kernel
theorem d_M_init_317 : decode b_M_init 317 = .ok (.bipush 16, 2) := by decide +kernel
theorem d_M_init_319 : decode b_M_init 319 = .ok (.iconst 3, 1) := by decide +kernel
theorem d_M_init_320 : decode b_M_init 320 = .ok (.iastore, 1) := by decide +kernel
theorem d_M_init_321 : decode b_M_init 321 = .ok (.dup, 1) := by decide +kernel
theorem d_M_init_322 : decode b_M_init 322 = .ok (.bipush 17, 2) := by decide +kernel
theorem d_M_init_324 : decode b_M_init 324 = .ok (.iconst 5, 1) := by decide +kernel
theorem d_M_init_325 : decode b_M_init 325 = .ok (.iastore, 1) := by decide +kernel
theorem d_M_init_326 : decode b_M_init 326 = .ok (.dup, 1) := by decide +kernel
theorem d_M_init_327 : decode b_M_init 327 = .ok (.bipush 18, 2) := by decide +kernel
theorem d_M_init_329 : decode b_M_init 329 = .ok (.iconst 4, 1) := by decide +kernel
theorem d_M_init_330 : decode b_M_init 330 = .ok (.iastore, 1) := by decide +kernel
theorem d_M_init_331 : decode b_M_init 331 = .ok (.dup, 1) := by decide +kernel
theorem d_M_init_332 : decode b_M_init 332 = .ok (.bipush 19, 2) := by decide +kernel
theorem d_M_init_334 : decode b_M_init 334 = .ok (.iconst 5, 1) := by decide +kernel
theorem d_M_init_335 : decode b_M_init 335 = .ok (.iastore, 1) := by decide +kernel
theorem d_M_init_336 : decode b_M_init 336 = .ok (.dup, 1) := by decide +kernel
theorem d_M_init_337 : decode b_M_init 337 = .ok (.bipush 20, 2) := by decide +kernel
theorem d_M_init_339 : decode b_M_init 339 = .ok (.iconst 0, 1) := by decide +kernel
theorem d_M_init_340 : decode b_M_init 340 = .ok (.iastore, 1) := by decide +kernel
theorem d_M_init_341 : decode b_M_init 341 = .ok (.putfield 87, 3) := by decide +kernel
theorem d_M_init_344 : decode b_M_init 344 = .ok (.aload_n 0, 1) := by decide +kernel
theorem d_M_init_345 : decode b_M_init 345 = .ok (.bipush 61, 2) := by decide +kernel
theorem d_M_init_347 : decode b_M_init 347 = .ok (.newarray .boolean, 2) := by decide +kernel
theorem d_M_init_349 : decode b_M_init 349 = .ok (.putfield 90, 3) := by decide +kernel
theorem d_M_init_352 : decode b_M_init 352 = .ok (.aload_n 0, 1) := by decide +kernel
theorem d_M_init_353 : decode b_M_init 353 = .ok (.getfield 78, 3) := by decide +kernel
theorem d_M_init_356 : decode b_M_init 356 = .ok (.iconst 5, 1) := by decide +kernel
theorem d_M_init_357 : decode b_M_init 357 = .ok (.iconst 1, 1) := by decide +kernel
theorem d_M_init_358 : decode b_M_init 358 = .ok (.bastore, 1) := by decide +kernel
theorem d_M_init_359 : decode b_M_init 359 = .ok (.aload_n 0, 1) := by decide +kernel
theorem d_M_init_360 : decode b_M_init 360 = .ok (.getfield 78, 3) := by decide +kernel
theorem d_M_init_363 : decode b_M_init 363 = .ok (.bipush 6, 2) := by decide +kernel
theorem d_M_init_365 : decode b_M_init 365 = .ok (.iconst 1, 1) := by decide +kernel
theorem d_M_init_366 : decode b_M_init 366 = .ok (.bastore, 1) := by decide +kernel
theorem d_M_init_367 : decode b_M_init 367 = .ok (.return_, 1) := by decide +kernel
